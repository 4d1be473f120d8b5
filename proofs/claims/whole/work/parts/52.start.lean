/-! THE CLAIM OUT OF ONE WALK OF THE LAW'S BODY. Your part is whole_start (and what it stands on); all else here is the same for every law, but numbers. -/
def R_law : String := "CaskGaugeLaw"
def lw_P (b : Addr) (xs : List Int32) (args : Array Value) (s : State) : Prop := args = #[.ref b] ∧ s.IntsAt b xs ∧ xs.length ≤ 2048 ∧ (Jvm.Cond.and given_1 narrow_1).before args s = true
/-- what a walk over the start with the record d0 says of its end, said of the start itself -/
theorem lw_closed {s t : State} {o : Outcome} {d0 : Drawn} {L : List Loc} {k n : Nat} (hd0 : s.drawn.sameBut d0 lw_cs) (hv : ∃ v, o = .returned v) (hW : (s.setDrawn d0).WarmedH t.vm) (hs : (s.setDrawn d0).sameButNew ({ t with vm := s.vm } : State) L k n) : State.butDraws s t lw_cs (fun t1 => Framed s o t1 L k n) := by
  have h2 : t.drawn = d0 := congrArg State.drawn hs.1
  refine ⟨⟨hv, hW, State.sameButNew.setDrawn hs s.drawn⟩, ?_, by decide⟩
  rw [h2]
  exact hd0
def lw_Q (_ : Array Value) (s : State) (o : Outcome) (t : State) : Prop := o = .returned (some (.int 1)) ∧ State.butDraws s t lw_cs (fun t1 => Framed s o t1 [] 600000 7302250)
def lw_Z (below : List Frame) (a : Array Value) (s : State) : State → Prop := fun t => ∃ o, t.status = .running ∧ Ended t below o ∧ lw_Q a s o t
/-- the law's own end, with 1 on the stack, nothing written that was there before, its room as the claim has it; d0: the record of draws at this point (at the entry s.drawn: begin with 'refine W.base ?_' and 'have hd0 := Drawn.sameBut.refl s.drawn lw_cs') -/
theorem lw_ret {p : Program} {l : Launch} {e : Env} {s : State} {m : MethodId} {below : List Frame} {meth : Method} {c : Code} {b : Nat} {d0 : Drawn} (hd0 : s.drawn.sameBut d0 lw_cs) (hx : p.tables.exec = Jvm.exec) (hb : c.code = code) (hr : meth.sig.returnType = ret) (hlocks : meth.locks = false) {pc : Nat} {H : Heap} {ls : Array Slot} (hdg : decode code pc = .ok (.ireturn, 1)) : W p l e room_1 (s.setDrawn d0) m #[Value.ref b] below meth c H [] 600000 7302250 (lw_Z below #[Value.ref b] s) (F0 m pc ls [.int 1]) := by
  intro T hT X
  obtain ⟨fs, hret, hrun, hended, hW, hframe⟩ := X.leave (v := some (.int 1)) (hlocks := hlocks) (fun h => by rw [hr] at h; cases h)
  have hmeth' : T.vm.method? m = some meth := X.method'
  refine ⟨T.setFrames fs, ?_, .returned (some (.int 1)), hrun, hended, rfl, lw_closed hd0 ⟨_, rfl⟩ hW hframe⟩
  jvm_step X.here [X.here.top, hx, hb, hdg, hmeth', hr, ret, narrow_b1]
  (try refine ⟨rfl, ?_⟩); (try refine ⟨rfl, ?_⟩)
  first | (intro acts; rw [hret _ acts rfl rfl rfl]) | rw [hret _ _ rfl rfl rfl]
  exact Steps.refl _
/-- what holds at the law's entry: the machine, the code, the tables' words (any of lw_tbl by 'hts w (by decide +kernel)'), the script of L ints xs at the cell b, what the Statement gives of the start (any of its parts by flat_of_before) -/
def lw_At (p : Program) (s : State) (m : MethodId) (meth : Method) (c : Code) (b L : Nat) (xs : Nat → Int32) : Prop :=
  p.tables.exec = Jvm.exec ∧ c.code = code ∧ meth.sig.returnType = ret ∧ c.maxLocals = 4 ∧ s.vm.findClass R_law = some m.cls ∧ (∀ w ∈ lw_tbl, w.before #[Value.ref b] s = true) ∧ va_X b L xs s s.heap ∧ b < s.heap.size ∧ meth.locks = false ∧ (Jvm.Cond.and given_1 narrow_1).before #[Value.ref b] s = true ∧ meth.name = "law"
theorem st_classes {s : State} {A : Array Value} (hts : ∀ w ∈ lw_good, w.before A s = true) : ∃ P : Nat → ClassId × (Nat → Nat), ∀ (k : Nat) (q : vw_C), vwCl[k]? = some q → u_Kn s q.1 q.2.1 q.2.2 (P k).1 (P k).2 := by
  have h : ∀ k : Nat, ∃ P : ClassId × (Nat → Nat), ∀ q : vw_C, vwCl[k]? = some q → u_Kn s q.1 q.2.1 q.2.2 P.1 P.2 := by
    intro k
    match k with
    | 0 =>
      obtain ⟨cC, iS, hK⟩ := u_known (C := RX0) (T := TX0) (N := 6) hts clX0.2.2.1 (hts _ isX0)
      exact ⟨(cC, iS), fun q hq => by cases hq; exact hK⟩
    | 1 =>
      obtain ⟨cC, iS, hK⟩ := u_known (C := RX1) (T := TX1) (N := 2) hts clX1.2.2.1 (hts _ isX1)
      exact ⟨(cC, iS), fun q hq => by cases hq; exact hK⟩
    | 2 =>
      obtain ⟨cC, iS, hK⟩ := u_known (C := RX2) (T := TX2) (N := 6) hts clX2.2.2.1 (hts _ isX2)
      exact ⟨(cC, iS), fun q hq => by cases hq; exact hK⟩
    | 3 =>
      obtain ⟨cC, iS, hK⟩ := u_known (C := RX3) (T := TX3) (N := 3) hts clX3.2.2.1 (hts _ isX3)
      exact ⟨(cC, iS), fun q hq => by cases hq; exact hK⟩
    | 4 =>
      obtain ⟨cC, iS, hK⟩ := u_known (C := RX4) (T := TX4) (N := 4) hts clX4.2.2.1 (hts _ isX4)
      exact ⟨(cC, iS), fun q hq => by cases hq; exact hK⟩
    | 5 =>
      obtain ⟨cC, iS, hK⟩ := u_known (C := RX5) (T := TX5) (N := 5) hts clX5.2.2.1 (hts _ isX5)
      exact ⟨(cC, iS), fun q hq => by cases hq; exact hK⟩
    | 6 =>
      obtain ⟨cC, iS, hK⟩ := u_known (C := RX6) (T := TX6) (N := 3) hts clX6.2.2.1 (hts _ isX6)
      exact ⟨(cC, iS), fun q hq => by cases hq; exact hK⟩
    | 7 =>
      obtain ⟨cC, iS, hK⟩ := u_known (C := RX7) (T := TX7) (N := 5) hts clX7.2.2.1 (hts _ isX7)
      exact ⟨(cC, iS), fun q hq => by cases hq; exact hK⟩
    | 8 =>
      obtain ⟨cC, iS, hK⟩ := u_known (C := RX8) (T := TX8) (N := 11) hts clX8.2.2.1 (hts _ isX8)
      exact ⟨(cC, iS), fun q hq => by cases hq; exact hK⟩
    | 9 =>
      obtain ⟨cC, iS, hK⟩ := u_known (C := RX9) (T := TX9) (N := 21) hts clX9.2.2.1 (hts _ isX9)
      exact ⟨(cC, iS), fun q hq => by cases hq; exact hK⟩
    | k + 10 => exact ⟨(0, fun _ => 0), fun q hq => by simp [vwCl] at hq⟩
  exact Classical.axiomOfChoice h
theorem st_prim {s : State} {A : Array Value} {ty : FieldType} (h : (Cond.arrayClass ty).before A s = true) : ∃ c : ClassId, ArrOfT s c ty ∧ s.vm.findClass ("[" ++ ty.toString) = some c := by
  obtain ⟨c, k, comp, h1, h2, h3⟩ := Cond.arrayClass_spec h
  exact ⟨c, fun n z => ⟨fun k h => (by cases h), k, h2, comp, h3⟩, h1⟩
theorem st_obj {s : State} {C : String} (h : va_AO C s) : ∃ c : ClassId, ArrOfT s c (.object C) ∧ va_RA s c (.object C) := by
  obtain ⟨comp, c, k, h1, h2, h3, h4, h5⟩ := Cond.arrayOver_spec h
  exact ⟨c, fun n z => ⟨fun k h => (by cases h), k, h3, comp, h4⟩, k, comp, h3, h4, h1, h5⟩
theorem st_types {s : State} {A : Array Value} (hts : ∀ w ∈ lw_good, w.before A s = true) (h0 : va_AO RX0 s) (h1 : va_AO RX1 s) (h2 : va_AO RX2 s) : ∃ g : Nat → ClassId, ∀ (k : Nat) (q : ClassId × FieldType), (sm_tys g)[k]? = some q → ArrOfT s q.1 q.2 ∧ va_RA s q.1 q.2 := by
  obtain ⟨c0, a0, b0⟩ := st_prim (hts _ ac_int)
  obtain ⟨c1, a1, b1⟩ := st_prim (hts _ ac_boolean)
  obtain ⟨c2, a2, b2⟩ := st_prim (hts _ ac_byte)
  obtain ⟨c3, a3, b3⟩ := st_obj h0
  obtain ⟨c4, a4, b4⟩ := st_obj h1
  obtain ⟨c5, a5, b5⟩ := st_obj h2
  refine ⟨fun k => match k with | 0 => c0 | 1 => c1 | 2 => c2 | 3 => c3 | 4 => c4 | _ => c5, fun k q hq => ?_⟩
  match k, hq with
  | 0, hq => cases hq; exact ⟨a0, b0⟩
  | 1, hq => cases hq; exact ⟨a1, b1⟩
  | 2, hq => cases hq; exact ⟨a2, b2⟩
  | 3, hq => cases hq; exact ⟨a3, b3⟩
  | 4, hq => cases hq; exact ⟨a4, b4⟩
  | 5, hq => cases hq; exact ⟨a5, b5⟩
  | k + 6, hq => simp [sm_tys] at hq
theorem st_ad (z b t0 : Nat) (adK adV : Nat → Nat) : ∃ ad : Nat → Nat, (∀ k, k < 1000000 → ad k = z + k) ∧ ad 1000000 = b ∧ (∀ i, i < 2 → ad (1000001 + i) = adK i) ∧ (∀ i, i < 2 → ad (1000003 + i) = adV i) ∧ ad 1000005 = t0 := by
  refine ⟨fun k => if k < 1000000 then z + k else if k = 1000000 then b else if k < 1000003 then adK (k - 1000001) else if k < 1000005 then adV (k - 1000003) else t0, fun k hk => if_pos hk, ?_, fun i hi => ?_, fun i hi => ?_, ?_⟩
  · show (if 1000000 < 1000000 then _ else _) = _
    rw [if_neg (by omega), if_pos rfl]
  · show (if 1000001 + i < 1000000 then _ else _) = _
    rw [if_neg (by omega), if_neg (by omega), if_pos (by omega), show 1000001 + i - 1000001 = i by omega]
  · show (if 1000003 + i < 1000000 then _ else _) = _
    rw [if_neg (by omega), if_neg (by omega), if_neg (by omega), if_pos (by omega), show 1000003 + i - 1000003 = i by omega]
  · show (if 1000005 < 1000000 then _ else _) = _
    rw [if_neg (by omega), if_neg (by omega), if_neg (by omega), if_neg (by omega)]
theorem st_S {adK adV aK aV : Nat → Nat} {len : List Nat} {byt : List (List Int32)} {A : Nat → Prop} {U : State} {H : Heap} (hK : ∀ i, i < 2 → aK i = adK i) (hV : ∀ i, i < 2 → aV i = adV i) (h : vk_S 2 len byt adK adV A U H) : vk_S 2 len byt aK aV A U H := by
  refine ⟨fun i hi => ?_, fun i j hi hj e => h.2 i j hi hj ?_⟩
  · rw [hK i hi, hV i hi]
    exact h.1 i hi
  · rw [← hK i hi, ← hK j hj]
    exact e
set_option maxHeartbeats 4000000 in
set_option maxRecDepth 100000 in
theorem whole_start {p : Program} {e : Env} {s : State} {m : MethodId} {below : List Frame} {meth : Method} {c : Code} (l : Launch) (hflags : l.flags = flags0) {b L : Nat} {xs : Nat → Int32} (hL : L ≤ 2048) (C0 : lw_At p s m meth c b L xs) : W p l e room_1 s m #[Value.ref b] below meth c s.heap [] 0 0 (lw_Z below #[Value.ref b] s) (entryFrame m ([Value.ref b] : List Value).toArray 4) := by
  obtain ⟨hx, hb, hr, hml, hown, hts, hX, hbl, hlocks, hgv, hnm⟩ := C0
  have hg := flat_of_before _ hgv
  have hgood : ∀ w ∈ lw_good, w.before #[Value.ref b] s = true := fun w hw => hts w (lw_good_sub hw)
  have hA : ∀ a : Nat, a < s.heap.size → ¬ (fun q : Nat => s.heap.size ≤ q) a := fun a h => Nat.not_le.mpr h
  obtain ⟨adK, adV, hStr, hev⟩ : ∃ adK adV : Nat → Nat, vk_S 2 [4, 6] [[99, 97, 115, 107], [115, 116, 97, 110, 100, 115]] adK adV (fun q => s.heap.size ≤ q) s s.heap ∧ ∀ i : Nat, i < 2 → ((fun i : Nat => if i = 0 then Term.string "CaskGauge$Text" 52 else Term.string "CaskGauge$Text" 58) i).eval #[Value.ref b] s none [] s = some (.ref (adK i)) := by
    refine vk_Sof ?_ ?_ ?_ ?_ ?_ ?_ ?_ hA
    · decide
    · intro i hi
      rcases (show i = 0 ∨ i = 1 by omega) with rfl | rfl
      · exact hg _ (by decide +kernel)
      · exact hg _ (by decide +kernel)
    · intro i hi
      rcases (show i = 0 ∨ i = 1 by omega) with rfl | rfl
      · exact hg _ (by decide +kernel)
      · exact hg _ (by decide +kernel)
    · intro i hi
      rcases (show i = 0 ∨ i = 1 by omega) with rfl | rfl
      · exact hg _ (by decide +kernel)
      · exact hg _ (by decide +kernel)
    · intro i hi
      rcases (show i = 0 ∨ i = 1 by omega) with rfl | rfl
      · exact hg _ (by decide +kernel)
      · exact hg _ (by decide +kernel)
    · intro i hi j hj
      rcases (show i = 0 ∨ i = 1 by omega) with rfl | rfl
      · have hj : j < 4 := hj
        rcases (show j = 0 ∨ j = 1 ∨ j = 2 ∨ j = 3 by omega) with rfl | rfl | rfl | rfl
        · exact hg _ (by decide +kernel)
        · exact hg _ (by decide +kernel)
        · exact hg _ (by decide +kernel)
        · exact hg _ (by decide +kernel)
      · have hj : j < 6 := hj
        rcases (show j = 0 ∨ j = 1 ∨ j = 2 ∨ j = 3 ∨ j = 4 ∨ j = 5 by omega) with rfl | rfl | rfl | rfl | rfl | rfl
        · exact hg _ (by decide +kernel)
        · exact hg _ (by decide +kernel)
        · exact hg _ (by decide +kernel)
        · exact hg _ (by decide +kernel)
        · exact hg _ (by decide +kernel)
        · exact hg _ (by decide +kernel)
    · intro i j hi hj hij
      rcases (show (i = 0 ∧ j = 1) ∨ (i = 1 ∧ j = 0) by omega) with ⟨rfl, rfl⟩ | ⟨rfl, rfl⟩
      · exact Or.inl (hg _ (by decide +kernel))
      · exact Or.inr (hg _ (by decide +kernel))
  have hC1 : va_Z RJ0 "COMPACT_STRINGS" "Z" (.int 1) (fun q => s.heap.size ≤ q) s s.heap := va_Zof (hts _ (List.mem_append_right _ (List.mem_of_getElem? (i := 311) (by decide +kernel)))) (hgood _ iniJ0) (va_eqt (hg (Cond.eq (.static "java/lang/String" "COMPACT_STRINGS" "Z") (.int 1)) (by decide +kernel))) hA
  obtain ⟨t0, hF⟩ : ∃ t0 : Nat, va_Z RJ3 "SIOOBE_FORMATTER" "Ljava/util/function/BiFunction;" .null (fun q => s.heap.size ≤ q) s s.heap ∨ va_Z RJ3 "SIOOBE_FORMATTER" "Ljava/util/function/BiFunction;" (.ref t0) (fun q => s.heap.size ≤ q) s s.heap := by
    rcases va_Zqof (A := fun q => s.heap.size ≤ q) (hts _ (List.mem_append_right _ (List.mem_of_getElem? (i := 327) (by decide +kernel)))) (hgood _ iniJ3) (hg (Cond.isRef (.static "jdk/internal/util/Preconditions" "SIOOBE_FORMATTER" "Ljava/util/function/BiFunction;")) (by decide +kernel)) hA with h | ⟨t, h⟩
    · exact ⟨0, Or.inl h⟩
    · exact ⟨t, Or.inr h⟩
  have hN : sm_N s := ⟨va_AO.of (hts _ (List.mem_append_right _ (List.mem_of_getElem? (i := 65) (by decide +kernel)))), va_AO.of (hts _ (List.mem_append_right _ (List.mem_of_getElem? (i := 137) (by decide +kernel)))), va_AO.of (hts _ (List.mem_append_right _ (List.mem_of_getElem? (i := 169) (by decide +kernel)))), va_Nw.of rfl (hts _ (List.mem_append_right _ (List.mem_of_getElem? (i := 67) (by decide +kernel)))), va_Nw.of rfl (hts _ (List.mem_append_right _ (List.mem_of_getElem? (i := 196) (by decide +kernel))))⟩
  obtain ⟨P, hP⟩ := st_classes hgood
  obtain ⟨g, hT⟩ := st_types hgood hN.1 hN.2.1 hN.2.2.1
  obtain ⟨ad, a1, a2, a3, a4, a5⟩ := st_ad s.heap.size b t0 adK adV
  have hO : sm_O (L, xs) (s.heap.size, ad, (fun k => (P k).1, fun k => (P k).2), g, fun _ => 0) s s.heap := by
    refine ⟨?_, ?_, st_S a3 a4 hStr, hC1, hF.imp id (fun h => ?_), ?_, ?_⟩
    · show vk_R RX7 52 "cask" (ad 1000001) s
      rw [show ad 1000001 = adK 0 from a3 0 (by omega)]
      exact vk_R.of (A := #[Value.ref b]) (hts _ (List.mem_append_right _ (List.mem_of_getElem? (i := 297) (by decide +kernel)))) (hev 0 (by omega))
    · show vk_R RX7 58 "stands" (ad 1000002) s
      rw [show ad 1000002 = adK 1 from a3 1 (by omega)]
      exact vk_R.of (A := #[Value.ref b]) (hts _ (List.mem_append_right _ (List.mem_of_getElem? (i := 350) (by decide +kernel)))) (hev 1 (by omega))
    · show va_Z RJ3 "SIOOBE_FORMATTER" "Ljava/util/function/BiFunction;" (.ref (ad 1000005)) (fun q => s.heap.size ≤ q) s s.heap
      rw [a5]
      exact h
    · show va_X (ad 1000000) L xs s s.heap
      rw [a2]
      exact hX
    · show ad 1000000 < s.heap.size
      rw [a2]
      exact hbl
  have hmap : [Value.ref 1000000].map (sm_V ad) = [Value.ref b] := by
    show [Value.ref (ad 1000000)] = _
    rw [a2]
  have hLs := sm_L_entry (ad := ad) (as := [.ref 1000000]) (nL := 4) (by simp [Value.category]) (by decide)
  rw [hmap] at hLs
  rw [entry_eq m [Value.ref b] (by simp [Value.category]) 4]
  refine lw_begin (ζ := (L, xs)) hL (sh := fun _ => (0, 0, [])) (I := fun _ _ => 0) (s.heap.size, ad, (fun k => (P k).1, fun k => (P k).2), g, fun _ => 0) p l e s m _ below meth c _ s.heap [] _ ⟨hx, hb, hml, hown, hgood, hnm, ⟨a1, ⟨hP, hT⟩, hN, hO, Nat.le_refl _⟩, ?_⟩ ⟨va_S.rf, ⟨rfl, Nat.zero_le _, fun a ha => absurd ha (Nat.not_lt_zero a)⟩, hLs⟩
  intro r n' sh' I' H locs cl sl pc ls hc hs hq hH' hS hR
  subst hq
  refine W.widen (k := 600000) (n := 7302250) hc hs ?_
  refine va_forget (fun q hq => hS.2.2 q hq) ?_
  exact W.base (lw_ret (Drawn.sameBut.refl s.drawn lw_cs) hx hb hr hlocks hR.2)
