/-! ===== the two words ===== -/
theorem ws_cs : Cond.fieldLink RJ0 38 RJ0 "COMPACT_STRINGS" "Z" ∈ lw_good := lw_good_in (List.mem_append_right _ (List.mem_of_getElem? (i := 310) (by decide +kernel))) (by decide +kernel)
theorem ws_fm : Cond.fieldLink RJ0 1053 RJ3 "SIOOBE_FORMATTER" "Ljava/util/function/BiFunction;" ∈ lw_good := lw_good_in (List.mem_append_right _ (List.mem_of_getElem? (i := 326) (by decide +kernel))) (by decide +kernel)
theorem ws_va : Cond.fieldLink RJ0 9 RJ0 "value" "[B" ∈ lw_good := lw_good_in (List.mem_append_right _ (List.mem_of_getElem? (i := 925) (by decide +kernel))) (by decide +kernel)
theorem ws_co : Cond.fieldLink RJ0 15 RJ0 "coder" "B" ∈ lw_good := lw_good_in (List.mem_append_right _ (List.mem_of_getElem? (i := 926) (by decide +kernel))) (by decide +kernel)
abbrev wl (i : Nat) : Nat := [4, 6].getD i 0
abbrev wb (i j : Nat) : Int32 := (([[99, 97, 115, 107], [115, 116, 97, 110, 100, 115]] : List (List Int32)).getD i []).getD j 0
def wc (i j : Nat) : Nat := (([[99, 97, 115, 107], [115, 116, 97, 110, 100, 115]] : List (List Nat)).getD i []).getD j 0
theorem wb_c : ∀ i, i < 2 → ∀ j, j < wl i → ((wb i j &&& nI 255).toUInt32 % 65536).toInt32 = nI (wc i j) := by decide +kernel
theorem wc_n : ∀ i, i < 2 → ∀ j, j < wl i → narrow .char (.int (nI (wc i j))) = .int (nI (wc i j)) := by decide +kernel
theorem wc_le : ∀ i, i < 2 → ∀ j, j < wl i → wc i j < 256 := by decide +kernel
theorem wl_le : ∀ i, i < 2 → wl i ≤ 6 := by decide +kernel
section WS
variable {ζ : sm_Z} {R : Room} {μ : sm_Mu} {pc : Nat} {lv : List (Option Value)} {st : List Value} {cl sl n : Nat} {sh : Nat → sm_S} {I : sm_I} {Q : sm_Qt}
theorem x_cs (hd : decode μ.2.1 pc = .ok (.getstatic 38, 3)) (hμ : μ.1.cls = RJ0) (k : Xm ζ R μ (pc + 3) lv (.int 1 :: st) cl sl n sh I Q) : Xm ζ R μ pc lv st cl sl n sh I Q := by
  intro Γ p l e s m args below meth c Z H locs ls C D
  obtain ⟨-, -, -, ⟨-, -, -, h4, -⟩, -⟩ := C.2.2.2.2.2.2.1
  exact va_gets C.1 C.2.1 h4 D.1 (by rw [← hμ]; exact C.2.2.2.1) (C.2.2.2.2.1 _ ws_cs) (fun x h => h) hd (k Γ p l e s m args below meth c Z H locs ls C D)
theorem x_fm (hd : decode μ.2.1 pc = .ok (.getstatic 1053, 3)) (hμ : μ.1.cls = RJ0) (k : ∀ v : Value, (v = .null ∨ v = .ref 1000005) → Xm ζ R μ (pc + 3) lv (v :: st) cl sl n sh I Q) : Xm ζ R μ pc lv st cl sl n sh I Q := by
  intro Γ p l e s m args below meth c Z H locs ls C D
  obtain ⟨-, -, -, ⟨-, -, -, -, h5, -⟩, -⟩ := C.2.2.2.2.2.2.1
  rcases h5 with h5 | h5
  · exact va_gets C.1 C.2.1 h5 D.1 (by rw [← hμ]; exact C.2.2.2.1) (C.2.2.2.2.1 _ ws_fm) (fun x h => h) hd (k .null (Or.inl rfl) Γ p l e s m args below meth c Z H locs ls C D)
  · exact va_gets C.1 C.2.1 h5 D.1 (by rw [← hμ]; exact C.2.2.2.1) (C.2.2.2.2.1 _ ws_fm) (fun x h => h) hd (k (.ref 1000005) (Or.inr rfl) Γ p l e s m args below meth c Z H locs ls C D)
theorem x_va {i : Nat} (hi : i < 2) (hd : decode μ.2.1 pc = .ok (.getfield 9, 3)) (hμ : μ.1.cls = RJ0) (k : Xm ζ R μ (pc + 3) lv (.ref (1000003 + i) :: st) cl sl n sh I Q) : Xm ζ R μ pc lv (.ref (1000001 + i) :: st) cl sl n sh I Q := by
  intro Γ p l e s m args below meth c Z H locs ls C D
  obtain ⟨-, -, -, ⟨-, -, h3, -⟩, -⟩ := C.2.2.2.2.2.2.1
  exact vk_getf C.1 C.2.1 (h3.1 i hi).2.2.1 D.1 (by rw [← hμ]; exact C.2.2.2.1) (C.2.2.2.2.1 _ ws_va) (fun x h => h) hd (k Γ p l e s m args below meth c Z H locs ls C D)
theorem x_co {i : Nat} (hi : i < 2) (hd : decode μ.2.1 pc = .ok (.getfield 15, 3)) (hμ : μ.1.cls = RJ0) (k : Xm ζ R μ (pc + 3) lv (.int 0 :: st) cl sl n sh I Q) : Xm ζ R μ pc lv (.ref (1000001 + i) :: st) cl sl n sh I Q := by
  intro Γ p l e s m args below meth c Z H locs ls C D
  obtain ⟨-, -, -, ⟨-, -, h3, -⟩, -⟩ := C.2.2.2.2.2.2.1
  exact vk_getf C.1 C.2.1 (h3.1 i hi).2.1 D.1 (by rw [← hμ]; exact C.2.2.2.1) (C.2.2.2.2.1 _ ws_co) (fun x h => h) hd (k Γ p l e s m args below meth c Z H locs ls C D)
theorem x_blen {i : Nat} (hi : i < 2) (hd : decode μ.2.1 pc = .ok (.arraylength, 1)) (k : Xm ζ R μ (pc + 1) lv (.int (nI (wl i)) :: st) cl sl n sh I Q) : Xm ζ R μ pc lv (.ref (1000003 + i) :: st) cl sl n sh I Q := by
  intro Γ p l e s m args below meth c Z H locs ls C D
  obtain ⟨-, -, -, ⟨-, -, h3, -⟩, -⟩ := C.2.2.2.2.2.2.1
  exact va_tlen C.1 C.2.1 (h3.1 i hi).2.2.2 D.1 rfl hd (k Γ p l e s m args below meth c Z H locs ls C D)
theorem x_bld {i j : Nat} (hi : i < 2) (hj : j < wl i) (hd : decode μ.2.1 pc = .ok (.baload, 1)) (k : Xm ζ R μ (pc + 1) lv (.int (wb i j) :: st) cl sl n sh I Q) : Xm ζ R μ pc lv (.int (nI j) :: .ref (1000003 + i) :: st) cl sl n sh I Q := by
  intro Γ p l e s m args below meth c Z H locs ls C D
  obtain ⟨-, -, -, ⟨-, -, h3, -⟩, -⟩ := C.2.2.2.2.2.2.1
  have h6 := wl_le i hi
  exact va_tb C.1 C.2.1 (h3.1 i hi).2.2.2 D.1 (vp_in_nI hj (show wl i < 2 ^ 31 by omega)) (v := .int (wb i j)) (by rw [nI_clamp (by omega)]) hd (k Γ p l e s m args below meth c Z H locs ls C D)
theorem x_i2c {x : Int32} (hd : decode μ.2.1 pc = .ok (.i2c, 1)) (k : Xm ζ R μ (pc + 1) lv (.int (x.toUInt32 % 65536).toInt32 :: st) cl sl n sh I Q) : Xm ζ R μ pc lv (.int x :: st) cl sl n sh I Q := by
  intro Γ p l e s m args below meth c Z H locs ls C D
  exact lv_i2c C.1 C.2.1 hd rfl (k Γ p l e s m args below meth c Z H locs ls C D)
theorem x_lds1 (hd : decode μ.2.1 pc = .ok (.ldc 52, 2)) (hμ : μ.1.cls = RX7) (k : Xm ζ R μ (pc + 2) lv (.ref 1000001 :: st) cl sl n sh I Q) : Xm ζ R μ pc lv st cl sl n sh I Q := by
  intro Γ p l e s m args below meth c Z H locs ls C D
  obtain ⟨-, -, -, ⟨h1, -⟩, -⟩ := C.2.2.2.2.2.2.1
  exact va_ldcS C.1 C.2.1 (by rw [← hμ]; exact C.2.2.2.1) h1 hd (k Γ p l e s m args below meth c Z H locs ls C D)
theorem x_lds2 (hd : decode μ.2.1 pc = .ok (.ldc 58, 2)) (hμ : μ.1.cls = RX7) (k : Xm ζ R μ (pc + 2) lv (.ref 1000002 :: st) cl sl n sh I Q) : Xm ζ R μ pc lv st cl sl n sh I Q := by
  intro Γ p l e s m args below meth c Z H locs ls C D
  obtain ⟨-, -, -, ⟨-, h2, -⟩, -⟩ := C.2.2.2.2.2.2.1
  exact va_ldcS C.1 C.2.1 (by rw [← hμ]; exact C.2.2.2.1) h2 hd (k Γ p l e s m args below meth c Z H locs ls C D)
theorem x_callVS {idx d mc ms i : Nat} {μ' : sm_Mu} {as stk : List Value} {Q' : sm_Qt} (hi : i < 2) (hd : decode μ.2.1 pc = .ok (.invokevirtual idx, 3)) (hE : Em d mc ms μ' (.ref (1000001 + i) :: as) n sh I Q') (hstk : stk = as.reverse ++ .ref (1000001 + i) :: st) (hm : sm_Me μ' as.length) (hin : Cond.instanceMethod μ'.1 ∈ lw_good) (hsel : Cond.selects μ'.1.cls μ'.1 μ'.1 ∈ lw_good) (hl : Cond.methodLink μ.1.cls idx μ'.1 ∈ lw_good) (hK : μ'.1.cls = RJ0)
    (hroom : d + 1 ≤ R.frames ∧ 8 + (μ'.2.2.1 + 11) + 40 * d ≤ R.locals) (hcs : cl + mc ≤ R.cells ∧ sl + ms ≤ R.slots) (hst : (st.map fun v => v.category).sum ≤ 8)
    (kk : ∀ r n' sh' I', Q' r n' sh' I' → Xm ζ R μ (pc + 3) lv (r.toList ++ st) (cl + mc) (sl + ms) n' sh' I' Q) : Xm ζ R μ pc lv stk cl sl n sh I Q := by
  intro Γ p l e s m args below meth c Z H locs ls C D
  subst hstk
  have hKs := C.2.2.2.2.2.2.1
  have hts := C.2.2.2.2.1
  obtain ⟨cell, q1, q2, q3⟩ := vk_recv hKs.2.2.2.1.2.2.1 hi D.1
  refine sm_call (rest := st.map (sm_V Γ.2.1)) (va_runV (As := as.map (sm_V Γ.2.1)) (rest := st.map (sm_V Γ.2.1)) (b := Γ.2.1 (1000001 + i)) (C := μ'.1.cls) ⟨C.1, C.2.1, C.2.2.1, C.2.2.2.1, hts⟩ (hE ζ l Γ) ⟨sm_CB hts hm hl hroom, hts _ hin, hts _ hsel⟩ ⟨sm_Pc.blind, ⟨cell, q1, q2, by rw [hK]; exact q3⟩, fun U hU hW => ⟨rfl, by rw [hU]; exact D.2.1, hKs.pass hW (by rw [hU]; exact D.1)⟩⟩ rfl (List.length_map ..) D.2.2.1 ?_ ?_ hd hcs) D.1 (fun r n' sh' I' H1 locs1 hq hH1 hS1 => ?_)
  · simp [sm_V]
  · show 2 * 0 + _ ≤ 8
    rw [sm_catsum]; omega
  · have h := kk r n' sh' I' hq Γ p l e s m args below meth c Z H1 locs1 ls C ⟨hS1, hH1, D.2.2⟩
    cases r <;> exact h
end WS
section OS
variable {ζ : sm_Z} {d : Nat} {μ : sm_Mu} {pc : Nat} {lv : List (Option Value)} {st : List Value} {I : sm_I} {Q : Option Value → sm_I → Prop}
theorem o_cs (hd : decode μ.2.1 pc = .ok (.getstatic 38, 3)) (hμ : μ.1.cls = RJ0) (k : X0 ζ d μ (pc + 3) lv (.int 1 :: st) I Q) : X0 ζ d μ pc lv st I Q := x_cs hd hμ k
theorem o_fm (hd : decode μ.2.1 pc = .ok (.getstatic 1053, 3)) (hμ : μ.1.cls = RJ0) (k : ∀ v : Value, (v = .null ∨ v = .ref 1000005) → X0 ζ d μ (pc + 3) lv (v :: st) I Q) : X0 ζ d μ pc lv st I Q := x_fm hd hμ k
theorem o_va {i : Nat} (hi : i < 2) (hd : decode μ.2.1 pc = .ok (.getfield 9, 3)) (hμ : μ.1.cls = RJ0) (k : X0 ζ d μ (pc + 3) lv (.ref (1000003 + i) :: st) I Q) : X0 ζ d μ pc lv (.ref (1000001 + i) :: st) I Q := x_va hi hd hμ k
theorem o_co {i : Nat} (hi : i < 2) (hd : decode μ.2.1 pc = .ok (.getfield 15, 3)) (hμ : μ.1.cls = RJ0) (k : X0 ζ d μ (pc + 3) lv (.int 0 :: st) I Q) : X0 ζ d μ pc lv (.ref (1000001 + i) :: st) I Q := x_co hi hd hμ k
theorem o_blen {i : Nat} (hi : i < 2) (hd : decode μ.2.1 pc = .ok (.arraylength, 1)) (k : X0 ζ d μ (pc + 1) lv (.int (nI (wl i)) :: st) I Q) : X0 ζ d μ pc lv (.ref (1000003 + i) :: st) I Q := x_blen hi hd k
theorem o_bld {i j : Nat} (hi : i < 2) (hj : j < wl i) (hd : decode μ.2.1 pc = .ok (.baload, 1)) (k : X0 ζ d μ (pc + 1) lv (.int (wb i j) :: st) I Q) : X0 ζ d μ pc lv (.int (nI j) :: .ref (1000003 + i) :: st) I Q := x_bld hi hj hd k
theorem o_i2c {x : Int32} (hd : decode μ.2.1 pc = .ok (.i2c, 1)) (k : X0 ζ d μ (pc + 1) lv (.int (x.toUInt32 % 65536).toInt32 :: st) I Q) : X0 ζ d μ pc lv (.int x :: st) I Q := x_i2c hd k
theorem o_lds1 (hd : decode μ.2.1 pc = .ok (.ldc 52, 2)) (hμ : μ.1.cls = RX7) (k : X0 ζ d μ (pc + 2) lv (.ref 1000001 :: st) I Q) : X0 ζ d μ pc lv st I Q := x_lds1 hd hμ k
theorem o_lds2 (hd : decode μ.2.1 pc = .ok (.ldc 58, 2)) (hμ : μ.1.cls = RX7) (k : X0 ζ d μ (pc + 2) lv (.ref 1000002 :: st) I Q) : X0 ζ d μ pc lv st I Q := x_lds2 hd hμ k
theorem o_callVS {idx d' i : Nat} {μ' : sm_Mu} {as stk : List Value} {v : Value} (hi : i < 2) (hd : decode μ.2.1 pc = .ok (.invokevirtual idx, 3)) (hE : E0 d' μ' (.ref (1000001 + i) :: as) I (fun r I' => I' = I ∧ r = some v)) (hstk : stk = as.reverse ++ .ref (1000001 + i) :: st) (hm : sm_Me μ' as.length) (hin : Cond.instanceMethod μ'.1 ∈ lw_good) (hsel : Cond.selects μ'.1.cls μ'.1 μ'.1 ∈ lw_good) (hl : Cond.methodLink μ.1.cls idx μ'.1 ∈ lw_good) (hK : μ'.1.cls = RJ0) (hdd : d' < d) (hml : μ'.2.2.1 ≤ 21) (hst : (st.map fun v => v.category).sum ≤ 8)
    (kk : X0 ζ d μ (pc + 3) lv (v :: st) I Q) : X0 ζ d μ pc lv stk I Q := x_callVS hi hd hE hstk hm hin hsel hl hK ⟨hdd, by show 8 + (μ'.2.2.1 + 11) + 40 * d' ≤ 40 * d; omega⟩ ⟨Nat.le_refl _, Nat.le_refl _⟩ hst (fun r n' sh' I' h => by obtain ⟨rfl, rfl, h1, h2⟩ := h; rw [h1, h2]; exact kk)
end OS
set_option maxHeartbeats 4000000 in
theorem j_coder (I : sm_I) {i : Nat} (hi : i < 2) : E0 0 mJ0_coder_7d493 [.ref (1000001 + i)] I (fun r I' => I' = I ∧ r = some (.int 0)) := by
  refine E0.of (by decide) (by simp [Value.category]) (Nat.le_of_ble_eq_true rfl) (fun ζ => ?_)
  refine o_cs dJ0_coder_7d493_0 rfl ?_
  refine o_if_eq (tgt := 13) dJ0_coder_7d493_3 (by decide) (fun h => absurd h (by decide)) (fun _ => ?_)
  refine o_aload_n dJ0_coder_7d493_6 rfl rfl ?_
  refine o_co hi dJ0_coder_7d493_7 rfl ?_
  refine o_goto (tgt := 14) dJ0_coder_7d493_10 (by decide) ?_
  exact o_ret (r := some (.int 0)) ⟨⟨.byte, rfl, rfl⟩, dJ0_coder_7d493_14⟩ ⟨rfl, rfl⟩
set_option maxHeartbeats 4000000 in
theorem j_latin (I : sm_I) {i : Nat} (hi : i < 2) : E0 0 mJ0_isLatin1_aae02 [.ref (1000001 + i)] I (fun r I' => I' = I ∧ r = some (.int (nI 1))) := by
  refine E0.of (by decide) (by simp [Value.category]) (Nat.le_of_ble_eq_true rfl) (fun ζ => ?_)
  refine o_cs dJ0_isLatin1_aae02_0 rfl ?_
  refine o_if_eq (tgt := 17) dJ0_isLatin1_aae02_3 (by decide) (fun h => absurd h (by decide)) (fun _ => ?_)
  refine o_aload_n dJ0_isLatin1_aae02_6 rfl rfl ?_
  refine o_co hi dJ0_isLatin1_aae02_7 rfl ?_
  refine o_if_ne (tgt := 17) dJ0_isLatin1_aae02_10 (by decide) (fun h => absurd rfl h) (fun _ => ?_)
  refine o_iconst (v := nI 1) dJ0_isLatin1_aae02_13 (by decide) ?_
  refine o_goto (tgt := 18) dJ0_isLatin1_aae02_14 (by decide) ?_
  exact o_zret dJ0_isLatin1_aae02_18 rfl (by decide) ⟨rfl, rfl⟩
theorem wl_shr : ∀ i, i < 2 → nI (wl i) >>> ((0 : Int32) &&& 31) = nI (wl i) := by decide +kernel
set_option maxHeartbeats 4000000 in
theorem j_len (I : sm_I) {i : Nat} (hi : i < 2) : E0 1 mJ0_length_8abf5 [.ref (1000001 + i)] I (fun r I' => I' = I ∧ r = some (.int (nI (wl i)))) := by
  refine E0.of (by decide) (by simp [Value.category]) (Nat.le_of_ble_eq_true rfl) (fun ζ => ?_)
  refine o_aload_n dJ0_length_8abf5_0 rfl rfl ?_
  refine o_va hi dJ0_length_8abf5_1 rfl ?_
  refine o_blen hi dJ0_length_8abf5_4 ?_
  refine o_aload_n dJ0_length_8abf5_5 rfl rfl ?_
  refine o_callVS (as := []) (st := [.int (nI (wl i))]) (v := .int 0) hi dJ0_length_8abf5_6 (j_coder I hi) rfl meJ0_coder_7d493 imJ0_coder_7d493 seJ0_coder_7d493 mlJ0_335 rfl (by omega) (by decide) (Nat.le_of_ble_eq_true rfl) ?_
  refine o_ishr dJ0_length_8abf5_9 ?_
  rw [wl_shr i hi]
  exact o_iret dJ0_length_8abf5_10 rfl ⟨rfl, rfl⟩
set_option maxHeartbeats 4000000 in
theorem j_pre (I : sm_I) {j n : Nat} (hj : j < n) (hn : n < 2 ^ 31) {v : Value} (hv : v = .null ∨ v = .ref 1000005) : E0 0 mJ3_checkIndex_8e157 [.int (nI j), .int (nI n), v] I (fun r I' => I' = I ∧ r = some (.int (nI j))) := by
  refine E0.of (by decide) (by rcases hv with rfl | rfl <;> simp [Value.category]) (Nat.le_of_ble_eq_true rfl) (fun ζ => ?_)
  refine o_iload_n dJ3_checkIndex_8e157_0 rfl rfl ?_
  refine o_ifN_lt (tgt := 9) dJ3_checkIndex_8e157_1 (by decide) (by omega) ?_
  refine o_iload_n dJ3_checkIndex_8e157_4 rfl rfl ?_
  refine o_iload_n dJ3_checkIndex_8e157_5 rfl rfl ?_
  refine o_icmpN_lt (tgt := 16) dJ3_checkIndex_8e157_6 (by decide) (by omega) (by omega) (fun _ => ?_) (fun h => absurd h (by omega))
  refine o_iload_n dJ3_checkIndex_8e157_16 rfl rfl ?_
  exact o_iret dJ3_checkIndex_8e157_17 rfl ⟨rfl, rfl⟩
set_option maxHeartbeats 4000000 in
theorem j_chk (I : sm_I) {j n : Nat} (hj : j < n) (hn : n < 2 ^ 31) : E0 1 mJ0_checkIndex_df160 [.int (nI j), .int (nI n)] I (fun r I' => r = none ∧ I' = I) := by
  refine E0.of (by decide) (by simp [Value.category]) (Nat.le_of_ble_eq_true rfl) (fun ζ => ?_)
  refine o_iload_n dJ0_checkIndex_df160_0 rfl rfl ?_
  refine o_iload_n dJ0_checkIndex_df160_1 rfl rfl ?_
  refine o_fm dJ0_checkIndex_df160_2 rfl (fun v hv => ?_)
  refine o_callSp (as := [.int (nI j), .int (nI n), v]) (st := []) (v := .int (nI j)) dJ0_checkIndex_df160_5 (j_pre I hj hn hv) rfl meJ3_checkIndex_8e157 ssJ3_checkIndex_8e157 mlJ0_1059 (by omega) (by decide) (Nat.le_of_ble_eq_true rfl) ?_
  refine o_pop dJ0_checkIndex_df160_8 rfl ?_
  exact o_vret dJ0_checkIndex_df160_9 rfl ⟨rfl, rfl⟩
set_option maxHeartbeats 4000000 in
theorem j_lat (I : sm_I) {i j : Nat} (hi : i < 2) (hj : j < wl i) : E0 2 mJ1_charAt_3b067 [.ref (1000003 + i), .int (nI j)] I (fun r I' => I' = I ∧ r = some (.int (nI (wc i j)))) := by
  have h6 := wl_le i hi
  refine E0.of (by decide) (by simp [Value.category]) (Nat.le_of_ble_eq_true rfl) (fun ζ => ?_)
  refine o_iload_n dJ1_charAt_3b067_0 rfl rfl ?_
  refine o_aload_n dJ1_charAt_3b067_1 rfl rfl ?_
  refine o_blen hi dJ1_charAt_3b067_2 ?_
  refine o_callS (as := [.int (nI j), .int (nI (wl i))]) (st := []) dJ1_charAt_3b067_3 (j_chk I hj (by omega)) rfl meJ0_checkIndex_df160 ssJ0_checkIndex_df160 mlJ1_9 (by omega) (by decide) (Nat.le_of_ble_eq_true rfl) ?_
  rintro _ _ ⟨rfl, rfl⟩
  refine o_aload_n dJ1_charAt_3b067_6 rfl rfl ?_
  refine o_iload_n dJ1_charAt_3b067_7 rfl rfl ?_
  refine o_bld hi hj dJ1_charAt_3b067_8 ?_
  refine o_sipush (v := nI 255) dJ1_charAt_3b067_9 (by decide) ?_
  refine o_iand dJ1_charAt_3b067_12 ?_
  refine o_i2c dJ1_charAt_3b067_13 ?_
  rw [wb_c i hi j hj]
  exact o_ret (r := some (.int (nI (wc i j)))) ⟨⟨.char, rfl, wc_n i hi j hj⟩, dJ1_charAt_3b067_14⟩ ⟨rfl, rfl⟩
set_option maxHeartbeats 4000000 in
theorem j_char (I : sm_I) {i j : Nat} (hi : i < 2) (hj : j < wl i) : E0 3 mJ0_charAt_5068e [.ref (1000001 + i), .int (nI j)] I (fun r I' => I' = I ∧ r = some (.int (nI (wc i j)))) := by
  refine E0.of (by decide) (by simp [Value.category]) (Nat.le_of_ble_eq_true rfl) (fun ζ => ?_)
  refine o_aload_n dJ0_charAt_5068e_0 rfl rfl ?_
  refine o_callVS (as := []) (st := []) (v := .int (nI 1)) hi dJ0_charAt_5068e_1 (j_latin I hi) rfl meJ0_isLatin1_aae02 imJ0_isLatin1_aae02 seJ0_isLatin1_aae02 mlJ0_492 rfl (by omega) (by decide) (Nat.le_of_ble_eq_true rfl) ?_
  refine o_ifN_eq (tgt := 16) dJ0_charAt_5068e_4 (by decide) (by omega) (fun h => absurd h (by omega)) (fun _ => ?_)
  refine o_aload_n dJ0_charAt_5068e_7 rfl rfl ?_
  refine o_va hi dJ0_charAt_5068e_8 rfl ?_
  refine o_iload_n dJ0_charAt_5068e_11 rfl rfl ?_
  refine o_callSp (as := [.ref (1000003 + i), .int (nI j)]) (st := []) (v := .int (nI (wc i j))) dJ0_charAt_5068e_12 (j_lat I hi hj) rfl meJ1_charAt_3b067 ssJ1_charAt_3b067 mlJ0_495 (by omega) (by decide) (Nat.le_of_ble_eq_true rfl) ?_
  exact o_ret (r := some (.int (nI (wc i j)))) ⟨⟨.char, rfl, wc_n i hi j hj⟩, dJ0_charAt_5068e_15⟩ ⟨rfl, rfl⟩
