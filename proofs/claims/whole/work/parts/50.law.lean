/-! ===== the law: its walk over its own room ===== -/
abbrev mL_law : sm_Mu := (yL_law, cL_law, 4, some .boolean)
abbrev LW (i : Nat) : List (Option Value) := [some (.ref 1000000), some (.ref 0), some (.ref 106), some (.int (nI i))]
/-- the law's walk behind both constructors -/
def XL (ζ : sm_Z) (pc : Nat) (lv : List (Option Value)) (st : List Value) (I : sm_I) : Prop := Xm ζ room_1 mL_law pc lv st 116 5647 116 SH I (fun r _ _ _ => r = some (.int 1))
section LL
variable {ζ : sm_Z} {pc : Nat} {lv : List (Option Value)} {st : List Value} {I : sm_I}
theorem l_aload {j : Fin 4} {i x : Nat} (hd : decode cL_law pc = .ok (.aload_n j, 1)) (hi : (j : Nat) = i) (hl : lv[i]? = some (some (.ref x))) (k : XL ζ (pc + 1) lv (.ref x :: st) I) : XL ζ pc lv st I := x_aload_n hd hi hl k
theorem l_iload {j : Fin 4} {i : Nat} {x : Int32} (hd : decode cL_law pc = .ok (.iload_n j, 1)) (hi : (j : Nat) = i) (hl : lv[i]? = some (some (.int x))) (k : XL ζ (pc + 1) lv (.int x :: st) I) : XL ζ pc lv st I := x_iload_n hd hi hl k
theorem l_iconst {i : Int} {v : Int32} (hd : decode cL_law pc = .ok (.iconst i, 1)) (hv : Int32.ofInt i = v) (k : XL ζ (pc + 1) lv (.int v :: st) I) : XL ζ pc lv st I := x_iconst hd hv k
theorem l_iaddN {x y : Nat} (hd : decode cL_law pc = .ok (.iadd, 1)) (k : XL ζ (pc + 1) lv (.int (nI (x + y)) :: st) I) : XL ζ pc lv (.int (nI y) :: .int (nI x) :: st) I := x_iadd hd (by rw [nI_add]; exact k)
theorem l_sld {k : Nat} (hd : decode cL_law pc = .ok (.iaload, 1)) (hz : ζ.1 ≤ 2048) (hk : k < ζ.1) (kk : XL ζ (pc + 1) lv (.int (ζ.2 k) :: st) I) : XL ζ pc lv (.int (nI k) :: .ref 1000000 :: st) I := x_sld hd (vp_in_nI hk (by omega)) (by rw [nI_clamp (by omega)]; exact kk)
/-- script[i + j] -/
theorem l_arg {i j : Nat} {ji : Int} (h1 : decode cL_law pc = .ok (.aload_n 0, 1)) (h2 : decode cL_law (pc + 1) = .ok (.iload_n 3, 1)) (h3 : decode cL_law (pc + 2) = .ok (.iconst ji, 1)) (hj : Int32.ofInt ji = nI j) (h4 : decode cL_law (pc + 3) = .ok (.iadd, 1)) (h5 : decode cL_law (pc + 4) = .ok (.iaload, 1)) (hz : ζ.1 ≤ 2048) (hk : i + j < ζ.1) (k : XL ζ (pc + 5) (LW i) (.int (ζ.2 (i + j)) :: st) I) : XL ζ pc (LW i) st I := by
  refine l_aload h1 rfl rfl ?_
  refine l_iload h2 rfl rfl ?_
  refine l_iconst h3 hj ?_
  refine l_iaddN h4 ?_
  exact l_sld h5 hz hk k
theorem l_callV {idx d' a ci : Nat} {μ' : sm_Mu} {as stk : List Value} {Q' : Option Value → sm_I → Prop} {rs : List (Option Nat)} {K : vw_C} (hd : decode cL_law pc = .ok (.invokevirtual idx, 3)) (hE : E0 d' μ' (.ref a :: as) I Q') (hstk : stk = as.reverse ++ .ref a :: st) (hm : sm_Me μ' as.length) (hin : Cond.instanceMethod μ'.1 ∈ lw_good) (hsel : Cond.selects μ'.1.cls μ'.1 μ'.1 ∈ lw_good) (hl : Cond.methodLink RL idx μ'.1 ∈ lw_good) (hs : SH a = (0, ci, rs)) (hc : vwCl[ci]? = some K) (hK : K.1 = μ'.1.cls) (hdd : d' ≤ 9) (hml : μ'.2.2.1 ≤ 21) (hst : (st.map fun v => v.category).sum ≤ 8)
    (kk : ∀ r I', Q' r I' → XL ζ (pc + 3) lv (r.toList ++ st) I') : XL ζ pc lv stk I := x_callV (μ := mL_law) hd hE hstk hm hin hsel hl (SH_lt hs (by intro h; simp at h)) hs hc hK ⟨by show d' + 1 ≤ 13; omega, by show 8 + (μ'.2.2.1 + 11) + 40 * d' ≤ 474; omega⟩ ⟨Nat.le_of_ble_eq_true rfl, Nat.le_of_ble_eq_true rfl⟩ hst (fun r n' sh' I' h => by obtain ⟨rfl, rfl, h⟩ := h; exact kk r I' h)
theorem l_same {x : Int32} {off : Int} {tgt : Nat} (hd : decode cL_law pc = .ok (.if_icmp .eq off, 3)) (ht : (pc : Int) + off = (tgt : Int)) (k : XL ζ tgt lv st I) : XL ζ pc lv (.int x :: .int x :: st) I := x_icmp_eq hd ht (fun _ => k) (fun h => absurd rfl h)
end LL

set_option maxHeartbeats 4000000 in
set_option maxRecDepth 100000 in
theorem lc_0 {ζ : sm_Z} {I : sm_I} {S : ST} {i : Nat} (hz : ζ.1 ≤ 2048) (hi : i + 4 ≤ ζ.1) (hS : okS S) (hC : CI I S) (hM : MI I S) (kk : ∀ I' S', okS S' → CI I' S' → MI I' S' → XL ζ 779 (LW i) [] I') : XL ζ 140 (LW i) [] I := by
  refine l_aload dL_law_140 rfl rfl ?_
  refine l_arg (j := 1) dL_law_141 dL_law_142 dL_law_143 (by decide) dL_law_144 dL_law_145 hz (by omega) ?_
  refine l_callV (as := [.int (ζ.2 (i + 1))]) (st := []) dL_law_146 (n_type hC hS (ζ.2 (i + 1))) rfl meX8_type imX8_type seX8_type mlL_13 sh_0 rfl rfl (by decide) (by decide) (Nat.le_of_ble_eq_true rfl) ?_
  rintro _ I1 ⟨rfl, hC1, g1⟩
  have hM1 := hM.hi g1
  refine l_aload dL_law_149 rfl rfl ?_
  refine l_arg (j := 1) dL_law_150 dL_law_151 dL_law_152 (by decide) dL_law_153 dL_law_154 hz (by omega) ?_
  refine l_callV (as := [.int (ζ.2 (i + 1))]) (st := [.int (sp_type S (ζ.2 (i + 1))).1]) dL_law_155 (m_type hM1 hS (ζ.2 (i + 1))) rfl meX9_type imX9_type seX9_type mlL_17 sh_106 rfl rfl (by decide) (by decide) (Nat.le_of_ble_eq_true rfl) ?_
  rintro _ I2 ⟨rfl, hM2, g2⟩
  exact l_same (tgt := 779) dL_law_158 (by decide) (kk I2 _ (okS_type hS (ζ.2 (i + 1))) (hC1.lo (okS_type hS (ζ.2 (i + 1))) g2) hM2)

set_option maxHeartbeats 4000000 in
set_option maxRecDepth 100000 in
theorem lc_1 {ζ : sm_Z} {I : sm_I} {S : ST} {i : Nat} (hz : ζ.1 ≤ 2048) (hi : i + 4 ≤ ζ.1) (hS : okS S) (hC : CI I S) (hM : MI I S) (kk : ∀ I' S', okS S' → CI I' S' → MI I' S' → XL ζ 779 (LW i) [] I') : XL ζ 163 (LW i) [] I := by
  refine l_aload dL_law_163 rfl rfl ?_
  refine l_callV (as := []) (st := []) dL_law_164 (n_clear hC hS) rfl meX8_clear imX8_clear seX8_clear mlL_18 sh_0 rfl rfl (by decide) (by decide) (Nat.le_of_ble_eq_true rfl) ?_
  rintro _ I1 ⟨rfl, hC1, g1⟩
  have hM1 := hM.hi g1
  refine l_aload dL_law_167 rfl rfl ?_
  refine l_callV (as := []) (st := [.int (sp_clear S).1]) dL_law_168 (m_clear hM1 hS) rfl meX9_clear imX9_clear seX9_clear mlL_22 sh_106 rfl rfl (by decide) (by decide) (Nat.le_of_ble_eq_true rfl) ?_
  rintro _ I2 ⟨rfl, hM2, g2⟩
  exact l_same (tgt := 779) dL_law_171 (by decide) (kk I2 _ (okS_clear hS) (hC1.lo (okS_clear hS) g2) hM2)

set_option maxHeartbeats 4000000 in
set_option maxRecDepth 100000 in
theorem lc_2 {ζ : sm_Z} {I : sm_I} {S : ST} {i : Nat} (hz : ζ.1 ≤ 2048) (hi : i + 4 ≤ ζ.1) (hS : okS S) (hC : CI I S) (hM : MI I S) (kk : ∀ I' S', okS S' → CI I' S' → MI I' S' → XL ζ 779 (LW i) [] I') : XL ζ 176 (LW i) [] I := by
  refine l_aload dL_law_176 rfl rfl ?_
  refine l_callV (as := []) (st := []) dL_law_177 (n_tells hC hS) rfl meX8_tells imX8_tells seX8_tells mlL_23 sh_0 rfl rfl (by decide) (by decide) (Nat.le_of_ble_eq_true rfl) ?_
  rintro _ I1 ⟨rfl, hC1, g1⟩
  have hM1 := hM.hi g1
  refine l_aload dL_law_180 rfl rfl ?_
  refine l_callV (as := []) (st := [.int (sp_tells S).1]) dL_law_181 (m_tells hM1 hS) rfl meX9_tells imX9_tells seX9_tells mlL_26 sh_106 rfl rfl (by decide) (by decide) (Nat.le_of_ble_eq_true rfl) ?_
  rintro _ I2 ⟨rfl, hM2, g2⟩
  exact l_same (tgt := 779) dL_law_184 (by decide) (kk I2 _ (okS_tells hS) (hC1.lo (okS_tells hS) g2) hM2)

set_option maxHeartbeats 4000000 in
set_option maxRecDepth 100000 in
theorem lc_3 {ζ : sm_Z} {I : sm_I} {S : ST} {i : Nat} (hz : ζ.1 ≤ 2048) (hi : i + 4 ≤ ζ.1) (hS : okS S) (hC : CI I S) (hM : MI I S) (kk : ∀ I' S', okS S' → CI I' S' → MI I' S' → XL ζ 779 (LW i) [] I') : XL ζ 189 (LW i) [] I := by
  refine l_aload dL_law_189 rfl rfl ?_
  refine l_arg (j := 1) dL_law_190 dL_law_191 dL_law_192 (by decide) dL_law_193 dL_law_194 hz (by omega) ?_
  refine l_arg (j := 2) dL_law_195 dL_law_196 dL_law_197 (by decide) dL_law_198 dL_law_199 hz (by omega) ?_
  refine l_arg (j := 3) dL_law_200 dL_law_201 dL_law_202 (by decide) dL_law_203 dL_law_204 hz (by omega) ?_
  refine l_callV (as := [.int (ζ.2 (i + 1)), .int (ζ.2 (i + 2)), .int (ζ.2 (i + 3))]) (st := []) dL_law_205 (n_fills hC hS (ζ.2 (i + 1)) (ζ.2 (i + 2)) (ζ.2 (i + 3))) rfl meX8_fills imX8_fills seX8_fills mlL_27 sh_0 rfl rfl (by decide) (by decide) (Nat.le_of_ble_eq_true rfl) ?_
  rintro _ I1 ⟨rfl, hC1, g1⟩
  have hM1 := hM.hi g1
  refine l_aload dL_law_208 rfl rfl ?_
  refine l_arg (j := 1) dL_law_209 dL_law_210 dL_law_211 (by decide) dL_law_212 dL_law_213 hz (by omega) ?_
  refine l_arg (j := 2) dL_law_214 dL_law_215 dL_law_216 (by decide) dL_law_217 dL_law_218 hz (by omega) ?_
  refine l_arg (j := 3) dL_law_219 dL_law_220 dL_law_221 (by decide) dL_law_222 dL_law_223 hz (by omega) ?_
  refine l_callV (as := [.int (ζ.2 (i + 1)), .int (ζ.2 (i + 2)), .int (ζ.2 (i + 3))]) (st := [.int (sp_fills S (ζ.2 (i + 1)) (ζ.2 (i + 2)) (ζ.2 (i + 3))).1]) dL_law_224 (m_fills hM1 hS (ζ.2 (i + 1)) (ζ.2 (i + 2)) (ζ.2 (i + 3))) rfl meX9_fills imX9_fills seX9_fills mlL_31 sh_106 rfl rfl (by decide) (by decide) (Nat.le_of_ble_eq_true rfl) ?_
  rintro _ I2 ⟨rfl, hM2, g2⟩
  exact l_same (tgt := 779) dL_law_227 (by decide) (kk I2 _ (okS_fills hS (ζ.2 (i + 1)) (ζ.2 (i + 2)) (ζ.2 (i + 3))) (hC1.lo (okS_fills hS (ζ.2 (i + 1)) (ζ.2 (i + 2)) (ζ.2 (i + 3))) g2) hM2)

set_option maxHeartbeats 4000000 in
set_option maxRecDepth 100000 in
theorem lc_4 {ζ : sm_Z} {I : sm_I} {S : ST} {i : Nat} (hz : ζ.1 ≤ 2048) (hi : i + 4 ≤ ζ.1) (hS : okS S) (hC : CI I S) (hM : MI I S) (kk : ∀ I' S', okS S' → CI I' S' → MI I' S' → XL ζ 779 (LW i) [] I') : XL ζ 232 (LW i) [] I := by
  refine l_aload dL_law_232 rfl rfl ?_
  refine l_arg (j := 1) dL_law_233 dL_law_234 dL_law_235 (by decide) dL_law_236 dL_law_237 hz (by omega) ?_
  refine l_arg (j := 2) dL_law_238 dL_law_239 dL_law_240 (by decide) dL_law_241 dL_law_242 hz (by omega) ?_
  refine l_callV (as := [.int (ζ.2 (i + 1)), .int (ζ.2 (i + 2))]) (st := []) dL_law_243 (n_draws hC hS (ζ.2 (i + 1)) (ζ.2 (i + 2))) rfl meX8_draws imX8_draws seX8_draws mlL_32 sh_0 rfl rfl (by decide) (by decide) (Nat.le_of_ble_eq_true rfl) ?_
  rintro _ I1 ⟨rfl, hC1, g1⟩
  have hM1 := hM.hi g1
  refine l_aload dL_law_246 rfl rfl ?_
  refine l_arg (j := 1) dL_law_247 dL_law_248 dL_law_249 (by decide) dL_law_250 dL_law_251 hz (by omega) ?_
  refine l_arg (j := 2) dL_law_252 dL_law_253 dL_law_254 (by decide) dL_law_255 dL_law_256 hz (by omega) ?_
  refine l_callV (as := [.int (ζ.2 (i + 1)), .int (ζ.2 (i + 2))]) (st := [.int (sp_draws S (ζ.2 (i + 1)) (ζ.2 (i + 2))).1]) dL_law_257 (m_draws hM1 hS (ζ.2 (i + 1)) (ζ.2 (i + 2))) rfl meX9_draws imX9_draws seX9_draws mlL_36 sh_106 rfl rfl (by decide) (by decide) (Nat.le_of_ble_eq_true rfl) ?_
  rintro _ I2 ⟨rfl, hM2, g2⟩
  exact l_same (tgt := 779) dL_law_260 (by decide) (kk I2 _ (okS_draws hS (ζ.2 (i + 1)) (ζ.2 (i + 2))) (hC1.lo (okS_draws hS (ζ.2 (i + 1)) (ζ.2 (i + 2))) g2) hM2)

set_option maxHeartbeats 4000000 in
set_option maxRecDepth 100000 in
theorem lc_5 {ζ : sm_Z} {I : sm_I} {S : ST} {i : Nat} (hz : ζ.1 ≤ 2048) (hi : i + 4 ≤ ζ.1) (hS : okS S) (hC : CI I S) (hM : MI I S) (kk : ∀ I' S', okS S' → CI I' S' → MI I' S' → XL ζ 779 (LW i) [] I') : XL ζ 265 (LW i) [] I := by
  refine l_aload dL_law_265 rfl rfl ?_
  refine l_arg (j := 1) dL_law_266 dL_law_267 dL_law_268 (by decide) dL_law_269 dL_law_270 hz (by omega) ?_
  refine l_arg (j := 2) dL_law_271 dL_law_272 dL_law_273 (by decide) dL_law_274 dL_law_275 hz (by omega) ?_
  refine l_arg (j := 3) dL_law_276 dL_law_277 dL_law_278 (by decide) dL_law_279 dL_law_280 hz (by omega) ?_
  refine l_callV (as := [.int (ζ.2 (i + 1)), .int (ζ.2 (i + 2)), .int (ζ.2 (i + 3))]) (st := []) dL_law_281 (n_pours hC hS (ζ.2 (i + 1)) (ζ.2 (i + 2)) (ζ.2 (i + 3))) rfl meX8_pours imX8_pours seX8_pours mlL_37 sh_0 rfl rfl (by decide) (by decide) (Nat.le_of_ble_eq_true rfl) ?_
  rintro _ I1 ⟨rfl, hC1, g1⟩
  have hM1 := hM.hi g1
  refine l_aload dL_law_284 rfl rfl ?_
  refine l_arg (j := 1) dL_law_285 dL_law_286 dL_law_287 (by decide) dL_law_288 dL_law_289 hz (by omega) ?_
  refine l_arg (j := 2) dL_law_290 dL_law_291 dL_law_292 (by decide) dL_law_293 dL_law_294 hz (by omega) ?_
  refine l_arg (j := 3) dL_law_295 dL_law_296 dL_law_297 (by decide) dL_law_298 dL_law_299 hz (by omega) ?_
  refine l_callV (as := [.int (ζ.2 (i + 1)), .int (ζ.2 (i + 2)), .int (ζ.2 (i + 3))]) (st := [.int (sp_pours S (ζ.2 (i + 1)) (ζ.2 (i + 2)) (ζ.2 (i + 3))).1]) dL_law_300 (m_pours hM1 hS (ζ.2 (i + 1)) (ζ.2 (i + 2)) (ζ.2 (i + 3))) rfl meX9_pours imX9_pours seX9_pours mlL_40 sh_106 rfl rfl (by decide) (by decide) (Nat.le_of_ble_eq_true rfl) ?_
  rintro _ I2 ⟨rfl, hM2, g2⟩
  exact l_same (tgt := 779) dL_law_303 (by decide) (kk I2 _ (okS_pours hS (ζ.2 (i + 1)) (ζ.2 (i + 2)) (ζ.2 (i + 3))) (hC1.lo (okS_pours hS (ζ.2 (i + 1)) (ζ.2 (i + 2)) (ζ.2 (i + 3))) g2) hM2)

set_option maxHeartbeats 4000000 in
set_option maxRecDepth 100000 in
theorem lc_6 {ζ : sm_Z} {I : sm_I} {S : ST} {i : Nat} (hz : ζ.1 ≤ 2048) (hi : i + 4 ≤ ζ.1) (hS : okS S) (hC : CI I S) (hM : MI I S) (kk : ∀ I' S', okS S' → CI I' S' → MI I' S' → XL ζ 779 (LW i) [] I') : XL ζ 308 (LW i) [] I := by
  refine l_aload dL_law_308 rfl rfl ?_
  refine l_arg (j := 1) dL_law_309 dL_law_310 dL_law_311 (by decide) dL_law_312 dL_law_313 hz (by omega) ?_
  refine l_callV (as := [.int (ζ.2 (i + 1))]) (st := []) dL_law_314 (n_turnsOver hC hS (ζ.2 (i + 1))) rfl meX8_turnsOver imX8_turnsOver seX8_turnsOver mlL_41 sh_0 rfl rfl (by decide) (by decide) (Nat.le_of_ble_eq_true rfl) ?_
  rintro _ I1 ⟨rfl, hC1, g1⟩
  have hM1 := hM.hi g1
  refine l_aload dL_law_317 rfl rfl ?_
  refine l_arg (j := 1) dL_law_318 dL_law_319 dL_law_320 (by decide) dL_law_321 dL_law_322 hz (by omega) ?_
  refine l_callV (as := [.int (ζ.2 (i + 1))]) (st := [.int (sp_turnsOver S (ζ.2 (i + 1))).1]) dL_law_323 (m_turnsOver hM1 hS (ζ.2 (i + 1))) rfl meX9_turnsOver imX9_turnsOver seX9_turnsOver mlL_44 sh_106 rfl rfl (by decide) (by decide) (Nat.le_of_ble_eq_true rfl) ?_
  rintro _ I2 ⟨rfl, hM2, g2⟩
  exact l_same (tgt := 779) dL_law_326 (by decide) (kk I2 _ (okS_turnsOver hS (ζ.2 (i + 1))) (hC1.lo (okS_turnsOver hS (ζ.2 (i + 1))) g2) hM2)

set_option maxHeartbeats 4000000 in
set_option maxRecDepth 100000 in
theorem lc_7 {ζ : sm_Z} {I : sm_I} {S : ST} {i : Nat} (hz : ζ.1 ≤ 2048) (hi : i + 4 ≤ ζ.1) (hS : okS S) (hC : CI I S) (hM : MI I S) (kk : ∀ I' S', okS S' → CI I' S' → MI I' S' → XL ζ 779 (LW i) [] I') : XL ζ 331 (LW i) [] I := by
  refine l_aload dL_law_331 rfl rfl ?_
  refine l_callV (as := []) (st := []) dL_law_332 (n_undo hC hS) rfl meX8_undo imX8_undo seX8_undo mlL_45 sh_0 rfl rfl (by decide) (by decide) (Nat.le_of_ble_eq_true rfl) ?_
  rintro _ I1 ⟨rfl, hC1, g1⟩
  have hM1 := hM.hi g1
  refine l_aload dL_law_335 rfl rfl ?_
  refine l_callV (as := []) (st := [.int (sp_undo S).1]) dL_law_336 (m_undo hM1 hS) rfl meX9_undo imX9_undo seX9_undo mlL_48 sh_106 rfl rfl (by decide) (by decide) (Nat.le_of_ble_eq_true rfl) ?_
  rintro _ I2 ⟨rfl, hM2, g2⟩
  exact l_same (tgt := 779) dL_law_339 (by decide) (kk I2 _ (okS_undo hS) (hC1.lo (okS_undo hS) g2) hM2)

set_option maxHeartbeats 4000000 in
set_option maxRecDepth 100000 in
theorem lc_8 {ζ : sm_Z} {I : sm_I} {S : ST} {i : Nat} (hz : ζ.1 ≤ 2048) (hi : i + 4 ≤ ζ.1) (hS : okS S) (hC : CI I S) (hM : MI I S) (kk : ∀ I' S', okS S' → CI I' S' → MI I' S' → XL ζ 779 (LW i) [] I') : XL ζ 344 (LW i) [] I := by
  refine l_aload dL_law_344 rfl rfl ?_
  refine l_arg (j := 1) dL_law_345 dL_law_346 dL_law_347 (by decide) dL_law_348 dL_law_349 hz (by omega) ?_
  refine l_arg (j := 2) dL_law_350 dL_law_351 dL_law_352 (by decide) dL_law_353 dL_law_354 hz (by omega) ?_
  refine l_callV (as := [.int (ζ.2 (i + 1)), .int (ζ.2 (i + 2))]) (st := []) dL_law_355 (n_cask hC.1 hS.1 hC.2.2.2.2.2 (ζ.2 (i + 1)) (ζ.2 (i + 2))) rfl meX8_cask imX8_cask seX8_cask mlL_49 sh_0 rfl rfl (by decide) (by decide) (Nat.le_of_ble_eq_true rfl) ?_
  rintro _ I1 ⟨rfl, g1, hV1⟩
  have hC1 := hC.fr hS g1 hV1
  have hM1 := hM.hi g1.hi
  refine l_aload dL_law_358 rfl rfl ?_
  refine l_arg (j := 1) dL_law_359 dL_law_360 dL_law_361 (by decide) dL_law_362 dL_law_363 hz (by omega) ?_
  refine l_arg (j := 2) dL_law_364 dL_law_365 dL_law_366 (by decide) dL_law_367 dL_law_368 hz (by omega) ?_
  refine l_callV (as := [.int (ζ.2 (i + 1)), .int (ζ.2 (i + 2))]) (st := [.int (sp_cask S.1 (ζ.2 (i + 1)) (ζ.2 (i + 2)))]) dL_law_369 (m_cask hM1.1 hS.1 (ζ.2 (i + 1)) (ζ.2 (i + 2))) rfl meX9_cask imX9_cask seX9_cask mlL_52 sh_106 rfl rfl (by decide) (by decide) (Nat.le_of_ble_eq_true rfl) ?_
  rintro _ I2 ⟨rfl, g2⟩
  exact l_same (tgt := 779) dL_law_372 (by decide) (kk I2 S hS (hC1.lo hS g2.lo) (hM1.fr g2))

set_option maxHeartbeats 4000000 in
set_option maxRecDepth 100000 in
theorem lc_9 {ζ : sm_Z} {I : sm_I} {S : ST} {i : Nat} (hz : ζ.1 ≤ 2048) (hi : i + 4 ≤ ζ.1) (hS : okS S) (hC : CI I S) (hM : MI I S) (kk : ∀ I' S', okS S' → CI I' S' → MI I' S' → XL ζ 779 (LW i) [] I') : XL ζ 377 (LW i) [] I := by
  refine l_aload dL_law_377 rfl rfl ?_
  refine l_arg (j := 1) dL_law_378 dL_law_379 dL_law_380 (by decide) dL_law_381 dL_law_382 hz (by omega) ?_
  refine l_arg (j := 2) dL_law_383 dL_law_384 dL_law_385 (by decide) dL_law_386 dL_law_387 hz (by omega) ?_
  refine l_arg (j := 3) dL_law_388 dL_law_389 dL_law_390 (by decide) dL_law_391 dL_law_392 hz (by omega) ?_
  refine l_callV (as := [.int (ζ.2 (i + 1)), .int (ζ.2 (i + 2)), .int (ζ.2 (i + 3))]) (st := []) dL_law_393 (n_slice hC.1 hS.1 hC.2.2.2.2.2 (ζ.2 (i + 1)) (ζ.2 (i + 2)) (ζ.2 (i + 3))) rfl meX8_slice imX8_slice seX8_slice mlL_53 sh_0 rfl rfl (by decide) (by decide) (Nat.le_of_ble_eq_true rfl) ?_
  rintro _ I1 ⟨rfl, g1, hV1⟩
  have hC1 := hC.fr hS g1 hV1
  have hM1 := hM.hi g1.hi
  refine l_aload dL_law_396 rfl rfl ?_
  refine l_arg (j := 1) dL_law_397 dL_law_398 dL_law_399 (by decide) dL_law_400 dL_law_401 hz (by omega) ?_
  refine l_arg (j := 2) dL_law_402 dL_law_403 dL_law_404 (by decide) dL_law_405 dL_law_406 hz (by omega) ?_
  refine l_arg (j := 3) dL_law_407 dL_law_408 dL_law_409 (by decide) dL_law_410 dL_law_411 hz (by omega) ?_
  refine l_callV (as := [.int (ζ.2 (i + 1)), .int (ζ.2 (i + 2)), .int (ζ.2 (i + 3))]) (st := [.int (sp_slice S.1 (ζ.2 (i + 1)) (ζ.2 (i + 2)) (ζ.2 (i + 3)))]) dL_law_412 (m_slice hM1.1 hS.1 (ζ.2 (i + 1)) (ζ.2 (i + 2)) (ζ.2 (i + 3))) rfl meX9_slice imX9_slice seX9_slice mlL_56 sh_106 rfl rfl (by decide) (by decide) (Nat.le_of_ble_eq_true rfl) ?_
  rintro _ I2 ⟨rfl, g2⟩
  exact l_same (tgt := 779) dL_law_415 (by decide) (kk I2 S hS (hC1.lo hS g2.lo) (hM1.fr g2))

set_option maxHeartbeats 4000000 in
set_option maxRecDepth 100000 in
theorem lc_10 {ζ : sm_Z} {I : sm_I} {S : ST} {i : Nat} (hz : ζ.1 ≤ 2048) (hi : i + 4 ≤ ζ.1) (hS : okS S) (hC : CI I S) (hM : MI I S) (kk : ∀ I' S', okS S' → CI I' S' → MI I' S' → XL ζ 779 (LW i) [] I') : XL ζ 420 (LW i) [] I := by
  refine l_aload dL_law_420 rfl rfl ?_
  refine l_arg (j := 1) dL_law_421 dL_law_422 dL_law_423 (by decide) dL_law_424 dL_law_425 hz (by omega) ?_
  refine l_arg (j := 2) dL_law_426 dL_law_427 dL_law_428 (by decide) dL_law_429 dL_law_430 hz (by omega) ?_
  refine l_callV (as := [.int (ζ.2 (i + 1)), .int (ζ.2 (i + 2))]) (st := []) dL_law_431 (n_under hC.1 hS.1 hC.2.2.2.2.2 (ζ.2 (i + 1)) (ζ.2 (i + 2))) rfl meX8_under imX8_under seX8_under mlL_57 sh_0 rfl rfl (by decide) (by decide) (Nat.le_of_ble_eq_true rfl) ?_
  rintro _ I1 ⟨rfl, g1, hV1⟩
  have hC1 := hC.fr hS g1 hV1
  have hM1 := hM.hi g1.hi
  refine l_aload dL_law_434 rfl rfl ?_
  refine l_arg (j := 1) dL_law_435 dL_law_436 dL_law_437 (by decide) dL_law_438 dL_law_439 hz (by omega) ?_
  refine l_arg (j := 2) dL_law_440 dL_law_441 dL_law_442 (by decide) dL_law_443 dL_law_444 hz (by omega) ?_
  refine l_callV (as := [.int (ζ.2 (i + 1)), .int (ζ.2 (i + 2))]) (st := [.int (sp_under S.1 (ζ.2 (i + 1)) (ζ.2 (i + 2)))]) dL_law_445 (m_under hM1.1 hS.1 (ζ.2 (i + 1)) (ζ.2 (i + 2))) rfl meX9_under imX9_under seX9_under mlL_60 sh_106 rfl rfl (by decide) (by decide) (Nat.le_of_ble_eq_true rfl) ?_
  rintro _ I2 ⟨rfl, g2⟩
  exact l_same (tgt := 779) dL_law_448 (by decide) (kk I2 S hS (hC1.lo hS g2.lo) (hM1.fr g2))

set_option maxHeartbeats 4000000 in
set_option maxRecDepth 100000 in
theorem lc_11 {ζ : sm_Z} {I : sm_I} {S : ST} {i : Nat} (hz : ζ.1 ≤ 2048) (hi : i + 4 ≤ ζ.1) (hS : okS S) (hC : CI I S) (hM : MI I S) (kk : ∀ I' S', okS S' → CI I' S' → MI I' S' → XL ζ 779 (LW i) [] I') : XL ζ 453 (LW i) [] I := by
  refine l_aload dL_law_453 rfl rfl ?_
  refine l_arg (j := 1) dL_law_454 dL_law_455 dL_law_456 (by decide) dL_law_457 dL_law_458 hz (by omega) ?_
  refine l_arg (j := 2) dL_law_459 dL_law_460 dL_law_461 (by decide) dL_law_462 dL_law_463 hz (by omega) ?_
  refine l_callV (as := [.int (ζ.2 (i + 1)), .int (ζ.2 (i + 2))]) (st := []) dL_law_464 (n_dip hC.1 hS.1 hC.2.2.2.2.2 (ζ.2 (i + 1)) (ζ.2 (i + 2))) rfl meX8_dip imX8_dip seX8_dip mlL_61 sh_0 rfl rfl (by decide) (by decide) (Nat.le_of_ble_eq_true rfl) ?_
  rintro _ I1 ⟨rfl, g1, hV1⟩
  have hC1 := hC.fr hS g1 hV1
  have hM1 := hM.hi g1.hi
  refine l_aload dL_law_467 rfl rfl ?_
  refine l_arg (j := 1) dL_law_468 dL_law_469 dL_law_470 (by decide) dL_law_471 dL_law_472 hz (by omega) ?_
  refine l_arg (j := 2) dL_law_473 dL_law_474 dL_law_475 (by decide) dL_law_476 dL_law_477 hz (by omega) ?_
  refine l_callV (as := [.int (ζ.2 (i + 1)), .int (ζ.2 (i + 2))]) (st := [.int (sp_dip S.1 (ζ.2 (i + 1)) (ζ.2 (i + 2)))]) dL_law_478 (m_dip hM1.1 hS.1 (ζ.2 (i + 1)) (ζ.2 (i + 2))) rfl meX9_dip imX9_dip seX9_dip mlL_64 sh_106 rfl rfl (by decide) (by decide) (Nat.le_of_ble_eq_true rfl) ?_
  rintro _ I2 ⟨rfl, g2⟩
  exact l_same (tgt := 779) dL_law_481 (by decide) (kk I2 S hS (hC1.lo hS g2.lo) (hM1.fr g2))

set_option maxHeartbeats 4000000 in
set_option maxRecDepth 100000 in
theorem lc_12 {ζ : sm_Z} {I : sm_I} {S : ST} {i : Nat} (hz : ζ.1 ≤ 2048) (hi : i + 4 ≤ ζ.1) (hS : okS S) (hC : CI I S) (hM : MI I S) (kk : ∀ I' S', okS S' → CI I' S' → MI I' S' → XL ζ 779 (LW i) [] I') : XL ζ 486 (LW i) [] I := by
  refine l_aload dL_law_486 rfl rfl ?_
  refine l_arg (j := 1) dL_law_487 dL_law_488 dL_law_489 (by decide) dL_law_490 dL_law_491 hz (by omega) ?_
  refine l_arg (j := 2) dL_law_492 dL_law_493 dL_law_494 (by decide) dL_law_495 dL_law_496 hz (by omega) ?_
  refine l_arg (j := 3) dL_law_497 dL_law_498 dL_law_499 (by decide) dL_law_500 dL_law_501 hz (by omega) ?_
  refine l_callV (as := [.int (ζ.2 (i + 1)), .int (ζ.2 (i + 2)), .int (ζ.2 (i + 3))]) (st := []) dL_law_502 (n_stick hC.1 hS.1 hC.2.2.2.2.2 (ζ.2 (i + 1)) (ζ.2 (i + 2)) (ζ.2 (i + 3))) rfl meX8_stick imX8_stick seX8_stick mlL_65 sh_0 rfl rfl (by decide) (by decide) (Nat.le_of_ble_eq_true rfl) ?_
  rintro _ I1 ⟨rfl, g1, hV1⟩
  have hC1 := hC.fr hS g1 hV1
  have hM1 := hM.hi g1.hi
  refine l_aload dL_law_505 rfl rfl ?_
  refine l_arg (j := 1) dL_law_506 dL_law_507 dL_law_508 (by decide) dL_law_509 dL_law_510 hz (by omega) ?_
  refine l_arg (j := 2) dL_law_511 dL_law_512 dL_law_513 (by decide) dL_law_514 dL_law_515 hz (by omega) ?_
  refine l_arg (j := 3) dL_law_516 dL_law_517 dL_law_518 (by decide) dL_law_519 dL_law_520 hz (by omega) ?_
  refine l_callV (as := [.int (ζ.2 (i + 1)), .int (ζ.2 (i + 2)), .int (ζ.2 (i + 3))]) (st := [.int (sp_stick S.1 (ζ.2 (i + 1)) (ζ.2 (i + 2)) (ζ.2 (i + 3)))]) dL_law_521 (m_stick hM1.1 hS.1 (ζ.2 (i + 1)) (ζ.2 (i + 2)) (ζ.2 (i + 3))) rfl meX9_stick imX9_stick seX9_stick mlL_68 sh_106 rfl rfl (by decide) (by decide) (Nat.le_of_ble_eq_true rfl) ?_
  rintro _ I2 ⟨rfl, g2⟩
  exact l_same (tgt := 779) dL_law_524 (by decide) (kk I2 S hS (hC1.lo hS g2.lo) (hM1.fr g2))

set_option maxHeartbeats 4000000 in
set_option maxRecDepth 100000 in
theorem lc_13 {ζ : sm_Z} {I : sm_I} {S : ST} {i : Nat} (hz : ζ.1 ≤ 2048) (hi : i + 4 ≤ ζ.1) (hS : okS S) (hC : CI I S) (hM : MI I S) (kk : ∀ I' S', okS S' → CI I' S' → MI I' S' → XL ζ 779 (LW i) [] I') : XL ζ 529 (LW i) [] I := by
  refine l_aload dL_law_529 rfl rfl ?_
  refine l_arg (j := 1) dL_law_530 dL_law_531 dL_law_532 (by decide) dL_law_533 dL_law_534 hz (by omega) ?_
  refine l_arg (j := 2) dL_law_535 dL_law_536 dL_law_537 (by decide) dL_law_538 dL_law_539 hz (by omega) ?_
  refine l_arg (j := 3) dL_law_540 dL_law_541 dL_law_542 (by decide) dL_law_543 dL_law_544 hz (by omega) ?_
  refine l_callV (as := [.int (ζ.2 (i + 1)), .int (ζ.2 (i + 2)), .int (ζ.2 (i + 3))]) (st := []) dL_law_545 (n_known hC.1 hS.1 hC.2.2.2.2.2 (ζ.2 (i + 1)) (ζ.2 (i + 2)) (ζ.2 (i + 3))) rfl meX8_known imX8_known seX8_known mlL_69 sh_0 rfl rfl (by decide) (by decide) (Nat.le_of_ble_eq_true rfl) ?_
  rintro _ I1 ⟨rfl, g1, hV1⟩
  have hC1 := hC.fr hS g1 hV1
  have hM1 := hM.hi g1.hi
  refine l_aload dL_law_548 rfl rfl ?_
  refine l_arg (j := 1) dL_law_549 dL_law_550 dL_law_551 (by decide) dL_law_552 dL_law_553 hz (by omega) ?_
  refine l_arg (j := 2) dL_law_554 dL_law_555 dL_law_556 (by decide) dL_law_557 dL_law_558 hz (by omega) ?_
  refine l_arg (j := 3) dL_law_559 dL_law_560 dL_law_561 (by decide) dL_law_562 dL_law_563 hz (by omega) ?_
  refine l_callV (as := [.int (ζ.2 (i + 1)), .int (ζ.2 (i + 2)), .int (ζ.2 (i + 3))]) (st := [.int (sp_known S.1 (ζ.2 (i + 1)) (ζ.2 (i + 2)) (ζ.2 (i + 3)))]) dL_law_564 (m_known hM1.1 hS.1 (ζ.2 (i + 1)) (ζ.2 (i + 2)) (ζ.2 (i + 3))) rfl meX9_known imX9_known seX9_known mlL_72 sh_106 rfl rfl (by decide) (by decide) (Nat.le_of_ble_eq_true rfl) ?_
  rintro _ I2 ⟨rfl, g2⟩
  exact l_same (tgt := 779) dL_law_567 (by decide) (kk I2 S hS (hC1.lo hS g2.lo) (hM1.fr g2))

set_option maxHeartbeats 4000000 in
set_option maxRecDepth 100000 in
theorem lc_14 {ζ : sm_Z} {I : sm_I} {S : ST} {i : Nat} (hz : ζ.1 ≤ 2048) (hi : i + 4 ≤ ζ.1) (hS : okS S) (hC : CI I S) (hM : MI I S) (kk : ∀ I' S', okS S' → CI I' S' → MI I' S' → XL ζ 779 (LW i) [] I') : XL ζ 572 (LW i) [] I := by
  refine l_aload dL_law_572 rfl rfl ?_
  refine l_arg (j := 1) dL_law_573 dL_law_574 dL_law_575 (by decide) dL_law_576 dL_law_577 hz (by omega) ?_
  refine l_arg (j := 2) dL_law_578 dL_law_579 dL_law_580 (by decide) dL_law_581 dL_law_582 hz (by omega) ?_
  refine l_arg (j := 3) dL_law_583 dL_law_584 dL_law_585 (by decide) dL_law_586 dL_law_587 hz (by omega) ?_
  refine l_callV (as := [.int (ζ.2 (i + 1)), .int (ζ.2 (i + 2)), .int (ζ.2 (i + 3))]) (st := []) dL_law_588 (n_shares hC.1 hS.1 hC.2.2.2.2.2 (ζ.2 (i + 1)) (ζ.2 (i + 2)) (ζ.2 (i + 3))) rfl meX8_shares imX8_shares seX8_shares mlL_73 sh_0 rfl rfl (by decide) (by decide) (Nat.le_of_ble_eq_true rfl) ?_
  rintro _ I1 ⟨rfl, g1, hV1⟩
  have hC1 := hC.fr hS g1 hV1
  have hM1 := hM.hi g1.hi
  refine l_aload dL_law_591 rfl rfl ?_
  refine l_arg (j := 1) dL_law_592 dL_law_593 dL_law_594 (by decide) dL_law_595 dL_law_596 hz (by omega) ?_
  refine l_arg (j := 2) dL_law_597 dL_law_598 dL_law_599 (by decide) dL_law_600 dL_law_601 hz (by omega) ?_
  refine l_arg (j := 3) dL_law_602 dL_law_603 dL_law_604 (by decide) dL_law_605 dL_law_606 hz (by omega) ?_
  refine l_callV (as := [.int (ζ.2 (i + 1)), .int (ζ.2 (i + 2)), .int (ζ.2 (i + 3))]) (st := [.int (sp_shares S.1 (ζ.2 (i + 1)) (ζ.2 (i + 2)) (ζ.2 (i + 3)))]) dL_law_607 (m_shares hM1.1 hS.1 (ζ.2 (i + 1)) (ζ.2 (i + 2)) (ζ.2 (i + 3))) rfl meX9_shares imX9_shares seX9_shares mlL_76 sh_106 rfl rfl (by decide) (by decide) (Nat.le_of_ble_eq_true rfl) ?_
  rintro _ I2 ⟨rfl, g2⟩
  exact l_same (tgt := 779) dL_law_610 (by decide) (kk I2 S hS (hC1.lo hS g2.lo) (hM1.fr g2))

set_option maxHeartbeats 4000000 in
set_option maxRecDepth 100000 in
theorem lc_15 {ζ : sm_Z} {I : sm_I} {S : ST} {i : Nat} (hz : ζ.1 ≤ 2048) (hi : i + 4 ≤ ζ.1) (hS : okS S) (hC : CI I S) (hM : MI I S) (kk : ∀ I' S', okS S' → CI I' S' → MI I' S' → XL ζ 779 (LW i) [] I') : XL ζ 615 (LW i) [] I := by
  refine l_aload dL_law_615 rfl rfl ?_
  refine l_arg (j := 1) dL_law_616 dL_law_617 dL_law_618 (by decide) dL_law_619 dL_law_620 hz (by omega) ?_
  refine l_callV (as := [.int (ζ.2 (i + 1))]) (st := []) dL_law_621 (n_all hC.1 hS.1 hC.2.2.2.2.2 (ζ.2 (i + 1))) rfl meX8_all imX8_all seX8_all mlL_77 sh_0 rfl rfl (by decide) (by decide) (Nat.le_of_ble_eq_true rfl) ?_
  rintro _ I1 ⟨rfl, g1, hV1⟩
  have hC1 := hC.fr hS g1 hV1
  have hM1 := hM.hi g1.hi
  refine l_aload dL_law_624 rfl rfl ?_
  refine l_arg (j := 1) dL_law_625 dL_law_626 dL_law_627 (by decide) dL_law_628 dL_law_629 hz (by omega) ?_
  refine l_callV (as := [.int (ζ.2 (i + 1))]) (st := [.int (sp_all S.1 (ζ.2 (i + 1)))]) dL_law_630 (m_all hM1.1 hS.1 (ζ.2 (i + 1))) rfl meX9_all imX9_all seX9_all mlL_80 sh_106 rfl rfl (by decide) (by decide) (Nat.le_of_ble_eq_true rfl) ?_
  rintro _ I2 ⟨rfl, g2⟩
  exact l_same (tgt := 779) dL_law_633 (by decide) (kk I2 S hS (hC1.lo hS g2.lo) (hM1.fr g2))

set_option maxHeartbeats 4000000 in
set_option maxRecDepth 100000 in
theorem lc_16 {ζ : sm_Z} {I : sm_I} {S : ST} {i : Nat} (hz : ζ.1 ≤ 2048) (hi : i + 4 ≤ ζ.1) (hS : okS S) (hC : CI I S) (hM : MI I S) (kk : ∀ I' S', okS S' → CI I' S' → MI I' S' → XL ζ 779 (LW i) [] I') : XL ζ 638 (LW i) [] I := by
  refine l_aload dL_law_638 rfl rfl ?_
  refine l_arg (j := 1) dL_law_639 dL_law_640 dL_law_641 (by decide) dL_law_642 dL_law_643 hz (by omega) ?_
  refine l_arg (j := 2) dL_law_644 dL_law_645 dL_law_646 (by decide) dL_law_647 dL_law_648 hz (by omega) ?_
  refine l_callV (as := [.int (ζ.2 (i + 1)), .int (ζ.2 (i + 2))]) (st := []) dL_law_649 (n_sees hC hS (ζ.2 (i + 1)) (ζ.2 (i + 2))) rfl meX8_sees imX8_sees seX8_sees mlL_81 sh_0 rfl rfl (by decide) (by decide) (Nat.le_of_ble_eq_true rfl) ?_
  rintro _ I1 ⟨rfl, hC1, g1⟩
  have hM1 := hM.hi g1
  refine l_aload dL_law_652 rfl rfl ?_
  refine l_arg (j := 1) dL_law_653 dL_law_654 dL_law_655 (by decide) dL_law_656 dL_law_657 hz (by omega) ?_
  refine l_arg (j := 2) dL_law_658 dL_law_659 dL_law_660 (by decide) dL_law_661 dL_law_662 hz (by omega) ?_
  refine l_callV (as := [.int (ζ.2 (i + 1)), .int (ζ.2 (i + 2))]) (st := [.int (sp_sees S (ζ.2 (i + 1)) (ζ.2 (i + 2))).1]) dL_law_663 (m_sees hM1 hS (ζ.2 (i + 1)) (ζ.2 (i + 2))) rfl meX9_sees imX9_sees seX9_sees mlL_84 sh_106 rfl rfl (by decide) (by decide) (Nat.le_of_ble_eq_true rfl) ?_
  rintro _ I2 ⟨rfl, hM2, g2⟩
  exact l_same (tgt := 779) dL_law_666 (by decide) (kk I2 _ (okS_sees hS (ζ.2 (i + 1)) (ζ.2 (i + 2))) (hC1.lo (okS_sees hS (ζ.2 (i + 1)) (ζ.2 (i + 2))) g2) hM2)

set_option maxHeartbeats 4000000 in
set_option maxRecDepth 100000 in
theorem lc_17 {ζ : sm_Z} {I : sm_I} {S : ST} {i : Nat} (hz : ζ.1 ≤ 2048) (hi : i + 4 ≤ ζ.1) (hS : okS S) (hC : CI I S) (hM : MI I S) (kk : ∀ I' S', okS S' → CI I' S' → MI I' S' → XL ζ 779 (LW i) [] I') : XL ζ 671 (LW i) [] I := by
  refine l_aload dL_law_671 rfl rfl ?_
  refine l_callV (as := []) (st := []) dL_law_672 (n_forget hC hS) rfl meX8_forget imX8_forget seX8_forget mlL_85 sh_0 rfl rfl (by decide) (by decide) (Nat.le_of_ble_eq_true rfl) ?_
  rintro _ I1 ⟨rfl, hC1, g1⟩
  have hM1 := hM.hi g1
  refine l_aload dL_law_675 rfl rfl ?_
  refine l_callV (as := []) (st := [.int (sp_forget S).1]) dL_law_676 (m_forget hM1 hS) rfl meX9_forget imX9_forget seX9_forget mlL_88 sh_106 rfl rfl (by decide) (by decide) (Nat.le_of_ble_eq_true rfl) ?_
  rintro _ I2 ⟨rfl, hM2, g2⟩
  exact l_same (tgt := 779) dL_law_679 (by decide) (kk I2 _ (okS_forget hS) (hC1.lo (okS_forget hS) g2) hM2)

set_option maxHeartbeats 4000000 in
set_option maxRecDepth 100000 in
theorem lc_18 {ζ : sm_Z} {I : sm_I} {S : ST} {i : Nat} (hz : ζ.1 ≤ 2048) (hi : i + 4 ≤ ζ.1) (hS : okS S) (hC : CI I S) (hM : MI I S) (kk : ∀ I' S', okS S' → CI I' S' → MI I' S' → XL ζ 779 (LW i) [] I') : XL ζ 684 (LW i) [] I := by
  refine l_aload dL_law_684 rfl rfl ?_
  refine l_callV (as := []) (st := []) dL_law_685 (n_which hC hS) rfl meX8_which imX8_which seX8_which mlL_89 sh_0 rfl rfl (by decide) (by decide) (Nat.le_of_ble_eq_true rfl) ?_
  rintro _ I1 ⟨rfl, g1, hV1⟩
  have hC1 := hC.fr hS g1 hV1
  have hM1 := hM.hi g1.hi
  refine l_aload dL_law_688 rfl rfl ?_
  refine l_callV (as := []) (st := [.int (sp_which S)]) dL_law_689 (m_which hM1 hS) rfl meX9_which imX9_which seX9_which mlL_92 sh_106 rfl rfl (by decide) (by decide) (Nat.le_of_ble_eq_true rfl) ?_
  rintro _ I2 ⟨rfl, g2⟩
  exact l_same (tgt := 779) dL_law_692 (by decide) (kk I2 S hS (hC1.lo hS g2.lo) (hM1.fr g2))

set_option maxHeartbeats 4000000 in
set_option maxRecDepth 100000 in
theorem lc_19 {ζ : sm_Z} {I : sm_I} {S : ST} {i : Nat} (hz : ζ.1 ≤ 2048) (hi : i + 4 ≤ ζ.1) (hS : okS S) (hC : CI I S) (hM : MI I S) (kk : ∀ I' S', okS S' → CI I' S' → MI I' S' → XL ζ 779 (LW i) [] I') : XL ζ 697 (LW i) [] I := by
  refine l_aload dL_law_697 rfl rfl ?_
  refine l_callV (as := []) (st := []) dL_law_698 (n_ask hC hS) rfl meX8_ask imX8_ask seX8_ask mlL_93 sh_0 rfl rfl (by decide) (by decide) (Nat.le_of_ble_eq_true rfl) ?_
  rintro _ I1 ⟨rfl, g1, hV1⟩
  have hC1 := hC.fr hS g1 hV1
  have hM1 := hM.hi g1.hi
  refine l_aload dL_law_701 rfl rfl ?_
  refine l_callV (as := []) (st := [.int (sp_ask S)]) dL_law_702 (m_ask hM1 hS) rfl meX9_ask imX9_ask seX9_ask mlL_96 sh_106 rfl rfl (by decide) (by decide) (Nat.le_of_ble_eq_true rfl) ?_
  rintro _ I2 ⟨rfl, g2⟩
  exact l_same (tgt := 779) dL_law_705 (by decide) (kk I2 S hS (hC1.lo hS g2.lo) (hM1.fr g2))

set_option maxHeartbeats 4000000 in
set_option maxRecDepth 100000 in
theorem lc_20 {ζ : sm_Z} {I : sm_I} {S : ST} {i : Nat} (hz : ζ.1 ≤ 2048) (hi : i + 4 ≤ ζ.1) (hS : okS S) (hC : CI I S) (hM : MI I S) (kk : ∀ I' S', okS S' → CI I' S' → MI I' S' → XL ζ 779 (LW i) [] I') : XL ζ 710 (LW i) [] I := by
  refine l_aload dL_law_710 rfl rfl ?_
  refine l_arg (j := 1) dL_law_711 dL_law_712 dL_law_713 (by decide) dL_law_714 dL_law_715 hz (by omega) ?_
  refine l_callV (as := [.int (ζ.2 (i + 1))]) (st := []) dL_law_716 (n_keep hC hS (ζ.2 (i + 1))) rfl meX8_keep imX8_keep seX8_keep mlL_97 sh_0 rfl rfl (by decide) (by decide) (Nat.le_of_ble_eq_true rfl) ?_
  rintro _ I1 ⟨rfl, hC1, g1⟩
  have hM1 := hM.hi g1
  refine l_aload dL_law_719 rfl rfl ?_
  refine l_arg (j := 1) dL_law_720 dL_law_721 dL_law_722 (by decide) dL_law_723 dL_law_724 hz (by omega) ?_
  refine l_callV (as := [.int (ζ.2 (i + 1))]) (st := [.int (sp_keep S (ζ.2 (i + 1))).1]) dL_law_725 (m_keep hM1 hS (ζ.2 (i + 1))) rfl meX9_keep imX9_keep seX9_keep mlL_100 sh_106 rfl rfl (by decide) (by decide) (Nat.le_of_ble_eq_true rfl) ?_
  rintro _ I2 ⟨rfl, hM2, g2⟩
  exact l_same (tgt := 779) dL_law_728 (by decide) (kk I2 _ (okS_keep hS (ζ.2 (i + 1))) (hC1.lo (okS_keep hS (ζ.2 (i + 1))) g2) hM2)

set_option maxHeartbeats 4000000 in
set_option maxRecDepth 100000 in
theorem lc_21 {ζ : sm_Z} {I : sm_I} {S : ST} {i : Nat} (hz : ζ.1 ≤ 2048) (hi : i + 4 ≤ ζ.1) (hS : okS S) (hC : CI I S) (hM : MI I S) (kk : ∀ I' S', okS S' → CI I' S' → MI I' S' → XL ζ 779 (LW i) [] I') : XL ζ 733 (LW i) [] I := by
  refine l_aload dL_law_733 rfl rfl ?_
  refine l_arg (j := 1) dL_law_734 dL_law_735 dL_law_736 (by decide) dL_law_737 dL_law_738 hz (by omega) ?_
  refine l_callV (as := [.int (ζ.2 (i + 1))]) (st := []) dL_law_739 (n_back hC hS (ζ.2 (i + 1))) rfl meX8_back imX8_back seX8_back mlL_101 sh_0 rfl rfl (by decide) (by decide) (Nat.le_of_ble_eq_true rfl) ?_
  rintro _ I1 ⟨rfl, hC1, g1⟩
  have hM1 := hM.hi g1
  refine l_aload dL_law_742 rfl rfl ?_
  refine l_arg (j := 1) dL_law_743 dL_law_744 dL_law_745 (by decide) dL_law_746 dL_law_747 hz (by omega) ?_
  refine l_callV (as := [.int (ζ.2 (i + 1))]) (st := [.int (sp_back S (ζ.2 (i + 1))).1]) dL_law_748 (m_back hM1 hS (ζ.2 (i + 1))) rfl meX9_back imX9_back seX9_back mlL_104 sh_106 rfl rfl (by decide) (by decide) (Nat.le_of_ble_eq_true rfl) ?_
  rintro _ I2 ⟨rfl, hM2, g2⟩
  exact l_same (tgt := 779) dL_law_751 (by decide) (kk I2 _ (okS_back hS (ζ.2 (i + 1))) (hC1.lo (okS_back hS (ζ.2 (i + 1))) g2) hM2)

set_option maxHeartbeats 4000000 in
set_option maxRecDepth 100000 in
theorem lc_22 {ζ : sm_Z} {I : sm_I} {S : ST} {i : Nat} (hz : ζ.1 ≤ 2048) (hi : i + 4 ≤ ζ.1) (hS : okS S) (hC : CI I S) (hM : MI I S) (kk : ∀ I' S', okS S' → CI I' S' → MI I' S' → XL ζ 779 (LW i) [] I') : XL ζ 756 (LW i) [] I := by
  refine l_aload dL_law_756 rfl rfl ?_
  refine l_arg (j := 1) dL_law_757 dL_law_758 dL_law_759 (by decide) dL_law_760 dL_law_761 hz (by omega) ?_
  refine l_callV (as := [.int (ζ.2 (i + 1))]) (st := []) dL_law_762 (n_count hC hS (ζ.2 (i + 1))) rfl meX8_count imX8_count seX8_count mlL_105 sh_0 rfl rfl (by decide) (by decide) (Nat.le_of_ble_eq_true rfl) ?_
  rintro _ I1 ⟨rfl, g1, hV1⟩
  have hC1 := hC.fr hS g1 hV1
  have hM1 := hM.hi g1.hi
  refine l_aload dL_law_765 rfl rfl ?_
  refine l_arg (j := 1) dL_law_766 dL_law_767 dL_law_768 (by decide) dL_law_769 dL_law_770 hz (by omega) ?_
  refine l_callV (as := [.int (ζ.2 (i + 1))]) (st := [.int (sp_count S (ζ.2 (i + 1)))]) dL_law_771 (m_count hM1 hS (ζ.2 (i + 1))) rfl meX9_count imX9_count seX9_count mlL_108 sh_106 rfl rfl (by decide) (by decide) (Nat.le_of_ble_eq_true rfl) ?_
  rintro _ I2 ⟨rfl, g2⟩
  exact l_same (tgt := 779) dL_law_774 (by decide) (kk I2 S hS (hC1.lo hS g2.lo) (hM1.fr g2))
