/-! the law's walk -/
section LAW
variable {l : Launch} {G : px_G} {T : px_T} {I I' : px_I} {J : px_J} {R : px_R} {μ : px_M} {x m b L : Nat} {xs : Nat → Int32} {σ : px_s} {A : px_a} {nm : String} {Fn : List Frame → Array Value → State → State → Prop} {i : Int32} {k n : Nat}
theorem CI_out (h : px_CI I x A) (hV : px_AV A) (g : ∀ a, x ≤ a → a < x + 275 → I' a = I a) : px_CI I' x A :=
  ⟨ag_congr h.1 hV.1.1 (fun a a1 a2 => g a (by omega) (by omega)), ch_congr h.2.1 hV.2.1 (fun a a1 a2 => g a (by omega) (by omega)), C0_congr h.2.2 hV (fun a a1 a2 => g a (by omega) (by omega))⟩
theorem MI_out (h : px_MI I m A) (g : ∀ a, m ≤ a → a < m + 7 → I' a = I a) : px_MI I' m A := by
  obtain ⟨h1, ⟨h2, h3, h4⟩, h5, h6, h7, h8, h9⟩ := h
  refine ⟨by rw [g _ (by omega) (by omega)]; exact h1, ⟨by rw [g _ (by omega) (by omega)]; exact h2, h3, by rw [g _ (by omega) (by omega)]; exact h4⟩, by rw [g _ (by omega) (by omega)]; exact h5, by rw [g _ (by omega) (by omega)]; exact h6, by rw [g _ (by omega) (by omega)]; exact h7, h8, by rw [g _ (by omega) (by omega)]; exact h9⟩
theorem AV_push (hV : px_AV A) (h : px_VV σ) {y : ((Nat → Bool) × (Nat → px_s)) × (Nat × (Nat → Int32))} (hy : y.1 = A.2.2.1) : px_AV (σ, h_push A.2.1.1 A.2.1.2 A.1, y) := by
  obtain ⟨v1, v2, v3⟩ := hV
  refine ⟨h, fun i hi => ?_, fun s hs hk => ?_⟩
  · dsimp only at hi ⊢
    unfold h_push at hi ⊢
    split at hi
    · rename_i z
      rw [if_pos z]
      dsimp only at hi ⊢
      split
      · exact v2 _ (by omega)
      · exact v1
    · rename_i z
      rw [if_neg z]
      dsimp only at hi ⊢
      split
      · rename_i z2
        exact v2 _ z2
      · exact v1
  · dsimp only at hk ⊢
    rw [hy] at hk ⊢
    exact v3 s hs hk
theorem AV_chg (hV : px_AV A) {q : Int32 × px_s} (h : px_VV q.2) : px_AV (a_chg A q) := by
  unfold a_chg
  split
  · exact hV
  · exact AV_push hV h rfl
theorem AV_save (hV : px_AV A) {s : Nat} : px_AV (a_save A s) := by
  refine ⟨hV.1, hV.2.1, fun s' hs hk => ?_⟩
  unfold a_save at hk ⊢
  dsimp only at hk ⊢
  split
  · exact hV.1
  · rename_i z
    rw [if_neg z] at hk
    exact hV.2.2 s' hs hk
theorem mix_VV {τ : px_s} (h : px_VV τ) : px_VV (f_mix σ τ) := VV_mix h (fun k hk => if_pos hk)
theorem AV_rest (hV : px_AV A) {s : Nat} (hs : s < 2) (hk : A.2.2.1.1 s = true) : px_AV (a_rest A s) := AV_push hV (mix_VV (hV.2.2 s hs hk)) rfl
theorem AV_undo (hV : px_AV A) (h : ¬ A.2.1.1 = 0) : px_AV (f_mix A.1 (A.2.1.2 (A.2.1.1 - 1)), (A.2.1.1 - 1, A.2.1.2), A.2.2) := ⟨mix_VV (hV.2.1 _ (by omega)), fun i hi => hV.2.1 i (by dsimp only at hi; omega), hV.2.2⟩
theorem AV_co (hV : px_AV A) : px_AV (a_co A).2 := by
  unfold a_co
  split
  · exact AV_push hV (V_qdo _ _ _ hV.1) rfl
  · exact hV
theorem ix_rg1 {v : Int32} (h : rg v 0 1) : ix v < 2 := by
  refine ix_ltn (n := 2) ?_ (by decide)
  rw [show nI 2 - 1 = 1 from rfl]
  exact h
theorem co_ke {T' : px_T} {J' : px_J} {R' : px_R} {lo hi : Nat} (h : px_co G T R x) (hk : px_ke lo hi (T, I, J, R) (T', I', J', R')) (h1 : lo ≤ x) (h2 : x + 275 ≤ hi) : px_co G T' R' x := by
  obtain ⟨⟨g0, g1⟩, e1, e2, ⟨e3, e4⟩, e5, e6, e7, e8, e9, e10⟩ := h
  refine ⟨⟨at_ke g0 hk (by omega) (by omega), ?_⟩, wo_ke e1 hk (by omega) (by omega), hs_ke e2 hk (by omega) (by omega), ⟨at_ke e3 hk (by omega) (by omega), fun s hs => ⟨?_, wo_ke (e4 s hs).2 hk (by omega) (by omega)⟩⟩, at_ke e5 hk (by omega) (by omega), pa_ke e6 hk (by omega) (by omega), re_ke e7 hk (by omega) (by omega), rt_ke e8 hk (by omega) (by omega), rt_ke e9 hk (by omega) (by omega), at_ke e10 hk (by omega) (by omega)⟩
  · rw [ke_Ra hk (by omega) (by omega)]; exact g1
  · rw [ke_Ra hk (by omega) (by omega)]; exact (e4 s hs).1
theorem and31 (v : Int32) : ∃ c, c < 32 ∧ v &&& 31 = nI c := by
  refine ⟨(v.toBitVec &&& 31#32).toNat, ?_, ?_⟩
  · rw [BitVec.toNat_and]
    exact Nat.lt_of_le_of_lt Nat.and_le_right (by decide)
  · apply Int32.toBitVec_inj.mp
    show v.toBitVec &&& (31 : Int32).toBitVec = BitVec.ofNat 32 _
    rw [BitVec.ofNat_toNat, BitVec.setWidth_eq]
    rfl
theorem lw_cmp {t : Nat} (hL : L ≤ 2048) (ht : 4 * t ≤ L + 4) : (nI L - 4 < nI (4 * t)) ↔ L < 4 * t + 4 := by
  rw [Int32.lt_iff_toInt_lt, Int32.toInt_sub, nI_ti (by omega), nI_ti (by omega), show (4 : Int32).toInt = 4 from rfl, Int.bmod_eq_of_le (by omega) (by omega)]
  omega
theorem lc_0 (hG : px_tabs G) (hx : px_co G T R x) (hm : px_mo G T R m) (hmx : m = x + 275) (hS : G.2.2.2.2.1[0]? = some (b, L, xs)) (h1 : vp_in (i + 1) L) (h2 : vp_in (i + 2) L) (h3 : vp_in (i + 3) L) (hC : px_CI I x A) (hM : px_MI I m A) (hV : px_AV A) (hN : ∀ (I2 : px_I) (J2 : px_J) (A2 : px_a), px_CI I2 x A2 → px_MI I2 m A2 → px_AV A2 → px_W l G (⟨RL, nm, ""⟩ : MethodName) cL_law 4 (some .boolean) room_1 Fn 982 [some (.ref b), some (.ref x), some (.ref m), some (.int i)] [] 282 3641 (T, I2, J2, R)) : px_W l G (⟨RL, nm, ""⟩ : MethodName) cL_law 4 (some .boolean) room_1 Fn 164 [some (.ref b), some (.ref x), some (.ref m), some (.int i)] [] 282 3641 (T, I, J, R) := by
  refine px_aload_1 dL_law_164 ?_
  refine px_aload_0 dL_law_165 ?_
  refine px_iload_3 dL_law_166 ?_
  refine px_iconst (1) dL_law_167 rfl ?_
  refine px_iadd dL_law_168 ?_
  refine px_sld dL_law_169 hS h1 ?_
  refine px_aload_0 dL_law_170 ?_
  refine px_iload_3 dL_law_171 ?_
  refine px_iconst (2) dL_law_172 rfl ?_
  refine px_iadd dL_law_173 ?_
  refine px_sld dL_law_174 hS h2 ?_
  refine cg_L_13 rfl ⟨⟨Nat.le_of_ble_eq_true rfl, Nat.le_of_ble_eq_true rfl⟩, Nat.le_of_ble_eq_true rfl, Nat.le_of_ble_eq_true rfl, Nat.le_of_ble_eq_true rfl⟩ (by first | assumption | exact co_a hx | exact mo_a hm) dL_law_175 (s_X7_set hx hG hC hV) ?_
  rintro v μ' ⟨rfl, I1, J1, rfl, c1, g1, -⟩; have m1 := MI_out hM (fun a a1 a2 => g1 a (by omega))
  refine px_aload_2 dL_law_178 ?_
  refine px_aload_0 dL_law_179 ?_
  refine px_iload_3 dL_law_180 ?_
  refine px_iconst (1) dL_law_181 rfl ?_
  refine px_iadd dL_law_182 ?_
  refine px_sld dL_law_183 hS h1 ?_
  refine px_aload_0 dL_law_184 ?_
  refine px_iload_3 dL_law_185 ?_
  refine px_iconst (2) dL_law_186 rfl ?_
  refine px_iadd dL_law_187 ?_
  refine px_sld dL_law_188 hS h2 ?_
  refine cg_L_17 rfl ⟨⟨Nat.le_of_ble_eq_true rfl, Nat.le_of_ble_eq_true rfl⟩, Nat.le_of_ble_eq_true rfl, Nat.le_of_ble_eq_true rfl, Nat.le_of_ble_eq_true rfl⟩ (by first | assumption | exact co_a hx | exact mo_a hm) dL_law_189 (s_X8_set hm m1 hV) ?_
  rintro v μ' ⟨rfl, I2, J2, rfl, m2, g2, -⟩
  refine px_icmp_eq (tgt := 982) dL_law_192 (by decide) (fun h192 => ?_) (fun h192 => (by first | exact absurd (rfl) h192 | exact absurd h192 (rfl)))
  exact hN I2 J2 _ (CI_out c1 (AV_chg hV (V_set hV.1)) (fun a a1 a2 => g2 a (by omega))) m2 (AV_chg hV (V_set hV.1))
theorem lc_1 (hG : px_tabs G) (hx : px_co G T R x) (hm : px_mo G T R m) (hmx : m = x + 275) (hS : G.2.2.2.2.1[0]? = some (b, L, xs)) (h1 : vp_in (i + 1) L) (h2 : vp_in (i + 2) L) (h3 : vp_in (i + 3) L) (hC : px_CI I x A) (hM : px_MI I m A) (hV : px_AV A) (hN : ∀ (I2 : px_I) (J2 : px_J) (A2 : px_a), px_CI I2 x A2 → px_MI I2 m A2 → px_AV A2 → px_W l G (⟨RL, nm, ""⟩ : MethodName) cL_law 4 (some .boolean) room_1 Fn 982 [some (.ref b), some (.ref x), some (.ref m), some (.int i)] [] 282 3641 (T, I2, J2, R)) : px_W l G (⟨RL, nm, ""⟩ : MethodName) cL_law 4 (some .boolean) room_1 Fn 197 [some (.ref b), some (.ref x), some (.ref m), some (.int i)] [] 282 3641 (T, I, J, R) := by
  refine px_aload_1 dL_law_197 ?_
  refine px_aload_0 dL_law_198 ?_
  refine px_iload_3 dL_law_199 ?_
  refine px_iconst (1) dL_law_200 rfl ?_
  refine px_iadd dL_law_201 ?_
  refine px_sld dL_law_202 hS h1 ?_
  refine px_aload_0 dL_law_203 ?_
  refine px_iload_3 dL_law_204 ?_
  refine px_iconst (2) dL_law_205 rfl ?_
  refine px_iadd dL_law_206 ?_
  refine px_sld dL_law_207 hS h2 ?_
  refine px_aload_0 dL_law_208 ?_
  refine px_iload_3 dL_law_209 ?_
  refine px_iconst (3) dL_law_210 rfl ?_
  refine px_iadd dL_law_211 ?_
  refine px_sld dL_law_212 hS h3 ?_
  refine cg_L_18 rfl ⟨⟨Nat.le_of_ble_eq_true rfl, Nat.le_of_ble_eq_true rfl⟩, Nat.le_of_ble_eq_true rfl, Nat.le_of_ble_eq_true rfl, Nat.le_of_ble_eq_true rfl⟩ (by first | assumption | exact co_a hx | exact mo_a hm) dL_law_213 (s_X7_road hx hG hC hV) ?_
  rintro v μ' ⟨rfl, I1, J1, rfl, c1, g1, -⟩; have m1 := MI_out hM (fun a a1 a2 => g1 a (by omega))
  refine px_aload_2 dL_law_216 ?_
  refine px_aload_0 dL_law_217 ?_
  refine px_iload_3 dL_law_218 ?_
  refine px_iconst (1) dL_law_219 rfl ?_
  refine px_iadd dL_law_220 ?_
  refine px_sld dL_law_221 hS h1 ?_
  refine px_aload_0 dL_law_222 ?_
  refine px_iload_3 dL_law_223 ?_
  refine px_iconst (2) dL_law_224 rfl ?_
  refine px_iadd dL_law_225 ?_
  refine px_sld dL_law_226 hS h2 ?_
  refine px_aload_0 dL_law_227 ?_
  refine px_iload_3 dL_law_228 ?_
  refine px_iconst (3) dL_law_229 rfl ?_
  refine px_iadd dL_law_230 ?_
  refine px_sld dL_law_231 hS h3 ?_
  refine cg_L_22 rfl ⟨⟨Nat.le_of_ble_eq_true rfl, Nat.le_of_ble_eq_true rfl⟩, Nat.le_of_ble_eq_true rfl, Nat.le_of_ble_eq_true rfl, Nat.le_of_ble_eq_true rfl⟩ (by first | assumption | exact co_a hx | exact mo_a hm) dL_law_232 (s_X8_road hm m1 hV) ?_
  rintro v μ' ⟨rfl, I2, J2, rfl, m2, g2, -⟩
  refine px_icmp_eq (tgt := 982) dL_law_235 (by decide) (fun h235 => ?_) (fun h235 => (by first | exact absurd (rfl) h235 | exact absurd h235 (rfl)))
  exact hN I2 J2 _ (CI_out c1 (AV_chg hV (V_addroad hV.1)) (fun a a1 a2 => g2 a (by omega))) m2 (AV_chg hV (V_addroad hV.1))
theorem lc_2 (hG : px_tabs G) (hx : px_co G T R x) (hm : px_mo G T R m) (hmx : m = x + 275) (hS : G.2.2.2.2.1[0]? = some (b, L, xs)) (h1 : vp_in (i + 1) L) (h2 : vp_in (i + 2) L) (h3 : vp_in (i + 3) L) (hC : px_CI I x A) (hM : px_MI I m A) (hV : px_AV A) (hN : ∀ (I2 : px_I) (J2 : px_J) (A2 : px_a), px_CI I2 x A2 → px_MI I2 m A2 → px_AV A2 → px_W l G (⟨RL, nm, ""⟩ : MethodName) cL_law 4 (some .boolean) room_1 Fn 982 [some (.ref b), some (.ref x), some (.ref m), some (.int i)] [] 282 3641 (T, I2, J2, R)) : px_W l G (⟨RL, nm, ""⟩ : MethodName) cL_law 4 (some .boolean) room_1 Fn 240 [some (.ref b), some (.ref x), some (.ref m), some (.int i)] [] 282 3641 (T, I, J, R) := by
  refine px_aload_1 dL_law_240 ?_
  refine px_aload_0 dL_law_241 ?_
  refine px_iload_3 dL_law_242 ?_
  refine px_iconst (1) dL_law_243 rfl ?_
  refine px_iadd dL_law_244 ?_
  refine px_sld dL_law_245 hS h1 ?_
  refine px_aload_0 dL_law_246 ?_
  refine px_iload_3 dL_law_247 ?_
  refine px_iconst (2) dL_law_248 rfl ?_
  refine px_iadd dL_law_249 ?_
  refine px_sld dL_law_250 hS h2 ?_
  refine cg_L_23 rfl ⟨⟨Nat.le_of_ble_eq_true rfl, Nat.le_of_ble_eq_true rfl⟩, Nat.le_of_ble_eq_true rfl, Nat.le_of_ble_eq_true rfl, Nat.le_of_ble_eq_true rfl⟩ (by first | assumption | exact co_a hx | exact mo_a hm) dL_law_251 (s_X7_price hx hG hC hV) ?_
  rintro v μ' ⟨rfl, I1, J1, rfl, c1, g1, -⟩; have m1 := MI_out hM (fun a a1 a2 => g1 a (by omega))
  refine px_aload_2 dL_law_254 ?_
  refine px_aload_0 dL_law_255 ?_
  refine px_iload_3 dL_law_256 ?_
  refine px_iconst (1) dL_law_257 rfl ?_
  refine px_iadd dL_law_258 ?_
  refine px_sld dL_law_259 hS h1 ?_
  refine px_aload_0 dL_law_260 ?_
  refine px_iload_3 dL_law_261 ?_
  refine px_iconst (2) dL_law_262 rfl ?_
  refine px_iadd dL_law_263 ?_
  refine px_sld dL_law_264 hS h2 ?_
  refine cg_L_26 rfl ⟨⟨Nat.le_of_ble_eq_true rfl, Nat.le_of_ble_eq_true rfl⟩, Nat.le_of_ble_eq_true rfl, Nat.le_of_ble_eq_true rfl, Nat.le_of_ble_eq_true rfl⟩ (by first | assumption | exact co_a hx | exact mo_a hm) dL_law_265 (s_X8_price hm m1 hV) ?_
  rintro v μ' ⟨rfl, I2, J2, rfl, m2, g2, -⟩
  refine px_icmp_eq (tgt := 982) dL_law_268 (by decide) (fun h268 => ?_) (fun h268 => (by first | exact absurd (rfl) h268 | exact absurd h268 (rfl)))
  exact hN I2 J2 _ (CI_out c1 (AV_chg hV (V_fprice hV.1)) (fun a a1 a2 => g2 a (by omega))) m2 (AV_chg hV (V_fprice hV.1))
theorem lc_3 (hG : px_tabs G) (hx : px_co G T R x) (hm : px_mo G T R m) (hmx : m = x + 275) (hS : G.2.2.2.2.1[0]? = some (b, L, xs)) (h1 : vp_in (i + 1) L) (h2 : vp_in (i + 2) L) (h3 : vp_in (i + 3) L) (hC : px_CI I x A) (hM : px_MI I m A) (hV : px_AV A) (hN : ∀ (I2 : px_I) (J2 : px_J) (A2 : px_a), px_CI I2 x A2 → px_MI I2 m A2 → px_AV A2 → px_W l G (⟨RL, nm, ""⟩ : MethodName) cL_law 4 (some .boolean) room_1 Fn 982 [some (.ref b), some (.ref x), some (.ref m), some (.int i)] [] 282 3641 (T, I2, J2, R)) : px_W l G (⟨RL, nm, ""⟩ : MethodName) cL_law 4 (some .boolean) room_1 Fn 273 [some (.ref b), some (.ref x), some (.ref m), some (.int i)] [] 282 3641 (T, I, J, R) := by
  refine px_aload_1 dL_law_273 ?_
  refine px_aload_0 dL_law_274 ?_
  refine px_iload_3 dL_law_275 ?_
  refine px_iconst (1) dL_law_276 rfl ?_
  refine px_iadd dL_law_277 ?_
  refine px_sld dL_law_278 hS h1 ?_
  refine px_aload_0 dL_law_279 ?_
  refine px_iload_3 dL_law_280 ?_
  refine px_iconst (2) dL_law_281 rfl ?_
  refine px_iadd dL_law_282 ?_
  refine px_sld dL_law_283 hS h2 ?_
  refine cg_L_27 rfl ⟨⟨Nat.le_of_ble_eq_true rfl, Nat.le_of_ble_eq_true rfl⟩, Nat.le_of_ble_eq_true rfl, Nat.le_of_ble_eq_true rfl, Nat.le_of_ble_eq_true rfl⟩ (by first | assumption | exact co_a hx | exact mo_a hm) dL_law_284 (s_X7_guard hx hG hC hV) ?_
  rintro v μ' ⟨rfl, I1, J1, rfl, c1, g1, -⟩; have m1 := MI_out hM (fun a a1 a2 => g1 a (by omega))
  refine px_aload_2 dL_law_287 ?_
  refine px_aload_0 dL_law_288 ?_
  refine px_iload_3 dL_law_289 ?_
  refine px_iconst (1) dL_law_290 rfl ?_
  refine px_iadd dL_law_291 ?_
  refine px_sld dL_law_292 hS h1 ?_
  refine px_aload_0 dL_law_293 ?_
  refine px_iload_3 dL_law_294 ?_
  refine px_iconst (2) dL_law_295 rfl ?_
  refine px_iadd dL_law_296 ?_
  refine px_sld dL_law_297 hS h2 ?_
  refine cg_L_30 rfl ⟨⟨Nat.le_of_ble_eq_true rfl, Nat.le_of_ble_eq_true rfl⟩, Nat.le_of_ble_eq_true rfl, Nat.le_of_ble_eq_true rfl, Nat.le_of_ble_eq_true rfl⟩ (by first | assumption | exact co_a hx | exact mo_a hm) dL_law_298 (s_X8_guard hm m1 hV) ?_
  rintro v μ' ⟨rfl, I2, J2, rfl, m2, g2, -⟩
  refine px_icmp_eq (tgt := 982) dL_law_301 (by decide) (fun h301 => ?_) (fun h301 => (by first | exact absurd (rfl) h301 | exact absurd h301 (rfl)))
  exact hN I2 J2 _ (CI_out c1 (AV_chg hV (V_guard hV.1)) (fun a a1 a2 => g2 a (by omega))) m2 (AV_chg hV (V_guard hV.1))
theorem lc_4 (hG : px_tabs G) (hx : px_co G T R x) (hm : px_mo G T R m) (hmx : m = x + 275) (hS : G.2.2.2.2.1[0]? = some (b, L, xs)) (h1 : vp_in (i + 1) L) (h2 : vp_in (i + 2) L) (h3 : vp_in (i + 3) L) (hC : px_CI I x A) (hM : px_MI I m A) (hV : px_AV A) (hN : ∀ (I2 : px_I) (J2 : px_J) (A2 : px_a), px_CI I2 x A2 → px_MI I2 m A2 → px_AV A2 → px_W l G (⟨RL, nm, ""⟩ : MethodName) cL_law 4 (some .boolean) room_1 Fn 982 [some (.ref b), some (.ref x), some (.ref m), some (.int i)] [] 282 3641 (T, I2, J2, R)) : px_W l G (⟨RL, nm, ""⟩ : MethodName) cL_law 4 (some .boolean) room_1 Fn 306 [some (.ref b), some (.ref x), some (.ref m), some (.int i)] [] 282 3641 (T, I, J, R) := by
  refine px_aload_1 dL_law_306 ?_
  refine px_aload_0 dL_law_307 ?_
  refine px_iload_3 dL_law_308 ?_
  refine px_iconst (1) dL_law_309 rfl ?_
  refine px_iadd dL_law_310 ?_
  refine px_sld dL_law_311 hS h1 ?_
  refine px_aload_0 dL_law_312 ?_
  refine px_iload_3 dL_law_313 ?_
  refine px_iconst (2) dL_law_314 rfl ?_
  refine px_iadd dL_law_315 ?_
  refine px_sld dL_law_316 hS h2 ?_
  refine cg_L_31 rfl ⟨⟨Nat.le_of_ble_eq_true rfl, Nat.le_of_ble_eq_true rfl⟩, Nat.le_of_ble_eq_true rfl, Nat.le_of_ble_eq_true rfl, Nat.le_of_ble_eq_true rfl⟩ (by first | assumption | exact co_a hx | exact mo_a hm) dL_law_317 (s_X7_toll hx hG hC hV) ?_
  rintro v μ' ⟨rfl, I1, J1, rfl, c1, g1, -⟩; have m1 := MI_out hM (fun a a1 a2 => g1 a (by omega))
  refine px_aload_2 dL_law_320 ?_
  refine px_aload_0 dL_law_321 ?_
  refine px_iload_3 dL_law_322 ?_
  refine px_iconst (1) dL_law_323 rfl ?_
  refine px_iadd dL_law_324 ?_
  refine px_sld dL_law_325 hS h1 ?_
  refine px_aload_0 dL_law_326 ?_
  refine px_iload_3 dL_law_327 ?_
  refine px_iconst (2) dL_law_328 rfl ?_
  refine px_iadd dL_law_329 ?_
  refine px_sld dL_law_330 hS h2 ?_
  refine cg_L_34 rfl ⟨⟨Nat.le_of_ble_eq_true rfl, Nat.le_of_ble_eq_true rfl⟩, Nat.le_of_ble_eq_true rfl, Nat.le_of_ble_eq_true rfl, Nat.le_of_ble_eq_true rfl⟩ (by first | assumption | exact co_a hx | exact mo_a hm) dL_law_331 (s_X8_toll hm m1 hV) ?_
  rintro v μ' ⟨rfl, I2, J2, rfl, m2, g2, -⟩
  refine px_icmp_eq (tgt := 982) dL_law_334 (by decide) (fun h334 => ?_) (fun h334 => (by first | exact absurd (rfl) h334 | exact absurd h334 (rfl)))
  exact hN I2 J2 _ (CI_out c1 (AV_chg hV (V_toll hV.1)) (fun a a1 a2 => g2 a (by omega))) m2 (AV_chg hV (V_toll hV.1))
theorem lc_5 (hG : px_tabs G) (hx : px_co G T R x) (hm : px_mo G T R m) (hmx : m = x + 275) (hS : G.2.2.2.2.1[0]? = some (b, L, xs)) (h1 : vp_in (i + 1) L) (h2 : vp_in (i + 2) L) (h3 : vp_in (i + 3) L) (hC : px_CI I x A) (hM : px_MI I m A) (hV : px_AV A) (hN : ∀ (I2 : px_I) (J2 : px_J) (A2 : px_a), px_CI I2 x A2 → px_MI I2 m A2 → px_AV A2 → px_W l G (⟨RL, nm, ""⟩ : MethodName) cL_law 4 (some .boolean) room_1 Fn 982 [some (.ref b), some (.ref x), some (.ref m), some (.int i)] [] 282 3641 (T, I2, J2, R)) : px_W l G (⟨RL, nm, ""⟩ : MethodName) cL_law 4 (some .boolean) room_1 Fn 339 [some (.ref b), some (.ref x), some (.ref m), some (.int i)] [] 282 3641 (T, I, J, R) := by
  refine px_aload_1 dL_law_339 ?_
  refine cg_L_35 rfl ⟨⟨Nat.le_of_ble_eq_true rfl, Nat.le_of_ble_eq_true rfl⟩, Nat.le_of_ble_eq_true rfl, Nat.le_of_ble_eq_true rfl, Nat.le_of_ble_eq_true rfl⟩ (by first | assumption | exact co_a hx | exact mo_a hm) dL_law_340 (s_X7_makeHonest hx hC hV) ?_
  rintro v μ' ⟨rfl, I1, J1, rfl, c1, g1, -⟩; have m1 := MI_out hM (fun a a1 a2 => g1 a (by omega))
  refine px_aload_2 dL_law_343 ?_
  refine cg_L_39 rfl ⟨⟨Nat.le_of_ble_eq_true rfl, Nat.le_of_ble_eq_true rfl⟩, Nat.le_of_ble_eq_true rfl, Nat.le_of_ble_eq_true rfl, Nat.le_of_ble_eq_true rfl⟩ (by first | assumption | exact co_a hx | exact mo_a hm) dL_law_344 (s_X8_makeHonest hm m1 hV) ?_
  rintro v μ' ⟨rfl, I2, J2, rfl, m2, g2, -⟩
  refine px_icmp_eq (tgt := 982) dL_law_347 (by decide) (fun h347 => ?_) (fun h347 => (by first | exact absurd (rfl) h347 | exact absurd h347 (rfl)))
  exact hN I2 J2 _ (CI_out c1 (AV_chg hV (V_mkh hV.1)) (fun a a1 a2 => g2 a (by omega))) m2 (AV_chg hV (V_mkh hV.1))
theorem lc_6 (hG : px_tabs G) (hx : px_co G T R x) (hm : px_mo G T R m) (hmx : m = x + 275) (hS : G.2.2.2.2.1[0]? = some (b, L, xs)) (h1 : vp_in (i + 1) L) (h2 : vp_in (i + 2) L) (h3 : vp_in (i + 3) L) (hC : px_CI I x A) (hM : px_MI I m A) (hV : px_AV A) (hN : ∀ (I2 : px_I) (J2 : px_J) (A2 : px_a), px_CI I2 x A2 → px_MI I2 m A2 → px_AV A2 → px_W l G (⟨RL, nm, ""⟩ : MethodName) cL_law 4 (some .boolean) room_1 Fn 982 [some (.ref b), some (.ref x), some (.ref m), some (.int i)] [] 282 3641 (T, I2, J2, R)) : px_W l G (⟨RL, nm, ""⟩ : MethodName) cL_law 4 (some .boolean) room_1 Fn 352 [some (.ref b), some (.ref x), some (.ref m), some (.int i)] [] 282 3641 (T, I, J, R) := by
  refine px_aload_1 dL_law_352 ?_
  refine px_aload_0 dL_law_353 ?_
  refine px_iload_3 dL_law_354 ?_
  refine px_iconst (1) dL_law_355 rfl ?_
  refine px_iadd dL_law_356 ?_
  refine px_sld dL_law_357 hS h1 ?_
  refine px_aload_0 dL_law_358 ?_
  refine px_iload_3 dL_law_359 ?_
  refine px_iconst (2) dL_law_360 rfl ?_
  refine px_iadd dL_law_361 ?_
  refine px_sld dL_law_362 hS h2 ?_
  refine cg_L_40 rfl ⟨⟨Nat.le_of_ble_eq_true rfl, Nat.le_of_ble_eq_true rfl⟩, Nat.le_of_ble_eq_true rfl, Nat.le_of_ble_eq_true rfl, Nat.le_of_ble_eq_true rfl⟩ (by first | assumption | exact co_a hx | exact mo_a hm) dL_law_363 (s_X7_cart hx hG hC hV) ?_
  rintro v μ' ⟨rfl, I1, J1, rfl, c1, g1, -⟩; have m1 := MI_out hM (fun a a1 a2 => g1 a (by omega))
  refine px_aload_2 dL_law_366 ?_
  refine px_aload_0 dL_law_367 ?_
  refine px_iload_3 dL_law_368 ?_
  refine px_iconst (1) dL_law_369 rfl ?_
  refine px_iadd dL_law_370 ?_
  refine px_sld dL_law_371 hS h1 ?_
  refine px_aload_0 dL_law_372 ?_
  refine px_iload_3 dL_law_373 ?_
  refine px_iconst (2) dL_law_374 rfl ?_
  refine px_iadd dL_law_375 ?_
  refine px_sld dL_law_376 hS h2 ?_
  refine cg_L_43 rfl ⟨⟨Nat.le_of_ble_eq_true rfl, Nat.le_of_ble_eq_true rfl⟩, Nat.le_of_ble_eq_true rfl, Nat.le_of_ble_eq_true rfl, Nat.le_of_ble_eq_true rfl⟩ (by first | assumption | exact co_a hx | exact mo_a hm) dL_law_377 (s_X8_cart hm m1 hV) ?_
  rintro v μ' ⟨rfl, I2, J2, rfl, m2, g2, -⟩
  refine px_icmp_eq (tgt := 982) dL_law_380 (by decide) (fun h380 => ?_) (fun h380 => (by first | exact absurd (rfl) h380 | exact absurd h380 (rfl)))
  exact hN I2 J2 _ (CI_out c1 (AV_chg hV (V_addcart hV.1)) (fun a a1 a2 => g2 a (by omega))) m2 (AV_chg hV (V_addcart hV.1))
theorem lc_7 (hG : px_tabs G) (hx : px_co G T R x) (hm : px_mo G T R m) (hmx : m = x + 275) (hS : G.2.2.2.2.1[0]? = some (b, L, xs)) (h1 : vp_in (i + 1) L) (h2 : vp_in (i + 2) L) (h3 : vp_in (i + 3) L) (hC : px_CI I x A) (hM : px_MI I m A) (hV : px_AV A) (hN : ∀ (I2 : px_I) (J2 : px_J) (A2 : px_a), px_CI I2 x A2 → px_MI I2 m A2 → px_AV A2 → px_W l G (⟨RL, nm, ""⟩ : MethodName) cL_law 4 (some .boolean) room_1 Fn 982 [some (.ref b), some (.ref x), some (.ref m), some (.int i)] [] 282 3641 (T, I2, J2, R)) : px_W l G (⟨RL, nm, ""⟩ : MethodName) cL_law 4 (some .boolean) room_1 Fn 385 [some (.ref b), some (.ref x), some (.ref m), some (.int i)] [] 282 3641 (T, I, J, R) := by
  refine px_aload_1 dL_law_385 ?_
  refine px_aload_0 dL_law_386 ?_
  refine px_iload_3 dL_law_387 ?_
  refine px_iconst (1) dL_law_388 rfl ?_
  refine px_iadd dL_law_389 ?_
  refine px_sld dL_law_390 hS h1 ?_
  refine px_aload_0 dL_law_391 ?_
  refine px_iload_3 dL_law_392 ?_
  refine px_iconst (2) dL_law_393 rfl ?_
  refine px_iadd dL_law_394 ?_
  refine px_sld dL_law_395 hS h2 ?_
  refine cg_L_44 rfl ⟨⟨Nat.le_of_ble_eq_true rfl, Nat.le_of_ble_eq_true rfl⟩, Nat.le_of_ble_eq_true rfl, Nat.le_of_ble_eq_true rfl, Nat.le_of_ble_eq_true rfl⟩ (by first | assumption | exact co_a hx | exact mo_a hm) dL_law_396 (s_X7_buy hx hG hC hV) ?_
  rintro v μ' ⟨rfl, I1, J1, rfl, c1, g1, -⟩; have m1 := MI_out hM (fun a a1 a2 => g1 a (by omega))
  refine px_aload_2 dL_law_399 ?_
  refine px_aload_0 dL_law_400 ?_
  refine px_iload_3 dL_law_401 ?_
  refine px_iconst (1) dL_law_402 rfl ?_
  refine px_iadd dL_law_403 ?_
  refine px_sld dL_law_404 hS h1 ?_
  refine px_aload_0 dL_law_405 ?_
  refine px_iload_3 dL_law_406 ?_
  refine px_iconst (2) dL_law_407 rfl ?_
  refine px_iadd dL_law_408 ?_
  refine px_sld dL_law_409 hS h2 ?_
  refine cg_L_47 rfl ⟨⟨Nat.le_of_ble_eq_true rfl, Nat.le_of_ble_eq_true rfl⟩, Nat.le_of_ble_eq_true rfl, Nat.le_of_ble_eq_true rfl, Nat.le_of_ble_eq_true rfl⟩ (by first | assumption | exact co_a hx | exact mo_a hm) dL_law_410 (s_X8_buy hm m1 hV) ?_
  rintro v μ' ⟨rfl, I2, J2, rfl, m2, g2, -⟩
  refine px_icmp_eq (tgt := 982) dL_law_413 (by decide) (fun h413 => ?_) (fun h413 => (by first | exact absurd (rfl) h413 | exact absurd h413 (rfl)))
  exact hN I2 J2 _ (CI_out c1 (AV_chg hV (V_buy hV.1)) (fun a a1 a2 => g2 a (by omega))) m2 (AV_chg hV (V_buy hV.1))
theorem lc_8 (hG : px_tabs G) (hx : px_co G T R x) (hm : px_mo G T R m) (hmx : m = x + 275) (hS : G.2.2.2.2.1[0]? = some (b, L, xs)) (h1 : vp_in (i + 1) L) (h2 : vp_in (i + 2) L) (h3 : vp_in (i + 3) L) (hC : px_CI I x A) (hM : px_MI I m A) (hV : px_AV A) (hN : ∀ (I2 : px_I) (J2 : px_J) (A2 : px_a), px_CI I2 x A2 → px_MI I2 m A2 → px_AV A2 → px_W l G (⟨RL, nm, ""⟩ : MethodName) cL_law 4 (some .boolean) room_1 Fn 982 [some (.ref b), some (.ref x), some (.ref m), some (.int i)] [] 282 3641 (T, I2, J2, R)) : px_W l G (⟨RL, nm, ""⟩ : MethodName) cL_law 4 (some .boolean) room_1 Fn 418 [some (.ref b), some (.ref x), some (.ref m), some (.int i)] [] 282 3641 (T, I, J, R) := by
  refine px_aload_1 dL_law_418 ?_
  refine px_aload_0 dL_law_419 ?_
  refine px_iload_3 dL_law_420 ?_
  refine px_iconst (1) dL_law_421 rfl ?_
  refine px_iadd dL_law_422 ?_
  refine px_sld dL_law_423 hS h1 ?_
  refine px_aload_0 dL_law_424 ?_
  refine px_iload_3 dL_law_425 ?_
  refine px_iconst (2) dL_law_426 rfl ?_
  refine px_iadd dL_law_427 ?_
  refine px_sld dL_law_428 hS h2 ?_
  refine cg_L_48 rfl ⟨⟨Nat.le_of_ble_eq_true rfl, Nat.le_of_ble_eq_true rfl⟩, Nat.le_of_ble_eq_true rfl, Nat.le_of_ble_eq_true rfl, Nat.le_of_ble_eq_true rfl⟩ (by first | assumption | exact co_a hx | exact mo_a hm) dL_law_429 (s_X7_sell hx hG hC hV) ?_
  rintro v μ' ⟨rfl, I1, J1, rfl, c1, g1, -⟩; have m1 := MI_out hM (fun a a1 a2 => g1 a (by omega))
  refine px_aload_2 dL_law_432 ?_
  refine px_aload_0 dL_law_433 ?_
  refine px_iload_3 dL_law_434 ?_
  refine px_iconst (1) dL_law_435 rfl ?_
  refine px_iadd dL_law_436 ?_
  refine px_sld dL_law_437 hS h1 ?_
  refine px_aload_0 dL_law_438 ?_
  refine px_iload_3 dL_law_439 ?_
  refine px_iconst (2) dL_law_440 rfl ?_
  refine px_iadd dL_law_441 ?_
  refine px_sld dL_law_442 hS h2 ?_
  refine cg_L_51 rfl ⟨⟨Nat.le_of_ble_eq_true rfl, Nat.le_of_ble_eq_true rfl⟩, Nat.le_of_ble_eq_true rfl, Nat.le_of_ble_eq_true rfl, Nat.le_of_ble_eq_true rfl⟩ (by first | assumption | exact co_a hx | exact mo_a hm) dL_law_443 (s_X8_sell hm m1 hV) ?_
  rintro v μ' ⟨rfl, I2, J2, rfl, m2, g2, -⟩
  refine px_icmp_eq (tgt := 982) dL_law_446 (by decide) (fun h446 => ?_) (fun h446 => (by first | exact absurd (rfl) h446 | exact absurd h446 (rfl)))
  exact hN I2 J2 _ (CI_out c1 (AV_chg hV (V_sell hV.1)) (fun a a1 a2 => g2 a (by omega))) m2 (AV_chg hV (V_sell hV.1))
theorem lc_9 (hG : px_tabs G) (hx : px_co G T R x) (hm : px_mo G T R m) (hmx : m = x + 275) (hS : G.2.2.2.2.1[0]? = some (b, L, xs)) (h1 : vp_in (i + 1) L) (h2 : vp_in (i + 2) L) (h3 : vp_in (i + 3) L) (hC : px_CI I x A) (hM : px_MI I m A) (hV : px_AV A) (hN : ∀ (I2 : px_I) (J2 : px_J) (A2 : px_a), px_CI I2 x A2 → px_MI I2 m A2 → px_AV A2 → px_W l G (⟨RL, nm, ""⟩ : MethodName) cL_law 4 (some .boolean) room_1 Fn 982 [some (.ref b), some (.ref x), some (.ref m), some (.int i)] [] 282 3641 (T, I2, J2, R)) : px_W l G (⟨RL, nm, ""⟩ : MethodName) cL_law 4 (some .boolean) room_1 Fn 451 [some (.ref b), some (.ref x), some (.ref m), some (.int i)] [] 282 3641 (T, I, J, R) := by
  refine px_aload_1 dL_law_451 ?_
  refine px_aload_0 dL_law_452 ?_
  refine px_iload_3 dL_law_453 ?_
  refine px_iconst (1) dL_law_454 rfl ?_
  refine px_iadd dL_law_455 ?_
  refine px_sld dL_law_456 hS h1 ?_
  refine px_aload_0 dL_law_457 ?_
  refine px_iload_3 dL_law_458 ?_
  refine px_iconst (2) dL_law_459 rfl ?_
  refine px_iadd dL_law_460 ?_
  refine px_sld dL_law_461 hS h2 ?_
  refine px_aload_0 dL_law_462 ?_
  refine px_iload_3 dL_law_463 ?_
  refine px_iconst (3) dL_law_464 rfl ?_
  refine px_iadd dL_law_465 ?_
  refine px_sld dL_law_466 hS h3 ?_
  refine cg_L_52 rfl ⟨⟨Nat.le_of_ble_eq_true rfl, Nat.le_of_ble_eq_true rfl⟩, Nat.le_of_ble_eq_true rfl, Nat.le_of_ble_eq_true rfl, Nat.le_of_ble_eq_true rfl⟩ (by first | assumption | exact co_a hx | exact mo_a hm) dL_law_467 (s_X7_go hx hG hC hV) ?_
  rintro v μ' ⟨rfl, I1, J1, rfl, c1, g1, -⟩; have m1 := MI_out hM (fun a a1 a2 => g1 a (by omega))
  refine px_aload_2 dL_law_470 ?_
  refine px_aload_0 dL_law_471 ?_
  refine px_iload_3 dL_law_472 ?_
  refine px_iconst (1) dL_law_473 rfl ?_
  refine px_iadd dL_law_474 ?_
  refine px_sld dL_law_475 hS h1 ?_
  refine px_aload_0 dL_law_476 ?_
  refine px_iload_3 dL_law_477 ?_
  refine px_iconst (2) dL_law_478 rfl ?_
  refine px_iadd dL_law_479 ?_
  refine px_sld dL_law_480 hS h2 ?_
  refine px_aload_0 dL_law_481 ?_
  refine px_iload_3 dL_law_482 ?_
  refine px_iconst (3) dL_law_483 rfl ?_
  refine px_iadd dL_law_484 ?_
  refine px_sld dL_law_485 hS h3 ?_
  refine cg_L_55 rfl ⟨⟨Nat.le_of_ble_eq_true rfl, Nat.le_of_ble_eq_true rfl⟩, Nat.le_of_ble_eq_true rfl, Nat.le_of_ble_eq_true rfl, Nat.le_of_ble_eq_true rfl⟩ (by first | assumption | exact co_a hx | exact mo_a hm) dL_law_486 (s_X8_go hm m1 hV) ?_
  rintro v μ' ⟨rfl, I2, J2, rfl, m2, g2, -⟩
  refine px_icmp_eq (tgt := 982) dL_law_489 (by decide) (fun h489 => ?_) (fun h489 => (by first | exact absurd (rfl) h489 | exact absurd h489 (rfl)))
  exact hN I2 J2 _ (CI_out c1 (AV_chg hV (V_go hV.1)) (fun a a1 a2 => g2 a (by omega))) m2 (AV_chg hV (V_go hV.1))
theorem lc_10 (hG : px_tabs G) (hx : px_co G T R x) (hm : px_mo G T R m) (hmx : m = x + 275) (hS : G.2.2.2.2.1[0]? = some (b, L, xs)) (h1 : vp_in (i + 1) L) (h2 : vp_in (i + 2) L) (h3 : vp_in (i + 3) L) (hC : px_CI I x A) (hM : px_MI I m A) (hV : px_AV A) (hN : ∀ (I2 : px_I) (J2 : px_J) (A2 : px_a), px_CI I2 x A2 → px_MI I2 m A2 → px_AV A2 → px_W l G (⟨RL, nm, ""⟩ : MethodName) cL_law 4 (some .boolean) room_1 Fn 982 [some (.ref b), some (.ref x), some (.ref m), some (.int i)] [] 282 3641 (T, I2, J2, R)) : px_W l G (⟨RL, nm, ""⟩ : MethodName) cL_law 4 (some .boolean) room_1 Fn 494 [some (.ref b), some (.ref x), some (.ref m), some (.int i)] [] 282 3641 (T, I, J, R) := by
  refine px_aload_1 dL_law_494 ?_
  refine cg_L_56 rfl ⟨⟨Nat.le_of_ble_eq_true rfl, Nat.le_of_ble_eq_true rfl⟩, Nat.le_of_ble_eq_true rfl, Nat.le_of_ble_eq_true rfl, Nat.le_of_ble_eq_true rfl⟩ (by first | assumption | exact co_a hx | exact mo_a hm) dL_law_495 (s_X7_write hx hC hV) ?_
  rintro v μ' ⟨rfl, I1, J1, rfl, c1, g1, -⟩; have m1 := MI_out hM (fun a a1 a2 => g1 a (by omega))
  refine px_aload_2 dL_law_498 ?_
  refine cg_L_59 rfl ⟨⟨Nat.le_of_ble_eq_true rfl, Nat.le_of_ble_eq_true rfl⟩, Nat.le_of_ble_eq_true rfl, Nat.le_of_ble_eq_true rfl, Nat.le_of_ble_eq_true rfl⟩ (by first | assumption | exact co_a hx | exact mo_a hm) dL_law_499 (s_X8_write hm m1) ?_
  rintro v μ' ⟨rfl, I2, J2, rfl, m2, g2, -⟩
  refine px_icmp_eq (tgt := 982) dL_law_502 (by decide) (fun h502 => ?_) (fun h502 => (by first | exact absurd (rfl) h502 | exact absurd h502 (rfl)))
  exact hN I2 J2 _ (CI_out c1 ⟨hV.1, hV.2.1, hV.2.2⟩ (fun a a1 a2 => g2 a (by omega))) m2 ⟨hV.1, hV.2.1, hV.2.2⟩
theorem lc_11 (hG : px_tabs G) (hx : px_co G T R x) (hm : px_mo G T R m) (hmx : m = x + 275) (hS : G.2.2.2.2.1[0]? = some (b, L, xs)) (h1 : vp_in (i + 1) L) (h2 : vp_in (i + 2) L) (h3 : vp_in (i + 3) L) (hC : px_CI I x A) (hM : px_MI I m A) (hV : px_AV A) (hN : ∀ (I2 : px_I) (J2 : px_J) (A2 : px_a), px_CI I2 x A2 → px_MI I2 m A2 → px_AV A2 → px_W l G (⟨RL, nm, ""⟩ : MethodName) cL_law 4 (some .boolean) room_1 Fn 982 [some (.ref b), some (.ref x), some (.ref m), some (.int i)] [] 282 3641 (T, I2, J2, R)) : px_W l G (⟨RL, nm, ""⟩ : MethodName) cL_law 4 (some .boolean) room_1 Fn 507 [some (.ref b), some (.ref x), some (.ref m), some (.int i)] [] 282 3641 (T, I, J, R) := by
  refine px_aload_1 dL_law_507 ?_
  refine px_aload_0 dL_law_508 ?_
  refine px_iload_3 dL_law_509 ?_
  refine px_iconst (1) dL_law_510 rfl ?_
  refine px_iadd dL_law_511 ?_
  refine px_sld dL_law_512 hS h1 ?_
  refine px_aload_0 dL_law_513 ?_
  refine px_iload_3 dL_law_514 ?_
  refine px_iconst (2) dL_law_515 rfl ?_
  refine px_iadd dL_law_516 ?_
  refine px_sld dL_law_517 hS h2 ?_
  refine cg_L_60 rfl ⟨⟨Nat.le_of_ble_eq_true rfl, Nat.le_of_ble_eq_true rfl⟩, Nat.le_of_ble_eq_true rfl, Nat.le_of_ble_eq_true rfl, Nat.le_of_ble_eq_true rfl⟩ (by first | assumption | exact co_a hx | exact mo_a hm) dL_law_518 (s_X7_ofTown hx hG hC.1 hV.1.1 hC.2.2.2.2.2.1 hC.2.2.2.2.2.2) ?_
  rintro v μ' q1; obtain ⟨rfl, I1, J1, rfl, c1, g1, -⟩ := Qr2_Qx hC hV q1; have m1 := MI_out hM (fun a a1 a2 => g1 a (by omega)); have v1 : px_V (I1 (m + 1)) := by { rw [m1.1]; exact hV.1.1 }
  refine px_aload_2 dL_law_521 ?_
  refine px_aload_0 dL_law_522 ?_
  refine px_iload_3 dL_law_523 ?_
  refine px_iconst (1) dL_law_524 rfl ?_
  refine px_iadd dL_law_525 ?_
  refine px_sld dL_law_526 hS h1 ?_
  refine px_aload_0 dL_law_527 ?_
  refine px_iload_3 dL_law_528 ?_
  refine px_iconst (2) dL_law_529 rfl ?_
  refine px_iadd dL_law_530 ?_
  refine px_sld dL_law_531 hS h2 ?_
  refine cg_L_63 rfl ⟨⟨Nat.le_of_ble_eq_true rfl, Nat.le_of_ble_eq_true rfl⟩, Nat.le_of_ble_eq_true rfl, Nat.le_of_ble_eq_true rfl, Nat.le_of_ble_eq_true rfl⟩ (by first | assumption | exact co_a hx | exact mo_a hm) dL_law_532 (s_X8_ofTown hm v1) ?_
  rintro v μ' ⟨rfl, J2, rfl, -⟩; rw [m1.1]
  refine px_icmp_eq (tgt := 982) dL_law_535 (by decide) (fun h535 => ?_) (fun h535 => (by first | exact absurd (rfl) h535 | exact absurd h535 (rfl)))
  exact hN I1 J2 _ c1 m1 hV
theorem lc_12 (hG : px_tabs G) (hx : px_co G T R x) (hm : px_mo G T R m) (hmx : m = x + 275) (hS : G.2.2.2.2.1[0]? = some (b, L, xs)) (h1 : vp_in (i + 1) L) (h2 : vp_in (i + 2) L) (h3 : vp_in (i + 3) L) (hC : px_CI I x A) (hM : px_MI I m A) (hV : px_AV A) (hN : ∀ (I2 : px_I) (J2 : px_J) (A2 : px_a), px_CI I2 x A2 → px_MI I2 m A2 → px_AV A2 → px_W l G (⟨RL, nm, ""⟩ : MethodName) cL_law 4 (some .boolean) room_1 Fn 982 [some (.ref b), some (.ref x), some (.ref m), some (.int i)] [] 282 3641 (T, I2, J2, R)) : px_W l G (⟨RL, nm, ""⟩ : MethodName) cL_law 4 (some .boolean) room_1 Fn 540 [some (.ref b), some (.ref x), some (.ref m), some (.int i)] [] 282 3641 (T, I, J, R) := by
  have v1 : px_V (I (m + 1)) := by { rw [hM.1]; exact hV.1.1 }
  refine px_aload_1 dL_law_540 ?_
  refine px_aload_0 dL_law_541 ?_
  refine px_iload_3 dL_law_542 ?_
  refine px_iconst (1) dL_law_543 rfl ?_
  refine px_iadd dL_law_544 ?_
  refine px_sld dL_law_545 hS h1 ?_
  refine px_aload_0 dL_law_546 ?_
  refine px_iload_3 dL_law_547 ?_
  refine px_iconst (2) dL_law_548 rfl ?_
  refine px_iadd dL_law_549 ?_
  refine px_sld dL_law_550 hS h2 ?_
  refine cg_L_64 rfl ⟨⟨Nat.le_of_ble_eq_true rfl, Nat.le_of_ble_eq_true rfl⟩, Nat.le_of_ble_eq_true rfl, Nat.le_of_ble_eq_true rfl, Nat.le_of_ble_eq_true rfl⟩ (by first | assumption | exact co_a hx | exact mo_a hm) dL_law_551 (s_X7_ofRoad hx hC.1 hV.1.1) ?_
  rintro v μ' ⟨rfl, rfl⟩
  refine px_aload_2 dL_law_554 ?_
  refine px_aload_0 dL_law_555 ?_
  refine px_iload_3 dL_law_556 ?_
  refine px_iconst (1) dL_law_557 rfl ?_
  refine px_iadd dL_law_558 ?_
  refine px_sld dL_law_559 hS h1 ?_
  refine px_aload_0 dL_law_560 ?_
  refine px_iload_3 dL_law_561 ?_
  refine px_iconst (2) dL_law_562 rfl ?_
  refine px_iadd dL_law_563 ?_
  refine px_sld dL_law_564 hS h2 ?_
  refine cg_L_67 rfl ⟨⟨Nat.le_of_ble_eq_true rfl, Nat.le_of_ble_eq_true rfl⟩, Nat.le_of_ble_eq_true rfl, Nat.le_of_ble_eq_true rfl, Nat.le_of_ble_eq_true rfl⟩ (by first | assumption | exact co_a hx | exact mo_a hm) dL_law_565 (s_X8_ofRoad hm v1) ?_
  rintro v μ' ⟨rfl, rfl⟩; rw [hM.1]
  refine px_icmp_eq (tgt := 982) dL_law_568 (by decide) (fun h568 => ?_) (fun h568 => (by first | exact absurd (rfl) h568 | exact absurd h568 (rfl)))
  exact hN I J _ hC hM hV
theorem lc_13 (hG : px_tabs G) (hx : px_co G T R x) (hm : px_mo G T R m) (hmx : m = x + 275) (hS : G.2.2.2.2.1[0]? = some (b, L, xs)) (h1 : vp_in (i + 1) L) (h2 : vp_in (i + 2) L) (h3 : vp_in (i + 3) L) (hC : px_CI I x A) (hM : px_MI I m A) (hV : px_AV A) (hN : ∀ (I2 : px_I) (J2 : px_J) (A2 : px_a), px_CI I2 x A2 → px_MI I2 m A2 → px_AV A2 → px_W l G (⟨RL, nm, ""⟩ : MethodName) cL_law 4 (some .boolean) room_1 Fn 982 [some (.ref b), some (.ref x), some (.ref m), some (.int i)] [] 282 3641 (T, I2, J2, R)) : px_W l G (⟨RL, nm, ""⟩ : MethodName) cL_law 4 (some .boolean) room_1 Fn 573 [some (.ref b), some (.ref x), some (.ref m), some (.int i)] [] 282 3641 (T, I, J, R) := by
  have v1 : px_V (I (m + 1)) := by { rw [hM.1]; exact hV.1.1 }
  refine px_aload_1 dL_law_573 ?_
  refine px_aload_0 dL_law_574 ?_
  refine px_iload_3 dL_law_575 ?_
  refine px_iconst (1) dL_law_576 rfl ?_
  refine px_iadd dL_law_577 ?_
  refine px_sld dL_law_578 hS h1 ?_
  refine px_aload_0 dL_law_579 ?_
  refine px_iload_3 dL_law_580 ?_
  refine px_iconst (2) dL_law_581 rfl ?_
  refine px_iadd dL_law_582 ?_
  refine px_sld dL_law_583 hS h2 ?_
  refine cg_L_68 rfl ⟨⟨Nat.le_of_ble_eq_true rfl, Nat.le_of_ble_eq_true rfl⟩, Nat.le_of_ble_eq_true rfl, Nat.le_of_ble_eq_true rfl, Nat.le_of_ble_eq_true rfl⟩ (by first | assumption | exact co_a hx | exact mo_a hm) dL_law_584 (s_X7_ofCart hx hC.1 hV.1.1) ?_
  rintro v μ' ⟨rfl, rfl⟩
  refine px_aload_2 dL_law_587 ?_
  refine px_aload_0 dL_law_588 ?_
  refine px_iload_3 dL_law_589 ?_
  refine px_iconst (1) dL_law_590 rfl ?_
  refine px_iadd dL_law_591 ?_
  refine px_sld dL_law_592 hS h1 ?_
  refine px_aload_0 dL_law_593 ?_
  refine px_iload_3 dL_law_594 ?_
  refine px_iconst (2) dL_law_595 rfl ?_
  refine px_iadd dL_law_596 ?_
  refine px_sld dL_law_597 hS h2 ?_
  refine cg_L_71 rfl ⟨⟨Nat.le_of_ble_eq_true rfl, Nat.le_of_ble_eq_true rfl⟩, Nat.le_of_ble_eq_true rfl, Nat.le_of_ble_eq_true rfl, Nat.le_of_ble_eq_true rfl⟩ (by first | assumption | exact co_a hx | exact mo_a hm) dL_law_598 (s_X8_ofCart hm v1) ?_
  rintro v μ' ⟨rfl, rfl⟩; rw [hM.1]
  refine px_icmp_eq (tgt := 982) dL_law_601 (by decide) (fun h601 => ?_) (fun h601 => (by first | exact absurd (rfl) h601 | exact absurd h601 (rfl)))
  exact hN I J _ hC hM hV
theorem lc_14 (hG : px_tabs G) (hx : px_co G T R x) (hm : px_mo G T R m) (hmx : m = x + 275) (hS : G.2.2.2.2.1[0]? = some (b, L, xs)) (h1 : vp_in (i + 1) L) (h2 : vp_in (i + 2) L) (h3 : vp_in (i + 3) L) (hC : px_CI I x A) (hM : px_MI I m A) (hV : px_AV A) (hN : ∀ (I2 : px_I) (J2 : px_J) (A2 : px_a), px_CI I2 x A2 → px_MI I2 m A2 → px_AV A2 → px_W l G (⟨RL, nm, ""⟩ : MethodName) cL_law 4 (some .boolean) room_1 Fn 982 [some (.ref b), some (.ref x), some (.ref m), some (.int i)] [] 282 3641 (T, I2, J2, R)) : px_W l G (⟨RL, nm, ""⟩ : MethodName) cL_law 4 (some .boolean) room_1 Fn 606 [some (.ref b), some (.ref x), some (.ref m), some (.int i)] [] 282 3641 (T, I, J, R) := by
  refine px_aload_1 dL_law_606 ?_
  refine px_aload_0 dL_law_607 ?_
  refine px_iload_3 dL_law_608 ?_
  refine px_iconst (1) dL_law_609 rfl ?_
  refine px_iadd dL_law_610 ?_
  refine px_sld dL_law_611 hS h1 ?_
  refine px_aload_0 dL_law_612 ?_
  refine px_iload_3 dL_law_613 ?_
  refine px_iconst (2) dL_law_614 rfl ?_
  refine px_iadd dL_law_615 ?_
  refine px_sld dL_law_616 hS h2 ?_
  refine px_aload_0 dL_law_617 ?_
  refine px_iload_3 dL_law_618 ?_
  refine px_iconst (3) dL_law_619 rfl ?_
  refine px_iadd dL_law_620 ?_
  refine px_sld dL_law_621 hS h3 ?_
  refine cg_L_72 rfl ⟨⟨Nat.le_of_ble_eq_true rfl, Nat.le_of_ble_eq_true rfl⟩, Nat.le_of_ble_eq_true rfl, Nat.le_of_ble_eq_true rfl, Nat.le_of_ble_eq_true rfl⟩ (by first | assumption | exact co_a hx | exact mo_a hm) dL_law_622 (s_X7_worth hx hG hC.1 hV.1.1 hC.2.2.2.2.2.1 hC.2.2.2.2.2.2) ?_
  rintro v μ' q1; obtain ⟨rfl, I1, J1, rfl, c1, g1, -⟩ := Qr2_Qx hC hV q1; have m1 := MI_out hM (fun a a1 a2 => g1 a (by omega)); have v1 : px_V (I1 (m + 1)) := by { rw [m1.1]; exact hV.1.1 }
  refine px_aload_2 dL_law_625 ?_
  refine px_aload_0 dL_law_626 ?_
  refine px_iload_3 dL_law_627 ?_
  refine px_iconst (1) dL_law_628 rfl ?_
  refine px_iadd dL_law_629 ?_
  refine px_sld dL_law_630 hS h1 ?_
  refine px_aload_0 dL_law_631 ?_
  refine px_iload_3 dL_law_632 ?_
  refine px_iconst (2) dL_law_633 rfl ?_
  refine px_iadd dL_law_634 ?_
  refine px_sld dL_law_635 hS h2 ?_
  refine px_aload_0 dL_law_636 ?_
  refine px_iload_3 dL_law_637 ?_
  refine px_iconst (3) dL_law_638 rfl ?_
  refine px_iadd dL_law_639 ?_
  refine px_sld dL_law_640 hS h3 ?_
  refine cg_L_76 rfl ⟨⟨Nat.le_of_ble_eq_true rfl, Nat.le_of_ble_eq_true rfl⟩, Nat.le_of_ble_eq_true rfl, Nat.le_of_ble_eq_true rfl, Nat.le_of_ble_eq_true rfl⟩ (by first | assumption | exact co_a hx | exact mo_a hm) dL_law_641 (s_X8_worth hm v1) ?_
  rintro v μ' ⟨rfl, J2, rfl, -⟩; rw [m1.1]
  refine px_lcmp dL_law_644 ?_
  refine px_lc_eq (tgt := 982) dL_law_645 (by decide) (fun h645 => ?_) (fun h645 => (by first | exact absurd (rfl) h645 | exact absurd h645 (rfl)))
  exact hN I1 J2 _ c1 m1 hV
theorem lc_15 (hG : px_tabs G) (hx : px_co G T R x) (hm : px_mo G T R m) (hmx : m = x + 275) (hS : G.2.2.2.2.1[0]? = some (b, L, xs)) (h1 : vp_in (i + 1) L) (h2 : vp_in (i + 2) L) (h3 : vp_in (i + 3) L) (hC : px_CI I x A) (hM : px_MI I m A) (hV : px_AV A) (hN : ∀ (I2 : px_I) (J2 : px_J) (A2 : px_a), px_CI I2 x A2 → px_MI I2 m A2 → px_AV A2 → px_W l G (⟨RL, nm, ""⟩ : MethodName) cL_law 4 (some .boolean) room_1 Fn 982 [some (.ref b), some (.ref x), some (.ref m), some (.int i)] [] 282 3641 (T, I2, J2, R)) : px_W l G (⟨RL, nm, ""⟩ : MethodName) cL_law 4 (some .boolean) room_1 Fn 650 [some (.ref b), some (.ref x), some (.ref m), some (.int i)] [] 282 3641 (T, I, J, R) := by
  refine px_aload_1 dL_law_650 ?_
  refine px_aload_0 dL_law_651 ?_
  refine px_iload_3 dL_law_652 ?_
  refine px_iconst (1) dL_law_653 rfl ?_
  refine px_iadd dL_law_654 ?_
  refine px_sld dL_law_655 hS h1 ?_
  refine cg_L_77 rfl ⟨⟨Nat.le_of_ble_eq_true rfl, Nat.le_of_ble_eq_true rfl⟩, Nat.le_of_ble_eq_true rfl, Nat.le_of_ble_eq_true rfl, Nat.le_of_ble_eq_true rfl⟩ (by first | assumption | exact co_a hx | exact mo_a hm) dL_law_656 (s_X7_sign hx hC) ?_
  rintro v μ' ⟨rfl, rfl⟩
  refine px_aload_2 dL_law_659 ?_
  refine px_aload_0 dL_law_660 ?_
  refine px_iload_3 dL_law_661 ?_
  refine px_iconst (1) dL_law_662 rfl ?_
  refine px_iadd dL_law_663 ?_
  refine px_sld dL_law_664 hS h1 ?_
  refine cg_L_81 rfl ⟨⟨Nat.le_of_ble_eq_true rfl, Nat.le_of_ble_eq_true rfl⟩, Nat.le_of_ble_eq_true rfl, Nat.le_of_ble_eq_true rfl, Nat.le_of_ble_eq_true rfl⟩ (by first | assumption | exact co_a hx | exact mo_a hm) dL_law_665 (s_X8_sign hm hM.2.2.2.2.1 hM.2.2.2.2.2.1 hM.2.2.2.2.2.2) ?_
  rintro v μ' ⟨rfl, rfl⟩
  refine px_icmp_eq (tgt := 982) dL_law_668 (by decide) (fun h668 => ?_) (fun h668 => (by first | exact absurd (rfl) h668 | exact absurd h668 (rfl)))
  exact hN I J _ hC hM hV
theorem lc_16 (hG : px_tabs G) (hx : px_co G T R x) (hm : px_mo G T R m) (hmx : m = x + 275) (hS : G.2.2.2.2.1[0]? = some (b, L, xs)) (h1 : vp_in (i + 1) L) (h2 : vp_in (i + 2) L) (h3 : vp_in (i + 3) L) (hC : px_CI I x A) (hM : px_MI I m A) (hV : px_AV A) (hN : ∀ (I2 : px_I) (J2 : px_J) (A2 : px_a), px_CI I2 x A2 → px_MI I2 m A2 → px_AV A2 → px_W l G (⟨RL, nm, ""⟩ : MethodName) cL_law 4 (some .boolean) room_1 Fn 982 [some (.ref b), some (.ref x), some (.ref m), some (.int i)] [] 282 3641 (T, I2, J2, R)) : px_W l G (⟨RL, nm, ""⟩ : MethodName) cL_law 4 (some .boolean) room_1 Fn 673 [some (.ref b), some (.ref x), some (.ref m), some (.int i)] [] 282 3641 (T, I, J, R) := by
  refine px_aload_1 dL_law_673 ?_
  refine px_aload_0 dL_law_674 ?_
  refine px_iload_3 dL_law_675 ?_
  refine px_iconst (1) dL_law_676 rfl ?_
  refine px_iadd dL_law_677 ?_
  refine px_sld dL_law_678 hS h1 ?_
  refine cg_L_82 rfl ⟨⟨Nat.le_of_ble_eq_true rfl, Nat.le_of_ble_eq_true rfl⟩, Nat.le_of_ble_eq_true rfl, Nat.le_of_ble_eq_true rfl, Nat.le_of_ble_eq_true rfl⟩ (by first | assumption | exact co_a hx | exact mo_a hm) dL_law_679 (s_X7_count hx hG hC hV) ?_
  rintro v μ' q1; obtain ⟨rfl, I1, J1, rfl, c1, g1, -⟩ := Qr2_Qx hC hV q1; have m1 := MI_out hM (fun a a1 a2 => g1 a (by omega)); have v1 : px_V (I1 (m + 1)) := by { rw [m1.1]; exact hV.1.1 }
  refine px_aload_2 dL_law_682 ?_
  refine px_aload_0 dL_law_683 ?_
  refine px_iload_3 dL_law_684 ?_
  refine px_iconst (1) dL_law_685 rfl ?_
  refine px_iadd dL_law_686 ?_
  refine px_sld dL_law_687 hS h1 ?_
  refine cg_L_85 rfl ⟨⟨Nat.le_of_ble_eq_true rfl, Nat.le_of_ble_eq_true rfl⟩, Nat.le_of_ble_eq_true rfl, Nat.le_of_ble_eq_true rfl, Nat.le_of_ble_eq_true rfl⟩ (by first | assumption | exact co_a hx | exact mo_a hm) dL_law_688 (s_X8_count hm m1 hV) ?_
  rintro v μ' ⟨rfl, J2, rfl, -⟩
  refine px_icmp_eq (tgt := 982) dL_law_691 (by decide) (fun h691 => ?_) (fun h691 => (by first | exact absurd (rfl) h691 | exact absurd h691 (rfl)))
  exact hN I1 J2 _ c1 m1 hV
theorem lc_17 (hG : px_tabs G) (hx : px_co G T R x) (hm : px_mo G T R m) (hmx : m = x + 275) (hS : G.2.2.2.2.1[0]? = some (b, L, xs)) (h1 : vp_in (i + 1) L) (h2 : vp_in (i + 2) L) (h3 : vp_in (i + 3) L) (hC : px_CI I x A) (hM : px_MI I m A) (hV : px_AV A) (hN : ∀ (I2 : px_I) (J2 : px_J) (A2 : px_a), px_CI I2 x A2 → px_MI I2 m A2 → px_AV A2 → px_W l G (⟨RL, nm, ""⟩ : MethodName) cL_law 4 (some .boolean) room_1 Fn 982 [some (.ref b), some (.ref x), some (.ref m), some (.int i)] [] 282 3641 (T, I2, J2, R)) : px_W l G (⟨RL, nm, ""⟩ : MethodName) cL_law 4 (some .boolean) room_1 Fn 696 [some (.ref b), some (.ref x), some (.ref m), some (.int i)] [] 282 3641 (T, I, J, R) := by
  refine px_aload_1 dL_law_696 ?_
  refine px_aload_0 dL_law_697 ?_
  refine px_iload_3 dL_law_698 ?_
  refine px_iconst (1) dL_law_699 rfl ?_
  refine px_iadd dL_law_700 ?_
  refine px_sld dL_law_701 hS h1 ?_
  refine px_aload_0 dL_law_702 ?_
  refine px_iload_3 dL_law_703 ?_
  refine px_iconst (2) dL_law_704 rfl ?_
  refine px_iadd dL_law_705 ?_
  refine px_sld dL_law_706 hS h2 ?_
  refine cg_L_86 rfl ⟨⟨Nat.le_of_ble_eq_true rfl, Nat.le_of_ble_eq_true rfl⟩, Nat.le_of_ble_eq_true rfl, Nat.le_of_ble_eq_true rfl, Nat.le_of_ble_eq_true rfl⟩ (by first | assumption | exact co_a hx | exact mo_a hm) dL_law_707 (s_X7_step hx hG hC.1 hV.1.1 hC.2.2.2.2.2.1) ?_
  rintro v μ' q1; obtain ⟨rfl, I1, J1, rfl, c1, g1, -⟩ := Qr2_Qx hC hV q1; have m1 := MI_out hM (fun a a1 a2 => g1 a (by omega)); have v1 : px_V (I1 (m + 1)) := by { rw [m1.1]; exact hV.1.1 }
  refine px_aload_2 dL_law_710 ?_
  refine px_aload_0 dL_law_711 ?_
  refine px_iload_3 dL_law_712 ?_
  refine px_iconst (1) dL_law_713 rfl ?_
  refine px_iadd dL_law_714 ?_
  refine px_sld dL_law_715 hS h1 ?_
  refine px_aload_0 dL_law_716 ?_
  refine px_iload_3 dL_law_717 ?_
  refine px_iconst (2) dL_law_718 rfl ?_
  refine px_iadd dL_law_719 ?_
  refine px_sld dL_law_720 hS h2 ?_
  refine cg_L_89 rfl ⟨⟨Nat.le_of_ble_eq_true rfl, Nat.le_of_ble_eq_true rfl⟩, Nat.le_of_ble_eq_true rfl, Nat.le_of_ble_eq_true rfl, Nat.le_of_ble_eq_true rfl⟩ (by first | assumption | exact co_a hx | exact mo_a hm) dL_law_721 (s_X8_step hm v1) ?_
  rintro v μ' ⟨rfl, J2, rfl, -⟩; rw [m1.1]
  refine px_icmp_eq (tgt := 982) dL_law_724 (by decide) (fun h724 => ?_) (fun h724 => (by first | exact absurd (rfl) h724 | exact absurd h724 (rfl)))
  exact hN I1 J2 _ c1 m1 hV
theorem lc_18 (hG : px_tabs G) (hx : px_co G T R x) (hm : px_mo G T R m) (hmx : m = x + 275) (hS : G.2.2.2.2.1[0]? = some (b, L, xs)) (h1 : vp_in (i + 1) L) (h2 : vp_in (i + 2) L) (h3 : vp_in (i + 3) L) (hC : px_CI I x A) (hM : px_MI I m A) (hV : px_AV A) (hN : ∀ (I2 : px_I) (J2 : px_J) (A2 : px_a), px_CI I2 x A2 → px_MI I2 m A2 → px_AV A2 → px_W l G (⟨RL, nm, ""⟩ : MethodName) cL_law 4 (some .boolean) room_1 Fn 982 [some (.ref b), some (.ref x), some (.ref m), some (.int i)] [] 282 3641 (T, I2, J2, R)) : px_W l G (⟨RL, nm, ""⟩ : MethodName) cL_law 4 (some .boolean) room_1 Fn 729 [some (.ref b), some (.ref x), some (.ref m), some (.int i)] [] 282 3641 (T, I, J, R) := by
  have v1 : px_V (I (m + 1)) := by { rw [hM.1]; exact hV.1.1 }
  refine px_aload_1 dL_law_729 ?_
  refine px_aload_0 dL_law_730 ?_
  refine px_iload_3 dL_law_731 ?_
  refine px_iconst (1) dL_law_732 rfl ?_
  refine px_iadd dL_law_733 ?_
  refine px_sld dL_law_734 hS h1 ?_
  refine cg_L_90 rfl ⟨⟨Nat.le_of_ble_eq_true rfl, Nat.le_of_ble_eq_true rfl⟩, Nat.le_of_ble_eq_true rfl, Nat.le_of_ble_eq_true rfl, Nat.le_of_ble_eq_true rfl⟩ (by first | assumption | exact co_a hx | exact mo_a hm) dL_law_735 (s_X7_fewestGuards hx hC.1 hV.1.1) ?_
  rintro v μ' ⟨rfl, rfl⟩
  refine px_aload_2 dL_law_738 ?_
  refine px_aload_0 dL_law_739 ?_
  refine px_iload_3 dL_law_740 ?_
  refine px_iconst (1) dL_law_741 rfl ?_
  refine px_iadd dL_law_742 ?_
  refine px_sld dL_law_743 hS h1 ?_
  refine cg_L_93 rfl ⟨⟨Nat.le_of_ble_eq_true rfl, Nat.le_of_ble_eq_true rfl⟩, Nat.le_of_ble_eq_true rfl, Nat.le_of_ble_eq_true rfl, Nat.le_of_ble_eq_true rfl⟩ (by first | assumption | exact co_a hx | exact mo_a hm) dL_law_744 (s_X8_fewestGuards hm v1) ?_
  rintro v μ' ⟨rfl, rfl⟩; rw [hM.1]
  refine px_icmp_eq (tgt := 982) dL_law_747 (by decide) (fun h747 => ?_) (fun h747 => (by first | exact absurd (rfl) h747 | exact absurd h747 (rfl)))
  exact hN I J _ hC hM hV
theorem lc_19 (hG : px_tabs G) (hx : px_co G T R x) (hm : px_mo G T R m) (hmx : m = x + 275) (hS : G.2.2.2.2.1[0]? = some (b, L, xs)) (h1 : vp_in (i + 1) L) (h2 : vp_in (i + 2) L) (h3 : vp_in (i + 3) L) (hC : px_CI I x A) (hM : px_MI I m A) (hV : px_AV A) (hN : ∀ (I2 : px_I) (J2 : px_J) (A2 : px_a), px_CI I2 x A2 → px_MI I2 m A2 → px_AV A2 → px_W l G (⟨RL, nm, ""⟩ : MethodName) cL_law 4 (some .boolean) room_1 Fn 982 [some (.ref b), some (.ref x), some (.ref m), some (.int i)] [] 282 3641 (T, I2, J2, R)) : px_W l G (⟨RL, nm, ""⟩ : MethodName) cL_law 4 (some .boolean) room_1 Fn 752 [some (.ref b), some (.ref x), some (.ref m), some (.int i)] [] 282 3641 (T, I, J, R) := by
  have v1 : px_V (I (m + 1)) := by { rw [hM.1]; exact hV.1.1 }
  refine px_aload_1 dL_law_752 ?_
  refine px_aload_0 dL_law_753 ?_
  refine px_iload_3 dL_law_754 ?_
  refine px_iconst (1) dL_law_755 rfl ?_
  refine px_iadd dL_law_756 ?_
  refine px_sld dL_law_757 hS h1 ?_
  refine cg_L_94 rfl ⟨⟨Nat.le_of_ble_eq_true rfl, Nat.le_of_ble_eq_true rfl⟩, Nat.le_of_ble_eq_true rfl, Nat.le_of_ble_eq_true rfl, Nat.le_of_ble_eq_true rfl⟩ (by first | assumption | exact co_a hx | exact mo_a hm) dL_law_758 (s_X7_mostPrice hx hC.1 hV.1.1) ?_
  rintro v μ' ⟨rfl, rfl⟩
  refine px_aload_2 dL_law_761 ?_
  refine px_aload_0 dL_law_762 ?_
  refine px_iload_3 dL_law_763 ?_
  refine px_iconst (1) dL_law_764 rfl ?_
  refine px_iadd dL_law_765 ?_
  refine px_sld dL_law_766 hS h1 ?_
  refine cg_L_97 rfl ⟨⟨Nat.le_of_ble_eq_true rfl, Nat.le_of_ble_eq_true rfl⟩, Nat.le_of_ble_eq_true rfl, Nat.le_of_ble_eq_true rfl, Nat.le_of_ble_eq_true rfl⟩ (by first | assumption | exact co_a hx | exact mo_a hm) dL_law_767 (s_X8_mostPrice hm v1) ?_
  rintro v μ' ⟨rfl, rfl⟩; rw [hM.1]
  refine px_icmp_eq (tgt := 982) dL_law_770 (by decide) (fun h770 => ?_) (fun h770 => (by first | exact absurd (rfl) h770 | exact absurd h770 (rfl)))
  exact hN I J _ hC hM hV
theorem lc_20 (hG : px_tabs G) (hx : px_co G T R x) (hm : px_mo G T R m) (hmx : m = x + 275) (hS : G.2.2.2.2.1[0]? = some (b, L, xs)) (h1 : vp_in (i + 1) L) (h2 : vp_in (i + 2) L) (h3 : vp_in (i + 3) L) (hC : px_CI I x A) (hM : px_MI I m A) (hV : px_AV A) (hN : ∀ (I2 : px_I) (J2 : px_J) (A2 : px_a), px_CI I2 x A2 → px_MI I2 m A2 → px_AV A2 → px_W l G (⟨RL, nm, ""⟩ : MethodName) cL_law 4 (some .boolean) room_1 Fn 982 [some (.ref b), some (.ref x), some (.ref m), some (.int i)] [] 282 3641 (T, I2, J2, R)) : px_W l G (⟨RL, nm, ""⟩ : MethodName) cL_law 4 (some .boolean) room_1 Fn 775 [some (.ref b), some (.ref x), some (.ref m), some (.int i)] [] 282 3641 (T, I, J, R) := by
  refine px_aload_1 dL_law_775 ?_
  refine cg_L_98 rfl ⟨⟨Nat.le_of_ble_eq_true rfl, Nat.le_of_ble_eq_true rfl⟩, Nat.le_of_ble_eq_true rfl, Nat.le_of_ble_eq_true rfl, Nat.le_of_ble_eq_true rfl⟩ (by first | assumption | exact co_a hx | exact mo_a hm) dL_law_776 (s_X7_ifHonest hx hC hV) ?_
  rintro v μ' ⟨rfl, I1, J1, rfl, c1, g1, -⟩; have m1 := MI_out hM (fun a a1 a2 => g1 a (by omega))
  refine px_aload_2 dL_law_779 ?_
  refine cg_L_101 rfl ⟨⟨Nat.le_of_ble_eq_true rfl, Nat.le_of_ble_eq_true rfl⟩, Nat.le_of_ble_eq_true rfl, Nat.le_of_ble_eq_true rfl, Nat.le_of_ble_eq_true rfl⟩ (by first | assumption | exact co_a hx | exact mo_a hm) dL_law_780 (s_X8_ifHonest hm m1 hV) ?_
  rintro v μ' ⟨rfl, I2, J2, rfl, m2, g2, -⟩
  refine px_icmp_eq (tgt := 982) dL_law_783 (by decide) (fun h783 => ?_) (fun h783 => (by first | exact absurd (rfl) h783 | exact absurd h783 (rfl)))
  exact hN I2 J2 _ (CI_out c1 hV (fun a a1 a2 => g2 a (by omega))) m2 hV
theorem lc_21 (hG : px_tabs G) (hx : px_co G T R x) (hm : px_mo G T R m) (hmx : m = x + 275) (hS : G.2.2.2.2.1[0]? = some (b, L, xs)) (h1 : vp_in (i + 1) L) (h2 : vp_in (i + 2) L) (h3 : vp_in (i + 3) L) (hC : px_CI I x A) (hM : px_MI I m A) (hV : px_AV A) (hN : ∀ (I2 : px_I) (J2 : px_J) (A2 : px_a), px_CI I2 x A2 → px_MI I2 m A2 → px_AV A2 → px_W l G (⟨RL, nm, ""⟩ : MethodName) cL_law 4 (some .boolean) room_1 Fn 982 [some (.ref b), some (.ref x), some (.ref m), some (.int i)] [] 282 3641 (T, I2, J2, R)) : px_W l G (⟨RL, nm, ""⟩ : MethodName) cL_law 4 (some .boolean) room_1 Fn 788 [some (.ref b), some (.ref x), some (.ref m), some (.int i)] [] 282 3641 (T, I, J, R) := by
  have v1 : px_V (I (m + 1)) := by { rw [hM.1]; exact hV.1.1 }
  refine px_aload_1 dL_law_788 ?_
  refine px_aload_0 dL_law_789 ?_
  refine px_iload_3 dL_law_790 ?_
  refine px_iconst (1) dL_law_791 rfl ?_
  refine px_iadd dL_law_792 ?_
  refine px_sld dL_law_793 hS h1 ?_
  refine px_aload_0 dL_law_794 ?_
  refine px_iload_3 dL_law_795 ?_
  refine px_iconst (2) dL_law_796 rfl ?_
  refine px_iadd dL_law_797 ?_
  refine px_sld dL_law_798 hS h2 ?_
  refine px_aload_0 dL_law_799 ?_
  refine px_iload_3 dL_law_800 ?_
  refine px_iconst (3) dL_law_801 rfl ?_
  refine px_iadd dL_law_802 ?_
  refine px_sld dL_law_803 hS h3 ?_
  refine cg_L_102 rfl ⟨⟨Nat.le_of_ble_eq_true rfl, Nat.le_of_ble_eq_true rfl⟩, Nat.le_of_ble_eq_true rfl, Nat.le_of_ble_eq_true rfl, Nat.le_of_ble_eq_true rfl⟩ (by first | assumption | exact co_a hx | exact mo_a hm) dL_law_804 (s_X7_wouldHave hx hC.1 hV.1.1) ?_
  rintro v μ' ⟨rfl, rfl⟩
  refine px_aload_2 dL_law_807 ?_
  refine px_aload_0 dL_law_808 ?_
  refine px_iload_3 dL_law_809 ?_
  refine px_iconst (1) dL_law_810 rfl ?_
  refine px_iadd dL_law_811 ?_
  refine px_sld dL_law_812 hS h1 ?_
  refine px_aload_0 dL_law_813 ?_
  refine px_iload_3 dL_law_814 ?_
  refine px_iconst (2) dL_law_815 rfl ?_
  refine px_iadd dL_law_816 ?_
  refine px_sld dL_law_817 hS h2 ?_
  refine px_aload_0 dL_law_818 ?_
  refine px_iload_3 dL_law_819 ?_
  refine px_iconst (3) dL_law_820 rfl ?_
  refine px_iadd dL_law_821 ?_
  refine px_sld dL_law_822 hS h3 ?_
  refine cg_L_105 rfl ⟨⟨Nat.le_of_ble_eq_true rfl, Nat.le_of_ble_eq_true rfl⟩, Nat.le_of_ble_eq_true rfl, Nat.le_of_ble_eq_true rfl, Nat.le_of_ble_eq_true rfl⟩ (by first | assumption | exact co_a hx | exact mo_a hm) dL_law_823 (s_X8_wouldHave hm v1) ?_
  rintro v μ' ⟨rfl, rfl⟩; rw [hM.1]
  refine px_icmp_eq (tgt := 982) dL_law_826 (by decide) (fun h826 => ?_) (fun h826 => (by first | exact absurd (rfl) h826 | exact absurd h826 (rfl)))
  exact hN I J _ hC hM hV
theorem lc_22 (hG : px_tabs G) (hx : px_co G T R x) (hm : px_mo G T R m) (hmx : m = x + 275) (hS : G.2.2.2.2.1[0]? = some (b, L, xs)) (h1 : vp_in (i + 1) L) (h2 : vp_in (i + 2) L) (h3 : vp_in (i + 3) L) (hC : px_CI I x A) (hM : px_MI I m A) (hV : px_AV A) (hN : ∀ (I2 : px_I) (J2 : px_J) (A2 : px_a), px_CI I2 x A2 → px_MI I2 m A2 → px_AV A2 → px_W l G (⟨RL, nm, ""⟩ : MethodName) cL_law 4 (some .boolean) room_1 Fn 982 [some (.ref b), some (.ref x), some (.ref m), some (.int i)] [] 282 3641 (T, I2, J2, R)) : px_W l G (⟨RL, nm, ""⟩ : MethodName) cL_law 4 (some .boolean) room_1 Fn 831 [some (.ref b), some (.ref x), some (.ref m), some (.int i)] [] 282 3641 (T, I, J, R) := by
  refine px_aload_1 dL_law_831 ?_
  refine px_aload_0 dL_law_832 ?_
  refine px_iload_3 dL_law_833 ?_
  refine px_iconst (1) dL_law_834 rfl ?_
  refine px_iadd dL_law_835 ?_
  refine px_sld dL_law_836 hS h1 ?_
  refine px_i2l dL_law_837 ?_
  refine px_bipush (32) dL_law_838 rfl ?_
  refine px_lshl dL_law_840 ?_
  refine px_aload_0 dL_law_841 ?_
  refine px_iload_3 dL_law_842 ?_
  refine px_iconst (2) dL_law_843 rfl ?_
  refine px_iadd dL_law_844 ?_
  refine px_sld dL_law_845 hS h2 ?_
  refine px_i2l dL_law_846 ?_
  refine px_ldc2 ck_L_106 dL_law_847 ?_
  refine px_land dL_law_850 ?_
  refine px_lor dL_law_851 ?_
  refine cg_L_108 rfl ⟨⟨Nat.le_of_ble_eq_true rfl, Nat.le_of_ble_eq_true rfl⟩, Nat.le_of_ble_eq_true rfl, Nat.le_of_ble_eq_true rfl, Nat.le_of_ble_eq_true rfl⟩ (by first | assumption | exact co_a hx | exact mo_a hm) dL_law_852 (s_X7_put hx hC hV) ?_
  rintro v μ' ⟨rfl, I1, J1, rfl, c1, g1, -⟩; have m1 := MI_out hM (fun a a1 a2 => g1 a (by omega))
  refine px_aload_2 dL_law_855 ?_
  refine px_aload_0 dL_law_856 ?_
  refine px_iload_3 dL_law_857 ?_
  refine px_iconst (1) dL_law_858 rfl ?_
  refine px_iadd dL_law_859 ?_
  refine px_sld dL_law_860 hS h1 ?_
  refine px_i2l dL_law_861 ?_
  refine px_bipush (32) dL_law_862 rfl ?_
  refine px_lshl dL_law_864 ?_
  refine px_aload_0 dL_law_865 ?_
  refine px_iload_3 dL_law_866 ?_
  refine px_iconst (2) dL_law_867 rfl ?_
  refine px_iadd dL_law_868 ?_
  refine px_sld dL_law_869 hS h2 ?_
  refine px_i2l dL_law_870 ?_
  refine px_ldc2 ck_L_106 dL_law_871 ?_
  refine px_land dL_law_874 ?_
  refine px_lor dL_law_875 ?_
  refine cg_L_112 rfl ⟨⟨Nat.le_of_ble_eq_true rfl, Nat.le_of_ble_eq_true rfl⟩, Nat.le_of_ble_eq_true rfl, Nat.le_of_ble_eq_true rfl, Nat.le_of_ble_eq_true rfl⟩ (by first | assumption | exact co_a hx | exact mo_a hm) dL_law_876 (s_X8_put hm m1) ?_
  rintro v μ' ⟨rfl, I2, J2, rfl, m2, g2, -⟩
  refine px_icmp_eq (tgt := 982) dL_law_879 (by decide) (fun h879 => ?_) (fun h879 => (by first | exact absurd (rfl) h879 | exact absurd h879 (rfl)))
  exact hN I2 J2 _ (CI_out c1 ⟨hV.1, hV.2.1, hV.2.2⟩ (fun a a1 a2 => g2 a (by omega))) m2 ⟨hV.1, hV.2.1, hV.2.2⟩
theorem lc_23 (hG : px_tabs G) (hx : px_co G T R x) (hm : px_mo G T R m) (hmx : m = x + 275) (hS : G.2.2.2.2.1[0]? = some (b, L, xs)) (h1 : vp_in (i + 1) L) (h2 : vp_in (i + 2) L) (h3 : vp_in (i + 3) L) (hC : px_CI I x A) (hM : px_MI I m A) (hV : px_AV A) (hN : ∀ (I2 : px_I) (J2 : px_J) (A2 : px_a), px_CI I2 x A2 → px_MI I2 m A2 → px_AV A2 → px_W l G (⟨RL, nm, ""⟩ : MethodName) cL_law 4 (some .boolean) room_1 Fn 982 [some (.ref b), some (.ref x), some (.ref m), some (.int i)] [] 282 3641 (T, I2, J2, R)) : px_W l G (⟨RL, nm, ""⟩ : MethodName) cL_law 4 (some .boolean) room_1 Fn 884 [some (.ref b), some (.ref x), some (.ref m), some (.int i)] [] 282 3641 (T, I, J, R) := by
  refine px_aload_1 dL_law_884 ?_
  refine cg_L_113 rfl ⟨⟨Nat.le_of_ble_eq_true rfl, Nat.le_of_ble_eq_true rfl⟩, Nat.le_of_ble_eq_true rfl, Nat.le_of_ble_eq_true rfl, Nat.le_of_ble_eq_true rfl⟩ (by first | assumption | exact co_a hx | exact mo_a hm) dL_law_885 (s_X7_wipe hx hC hV) ?_
  rintro v μ' ⟨rfl, I1, J1, rfl, c1, g1, -⟩; have m1 := MI_out hM (fun a a1 a2 => g1 a (by omega))
  refine px_aload_2 dL_law_888 ?_
  refine cg_L_116 rfl ⟨⟨Nat.le_of_ble_eq_true rfl, Nat.le_of_ble_eq_true rfl⟩, Nat.le_of_ble_eq_true rfl, Nat.le_of_ble_eq_true rfl, Nat.le_of_ble_eq_true rfl⟩ (by first | assumption | exact co_a hx | exact mo_a hm) dL_law_889 (s_X8_wipe hm) ?_
  rintro v μ' ⟨rfl, rfl⟩; rw [m1.2.2.2.2.1]; have m2 : px_MI (px_up I1 m 7 0) m (A.1, A.2.1, A.2.2.1, (0, A.2.2.2.2)) := by { obtain ⟨y1, ⟨y2, y3, y4⟩, y5, y6, y7, y8, y9⟩ := m1; exact ⟨by rw [px_up_ne (by omega)]; exact y1, ⟨by rw [px_up_nj (by decide)]; exact y2, y3, by rw [px_up_ne (by omega)]; exact y4⟩, by rw [px_up_nj (by decide)]; exact y5, by rw [px_up_ne (by omega)]; exact y6, px_up_self _ _ _ _, Nat.zero_le _, fun i hi => absurd hi (Nat.not_lt_zero i)⟩ }
  refine px_icmp_eq (tgt := 982) dL_law_892 (by decide) (fun h892 => ?_) (fun h892 => (by first | exact absurd (rfl) h892 | exact absurd h892 (rfl)))
  exact hN _ J1 _ (CI_out c1 ⟨hV.1, hV.2.1, hV.2.2⟩ (fun a a1 a2 => px_up_ne (by omega))) m2 ⟨hV.1, hV.2.1, hV.2.2⟩
theorem lc_24 (hG : px_tabs G) (hx : px_co G T R x) (hm : px_mo G T R m) (hmx : m = x + 275) (hS : G.2.2.2.2.1[0]? = some (b, L, xs)) (h1 : vp_in (i + 1) L) (h2 : vp_in (i + 2) L) (h3 : vp_in (i + 3) L) (hC : px_CI I x A) (hM : px_MI I m A) (hV : px_AV A) (hN : ∀ (I2 : px_I) (J2 : px_J) (A2 : px_a), px_CI I2 x A2 → px_MI I2 m A2 → px_AV A2 → px_W l G (⟨RL, nm, ""⟩ : MethodName) cL_law 4 (some .boolean) room_1 Fn 982 [some (.ref b), some (.ref x), some (.ref m), some (.int i)] [] 282 3641 (T, I2, J2, R)) : px_W l G (⟨RL, nm, ""⟩ : MethodName) cL_law 4 (some .boolean) room_1 Fn 897 [some (.ref b), some (.ref x), some (.ref m), some (.int i)] [] 282 3641 (T, I, J, R) := by
  refine px_aload_1 dL_law_897 ?_
  refine cg_L_117 rfl ⟨⟨Nat.le_of_ble_eq_true rfl, Nat.le_of_ble_eq_true rfl⟩, Nat.le_of_ble_eq_true rfl, Nat.le_of_ble_eq_true rfl, Nat.le_of_ble_eq_true rfl⟩ (by first | assumption | exact co_a hx | exact mo_a hm) dL_law_898 (s_X7_fault hx hC hV) ?_
  rintro v μ' ⟨rfl, I1, J1, rfl, c1, g1, -⟩; have m1 := MI_out hM (fun a a1 a2 => g1 a (by omega))
  refine px_aload_2 dL_law_901 ?_
  refine cg_L_120 rfl ⟨⟨Nat.le_of_ble_eq_true rfl, Nat.le_of_ble_eq_true rfl⟩, Nat.le_of_ble_eq_true rfl, Nat.le_of_ble_eq_true rfl, Nat.le_of_ble_eq_true rfl⟩ (by first | assumption | exact co_a hx | exact mo_a hm) dL_law_902 (s_X8_fault hm (MI_bp m1)) ?_
  rintro v μ' ⟨rfl, I2, rfl, g2, g3⟩; have m2 := MI_kept m1 g2 g3
  refine px_icmp_eq (tgt := 982) dL_law_905 (by decide) (fun h905 => ?_) (fun h905 => (by first | exact absurd (rfl) h905 | exact absurd h905 (rfl)))
  exact hN I2 J1 _ (CI_out c1 hV (fun a a1 a2 => g2 a (by omega))) m2 hV
theorem lc_25 (hG : px_tabs G) (hx : px_co G T R x) (hm : px_mo G T R m) (hmx : m = x + 275) (hS : G.2.2.2.2.1[0]? = some (b, L, xs)) (h1 : vp_in (i + 1) L) (h2 : vp_in (i + 2) L) (h3 : vp_in (i + 3) L) (hC : px_CI I x A) (hM : px_MI I m A) (hV : px_AV A) (hN : ∀ (I2 : px_I) (J2 : px_J) (A2 : px_a), px_CI I2 x A2 → px_MI I2 m A2 → px_AV A2 → px_W l G (⟨RL, nm, ""⟩ : MethodName) cL_law 4 (some .boolean) room_1 Fn 982 [some (.ref b), some (.ref x), some (.ref m), some (.int i)] [] 282 3641 (T, I2, J2, R)) : px_W l G (⟨RL, nm, ""⟩ : MethodName) cL_law 4 (some .boolean) room_1 Fn 910 [some (.ref b), some (.ref x), some (.ref m), some (.int i)] [] 282 3641 (T, I, J, R) := by
  refine px_aload_1 dL_law_910 ?_
  refine cg_L_121 rfl ⟨⟨Nat.le_of_ble_eq_true rfl, Nat.le_of_ble_eq_true rfl⟩, Nat.le_of_ble_eq_true rfl, Nat.le_of_ble_eq_true rfl, Nat.le_of_ble_eq_true rfl⟩ (by first | assumption | exact co_a hx | exact mo_a hm) dL_law_911 (s_X7_carryOut hx hC hV) ?_
  rintro v μ' ⟨rfl, I1, J1, rfl, c1, g1, -⟩; have m1 := MI_out hM (fun a a1 a2 => g1 a (by omega))
  refine px_aload_2 dL_law_914 ?_
  refine cg_L_124 rfl ⟨⟨Nat.le_of_ble_eq_true rfl, Nat.le_of_ble_eq_true rfl⟩, Nat.le_of_ble_eq_true rfl, Nat.le_of_ble_eq_true rfl, Nat.le_of_ble_eq_true rfl⟩ (by first | assumption | exact co_a hx | exact mo_a hm) dL_law_915 (s_X8_carryOut hm m1 hV) ?_
  rintro v μ' ⟨rfl, I2, J2, rfl, m2, g2, -⟩
  refine px_icmp_eq (tgt := 982) dL_law_918 (by decide) (fun h918 => ?_) (fun h918 => (by first | exact absurd (rfl) h918 | exact absurd h918 (rfl)))
  exact hN I2 J2 _ (CI_out c1 (AV_co hV) (fun a a1 a2 => g2 a (by omega))) m2 (AV_co hV)
theorem lc_26 (hG : px_tabs G) (hx : px_co G T R x) (hm : px_mo G T R m) (hmx : m = x + 275) (hS : G.2.2.2.2.1[0]? = some (b, L, xs)) (h1 : vp_in (i + 1) L) (h2 : vp_in (i + 2) L) (h3 : vp_in (i + 3) L) (hC : px_CI I x A) (hM : px_MI I m A) (hV : px_AV A) (hN : ∀ (I2 : px_I) (J2 : px_J) (A2 : px_a), px_CI I2 x A2 → px_MI I2 m A2 → px_AV A2 → px_W l G (⟨RL, nm, ""⟩ : MethodName) cL_law 4 (some .boolean) room_1 Fn 982 [some (.ref b), some (.ref x), some (.ref m), some (.int i)] [] 282 3641 (T, I2, J2, R)) : px_W l G (⟨RL, nm, ""⟩ : MethodName) cL_law 4 (some .boolean) room_1 Fn 923 [some (.ref b), some (.ref x), some (.ref m), some (.int i)] [] 282 3641 (T, I, J, R) := by
  have q1 := s_X7_undo (l := l) (J := J) hx hC hV
  have q2 : ∀ {I1 : px_I} {J1 : px_J}, px_MI I1 m A → _ := fun {I1 J1} h => s_X8_undo (l := l) (I := I1) (J := J1) hm h
  by_cases z : A.2.1.1 = 0
  · simp only [if_pos z] at q1 q2
    refine px_aload_1 dL_law_923 ?_
    refine cg_L_125 rfl ⟨⟨Nat.le_of_ble_eq_true rfl, Nat.le_of_ble_eq_true rfl⟩, Nat.le_of_ble_eq_true rfl, Nat.le_of_ble_eq_true rfl, Nat.le_of_ble_eq_true rfl⟩ (by first | assumption | exact co_a hx | exact mo_a hm) dL_law_924 (q1) ?_
    rintro v μ' ⟨rfl, I1, J1, rfl, c1, g1, -⟩; have m1 := MI_out hM (fun a a1 a2 => g1 a (by omega))
    refine px_aload_2 dL_law_927 ?_
    refine cg_L_128 rfl ⟨⟨Nat.le_of_ble_eq_true rfl, Nat.le_of_ble_eq_true rfl⟩, Nat.le_of_ble_eq_true rfl, Nat.le_of_ble_eq_true rfl, Nat.le_of_ble_eq_true rfl⟩ (by first | assumption | exact co_a hx | exact mo_a hm) dL_law_928 (q2 m1) ?_
    rintro v μ' ⟨rfl, I2, J2, rfl, m2, g2, -⟩
    refine px_icmp_eq (tgt := 982) dL_law_931 (by decide) (fun h931 => ?_) (fun h931 => (by first | exact absurd (rfl) h931 | exact absurd h931 (rfl)))
    exact hN I2 J2 _ (CI_out c1 hV (fun a a1 a2 => g2 a (by omega))) m2 hV
  · simp only [if_neg z] at q1 q2
    refine px_aload_1 dL_law_923 ?_
    refine cg_L_125 rfl ⟨⟨Nat.le_of_ble_eq_true rfl, Nat.le_of_ble_eq_true rfl⟩, Nat.le_of_ble_eq_true rfl, Nat.le_of_ble_eq_true rfl, Nat.le_of_ble_eq_true rfl⟩ (by first | assumption | exact co_a hx | exact mo_a hm) dL_law_924 (q1) ?_
    rintro v μ' ⟨rfl, I1, J1, rfl, c1, g1, -⟩; have m1 := MI_out hM (fun a a1 a2 => g1 a (by omega))
    refine px_aload_2 dL_law_927 ?_
    refine cg_L_128 rfl ⟨⟨Nat.le_of_ble_eq_true rfl, Nat.le_of_ble_eq_true rfl⟩, Nat.le_of_ble_eq_true rfl, Nat.le_of_ble_eq_true rfl, Nat.le_of_ble_eq_true rfl⟩ (by first | assumption | exact co_a hx | exact mo_a hm) dL_law_928 (q2 m1) ?_
    rintro v μ' ⟨rfl, I2, J2, rfl, m2, g2, -⟩
    refine px_icmp_eq (tgt := 982) dL_law_931 (by decide) (fun h931 => ?_) (fun h931 => (by first | exact absurd (rfl) h931 | exact absurd h931 (rfl)))
    exact hN I2 J2 _ (CI_out c1 (AV_undo hV z) (fun a a1 a2 => g2 a (by omega))) m2 (AV_undo hV z)
theorem lc_27 (hG : px_tabs G) (hx : px_co G T R x) (hm : px_mo G T R m) (hmx : m = x + 275) (hS : G.2.2.2.2.1[0]? = some (b, L, xs)) (h1 : vp_in (i + 1) L) (h2 : vp_in (i + 2) L) (h3 : vp_in (i + 3) L) (hC : px_CI I x A) (hM : px_MI I m A) (hV : px_AV A) (hN : ∀ (I2 : px_I) (J2 : px_J) (A2 : px_a), px_CI I2 x A2 → px_MI I2 m A2 → px_AV A2 → px_W l G (⟨RL, nm, ""⟩ : MethodName) cL_law 4 (some .boolean) room_1 Fn 982 [some (.ref b), some (.ref x), some (.ref m), some (.int i)] [] 282 3641 (T, I2, J2, R)) : px_W l G (⟨RL, nm, ""⟩ : MethodName) cL_law 4 (some .boolean) room_1 Fn 936 [some (.ref b), some (.ref x), some (.ref m), some (.int i)] [] 282 3641 (T, I, J, R) := by
  have q1 := s_X7_save (l := l) (J := J) (a := xs (i + 1).toNatClampNeg) hx hC hV
  have q2 : ∀ {I1 : px_I} {J1 : px_J}, px_MI I1 m A → _ := fun {I1 J1} h => s_X8_save (l := l) (I := I1) (J := J1) (a := xs (i + 1).toNatClampNeg) hm h
  by_cases z : rg (xs (i + 1).toNatClampNeg) 0 1
  · simp only [if_pos z] at q1 q2
    refine px_aload_1 dL_law_936 ?_
    refine px_aload_0 dL_law_937 ?_
    refine px_iload_3 dL_law_938 ?_
    refine px_iconst (1) dL_law_939 rfl ?_
    refine px_iadd dL_law_940 ?_
    refine px_sld dL_law_941 hS h1 ?_
    refine cg_L_129 rfl ⟨⟨Nat.le_of_ble_eq_true rfl, Nat.le_of_ble_eq_true rfl⟩, Nat.le_of_ble_eq_true rfl, Nat.le_of_ble_eq_true rfl, Nat.le_of_ble_eq_true rfl⟩ (by first | assumption | exact co_a hx | exact mo_a hm) dL_law_942 (q1) ?_
    rintro v μ' ⟨rfl, I1, J1, rfl, c1, g1, -⟩; have m1 := MI_out hM (fun a a1 a2 => g1 a (by omega))
    refine px_aload_2 dL_law_945 ?_
    refine px_aload_0 dL_law_946 ?_
    refine px_iload_3 dL_law_947 ?_
    refine px_iconst (1) dL_law_948 rfl ?_
    refine px_iadd dL_law_949 ?_
    refine px_sld dL_law_950 hS h1 ?_
    refine cg_L_132 rfl ⟨⟨Nat.le_of_ble_eq_true rfl, Nat.le_of_ble_eq_true rfl⟩, Nat.le_of_ble_eq_true rfl, Nat.le_of_ble_eq_true rfl, Nat.le_of_ble_eq_true rfl⟩ (by first | assumption | exact co_a hx | exact mo_a hm) dL_law_951 (q2 m1) ?_
    rintro v μ' ⟨rfl, I2, J2, rfl, m2, g2, -⟩
    refine px_icmp_eq (tgt := 982) dL_law_954 (by decide) (fun h954 => ?_) (fun h954 => (by first | exact absurd (rfl) h954 | exact absurd h954 (rfl)))
    exact hN I2 J2 _ (CI_out c1 (AV_save hV) (fun a a1 a2 => g2 a (by omega))) m2 (AV_save hV)
  · simp only [if_neg z] at q1 q2
    refine px_aload_1 dL_law_936 ?_
    refine px_aload_0 dL_law_937 ?_
    refine px_iload_3 dL_law_938 ?_
    refine px_iconst (1) dL_law_939 rfl ?_
    refine px_iadd dL_law_940 ?_
    refine px_sld dL_law_941 hS h1 ?_
    refine cg_L_129 rfl ⟨⟨Nat.le_of_ble_eq_true rfl, Nat.le_of_ble_eq_true rfl⟩, Nat.le_of_ble_eq_true rfl, Nat.le_of_ble_eq_true rfl, Nat.le_of_ble_eq_true rfl⟩ (by first | assumption | exact co_a hx | exact mo_a hm) dL_law_942 (q1) ?_
    rintro v μ' ⟨rfl, I1, J1, rfl, c1, g1, -⟩; have m1 := MI_out hM (fun a a1 a2 => g1 a (by omega))
    refine px_aload_2 dL_law_945 ?_
    refine px_aload_0 dL_law_946 ?_
    refine px_iload_3 dL_law_947 ?_
    refine px_iconst (1) dL_law_948 rfl ?_
    refine px_iadd dL_law_949 ?_
    refine px_sld dL_law_950 hS h1 ?_
    refine cg_L_132 rfl ⟨⟨Nat.le_of_ble_eq_true rfl, Nat.le_of_ble_eq_true rfl⟩, Nat.le_of_ble_eq_true rfl, Nat.le_of_ble_eq_true rfl, Nat.le_of_ble_eq_true rfl⟩ (by first | assumption | exact co_a hx | exact mo_a hm) dL_law_951 (q2 m1) ?_
    rintro v μ' ⟨rfl, I2, J2, rfl, m2, g2, -⟩
    refine px_icmp_eq (tgt := 982) dL_law_954 (by decide) (fun h954 => ?_) (fun h954 => (by first | exact absurd (rfl) h954 | exact absurd h954 (rfl)))
    exact hN I2 J2 _ (CI_out c1 hV (fun a a1 a2 => g2 a (by omega))) m2 hV
theorem lc_28 (hG : px_tabs G) (hx : px_co G T R x) (hm : px_mo G T R m) (hmx : m = x + 275) (hS : G.2.2.2.2.1[0]? = some (b, L, xs)) (h1 : vp_in (i + 1) L) (h2 : vp_in (i + 2) L) (h3 : vp_in (i + 3) L) (hC : px_CI I x A) (hM : px_MI I m A) (hV : px_AV A) (hN : ∀ (I2 : px_I) (J2 : px_J) (A2 : px_a), px_CI I2 x A2 → px_MI I2 m A2 → px_AV A2 → px_W l G (⟨RL, nm, ""⟩ : MethodName) cL_law 4 (some .boolean) room_1 Fn 982 [some (.ref b), some (.ref x), some (.ref m), some (.int i)] [] 282 3641 (T, I2, J2, R)) : px_W l G (⟨RL, nm, ""⟩ : MethodName) cL_law 4 (some .boolean) room_1 Fn 959 [some (.ref b), some (.ref x), some (.ref m), some (.int i)] [] 282 3641 (T, I, J, R) := by
  have q1 := s_X7_restore (l := l) (J := J) (a := xs (i + 1).toNatClampNeg) hx hC hV
  have q2 : ∀ {I1 : px_I} {J1 : px_J}, px_MI I1 m A → _ := fun {I1 J1} h => s_X8_restore (l := l) (I := I1) (J := J1) (a := xs (i + 1).toNatClampNeg) hm h
  by_cases z : rg (xs (i + 1).toNatClampNeg) 0 1
  · have hi2 : ix (xs (i + 1).toNatClampNeg) < 2 := (ix_rg1 z)
    by_cases y : A.2.2.1.1 (ix (xs (i + 1).toNatClampNeg)) = true
    · simp only [if_neg (not_not_intro z), if_pos y] at q1 q2
      refine px_aload_1 dL_law_959 ?_
      refine px_aload_0 dL_law_960 ?_
      refine px_iload_3 dL_law_961 ?_
      refine px_iconst (1) dL_law_962 rfl ?_
      refine px_iadd dL_law_963 ?_
      refine px_sld dL_law_964 hS h1 ?_
      refine cg_L_133 rfl ⟨⟨Nat.le_of_ble_eq_true rfl, Nat.le_of_ble_eq_true rfl⟩, Nat.le_of_ble_eq_true rfl, Nat.le_of_ble_eq_true rfl, Nat.le_of_ble_eq_true rfl⟩ (by first | assumption | exact co_a hx | exact mo_a hm) dL_law_965 (q1) ?_
      rintro v μ' ⟨rfl, I1, J1, rfl, c1, g1, -⟩; have m1 := MI_out hM (fun a a1 a2 => g1 a (by omega))
      refine px_aload_2 dL_law_968 ?_
      refine px_aload_0 dL_law_969 ?_
      refine px_iload_3 dL_law_970 ?_
      refine px_iconst (1) dL_law_971 rfl ?_
      refine px_iadd dL_law_972 ?_
      refine px_sld dL_law_973 hS h1 ?_
      refine cg_L_136 rfl ⟨⟨Nat.le_of_ble_eq_true rfl, Nat.le_of_ble_eq_true rfl⟩, Nat.le_of_ble_eq_true rfl, Nat.le_of_ble_eq_true rfl, Nat.le_of_ble_eq_true rfl⟩ (by first | assumption | exact co_a hx | exact mo_a hm) dL_law_974 (q2 m1) ?_
      rintro v μ' ⟨rfl, I2, J2, rfl, m2, g2, -⟩
      refine px_icmp_eq (tgt := 982) dL_law_977 (by decide) (fun h977 => ?_) (fun h977 => (by first | exact absurd (rfl) h977 | exact absurd h977 (rfl)))
      exact hN I2 J2 _ (CI_out c1 (AV_rest hV hi2 y) (fun a a1 a2 => g2 a (by omega))) m2 (AV_rest hV hi2 y)
    · simp only [if_neg (not_not_intro z), if_neg y] at q1 q2
      refine px_aload_1 dL_law_959 ?_
      refine px_aload_0 dL_law_960 ?_
      refine px_iload_3 dL_law_961 ?_
      refine px_iconst (1) dL_law_962 rfl ?_
      refine px_iadd dL_law_963 ?_
      refine px_sld dL_law_964 hS h1 ?_
      refine cg_L_133 rfl ⟨⟨Nat.le_of_ble_eq_true rfl, Nat.le_of_ble_eq_true rfl⟩, Nat.le_of_ble_eq_true rfl, Nat.le_of_ble_eq_true rfl, Nat.le_of_ble_eq_true rfl⟩ (by first | assumption | exact co_a hx | exact mo_a hm) dL_law_965 (q1) ?_
      rintro v μ' ⟨rfl, I1, J1, rfl, c1, g1, -⟩; have m1 := MI_out hM (fun a a1 a2 => g1 a (by omega))
      refine px_aload_2 dL_law_968 ?_
      refine px_aload_0 dL_law_969 ?_
      refine px_iload_3 dL_law_970 ?_
      refine px_iconst (1) dL_law_971 rfl ?_
      refine px_iadd dL_law_972 ?_
      refine px_sld dL_law_973 hS h1 ?_
      refine cg_L_136 rfl ⟨⟨Nat.le_of_ble_eq_true rfl, Nat.le_of_ble_eq_true rfl⟩, Nat.le_of_ble_eq_true rfl, Nat.le_of_ble_eq_true rfl, Nat.le_of_ble_eq_true rfl⟩ (by first | assumption | exact co_a hx | exact mo_a hm) dL_law_974 (q2 m1) ?_
      rintro v μ' ⟨rfl, I2, J2, rfl, m2, g2, -⟩
      refine px_icmp_eq (tgt := 982) dL_law_977 (by decide) (fun h977 => ?_) (fun h977 => (by first | exact absurd (rfl) h977 | exact absurd h977 (rfl)))
      exact hN I2 J2 _ (CI_out c1 hV (fun a a1 a2 => g2 a (by omega))) m2 hV
  · simp only [if_pos z] at q1 q2
    refine px_aload_1 dL_law_959 ?_
    refine px_aload_0 dL_law_960 ?_
    refine px_iload_3 dL_law_961 ?_
    refine px_iconst (1) dL_law_962 rfl ?_
    refine px_iadd dL_law_963 ?_
    refine px_sld dL_law_964 hS h1 ?_
    refine cg_L_133 rfl ⟨⟨Nat.le_of_ble_eq_true rfl, Nat.le_of_ble_eq_true rfl⟩, Nat.le_of_ble_eq_true rfl, Nat.le_of_ble_eq_true rfl, Nat.le_of_ble_eq_true rfl⟩ (by first | assumption | exact co_a hx | exact mo_a hm) dL_law_965 (q1) ?_
    rintro v μ' ⟨rfl, I1, J1, rfl, c1, g1, -⟩; have m1 := MI_out hM (fun a a1 a2 => g1 a (by omega))
    refine px_aload_2 dL_law_968 ?_
    refine px_aload_0 dL_law_969 ?_
    refine px_iload_3 dL_law_970 ?_
    refine px_iconst (1) dL_law_971 rfl ?_
    refine px_iadd dL_law_972 ?_
    refine px_sld dL_law_973 hS h1 ?_
    refine cg_L_136 rfl ⟨⟨Nat.le_of_ble_eq_true rfl, Nat.le_of_ble_eq_true rfl⟩, Nat.le_of_ble_eq_true rfl, Nat.le_of_ble_eq_true rfl, Nat.le_of_ble_eq_true rfl⟩ (by first | assumption | exact co_a hx | exact mo_a hm) dL_law_974 (q2 m1) ?_
    rintro v μ' ⟨rfl, I2, J2, rfl, m2, g2, -⟩
    refine px_icmp_eq (tgt := 982) dL_law_977 (by decide) (fun h977 => ?_) (fun h977 => (by first | exact absurd (rfl) h977 | exact absurd h977 (rfl)))
    exact hN I2 J2 _ (CI_out c1 hV (fun a a1 a2 => g2 a (by omega))) m2 hV
theorem lw_one (hG : px_tabs G) (hx : px_co G T R x) (hm : px_mo G T R m) (hmx : m = x + 275) (hS : G.2.2.2.2.1[0]? = some (b, L, xs)) (h1 : vp_in (i + 1) L) (h2 : vp_in (i + 2) L) (h3 : vp_in (i + 3) L) (hC : px_CI I x A) (hM : px_MI I m A) (hV : px_AV A) (hN : ∀ (I2 : px_I) (J2 : px_J) (A2 : px_a), px_CI I2 x A2 → px_MI I2 m A2 → px_AV A2 → px_W l G (⟨RL, nm, ""⟩ : MethodName) cL_law 4 (some .boolean) room_1 Fn 982 [some (.ref b), some (.ref x), some (.ref m), some (.int i)] [] 282 3641 (T, I2, J2, R)) (h0 : vp_in i L) : px_W l G (⟨RL, nm, ""⟩ : MethodName) cL_law 4 (some .boolean) room_1 Fn 26 [some (.ref b), some (.ref x), some (.ref m), some (.int i)] [] 282 3641 (T, I, J, R) := by
  obtain ⟨c, hc, ec⟩ := and31 (xs i.toNatClampNeg)
  rcases (by omega : c = 0 ∨ c = 1 ∨ c = 2 ∨ c = 3 ∨ c = 4 ∨ c = 5 ∨ c = 6 ∨ c = 7 ∨ c = 8 ∨ c = 9 ∨ c = 10 ∨ c = 11 ∨ c = 12 ∨ c = 13 ∨ c = 14 ∨ c = 15 ∨ c = 16 ∨ c = 17 ∨ c = 18 ∨ c = 19 ∨ c = 20 ∨ c = 21 ∨ c = 22 ∨ c = 23 ∨ c = 24 ∨ c = 25 ∨ c = 26 ∨ c = 27 ∨ c = 28 ∨ 29 ≤ c) with rfl | rfl | rfl | rfl | rfl | rfl | rfl | rfl | rfl | rfl | rfl | rfl | rfl | rfl | rfl | rfl | rfl | rfl | rfl | rfl | rfl | rfl | rfl | rfl | rfl | rfl | rfl | rfl | rfl | hc2
  · skip
    refine px_aload_0 dL_law_26 ?_
    refine px_iload_3 dL_law_27 ?_
    refine px_sld dL_law_28 hS h0 ?_
    refine px_bipush (31) dL_law_29 rfl ?_
    refine px_iand dL_law_31 ?_
    rw [ec]
    refine px_tableIn (off := 132) (tgt := 164) dL_law_32 (by decide) (by decide) rfl (by decide) ?_; exact lc_0 hG hx hm hmx hS h1 h2 h3 hC hM hV hN
  · skip
    refine px_aload_0 dL_law_26 ?_
    refine px_iload_3 dL_law_27 ?_
    refine px_sld dL_law_28 hS h0 ?_
    refine px_bipush (31) dL_law_29 rfl ?_
    refine px_iand dL_law_31 ?_
    rw [ec]
    refine px_tableIn (off := 165) (tgt := 197) dL_law_32 (by decide) (by decide) rfl (by decide) ?_; exact lc_1 hG hx hm hmx hS h1 h2 h3 hC hM hV hN
  · skip
    refine px_aload_0 dL_law_26 ?_
    refine px_iload_3 dL_law_27 ?_
    refine px_sld dL_law_28 hS h0 ?_
    refine px_bipush (31) dL_law_29 rfl ?_
    refine px_iand dL_law_31 ?_
    rw [ec]
    refine px_tableIn (off := 208) (tgt := 240) dL_law_32 (by decide) (by decide) rfl (by decide) ?_; exact lc_2 hG hx hm hmx hS h1 h2 h3 hC hM hV hN
  · skip
    refine px_aload_0 dL_law_26 ?_
    refine px_iload_3 dL_law_27 ?_
    refine px_sld dL_law_28 hS h0 ?_
    refine px_bipush (31) dL_law_29 rfl ?_
    refine px_iand dL_law_31 ?_
    rw [ec]
    refine px_tableIn (off := 241) (tgt := 273) dL_law_32 (by decide) (by decide) rfl (by decide) ?_; exact lc_3 hG hx hm hmx hS h1 h2 h3 hC hM hV hN
  · skip
    refine px_aload_0 dL_law_26 ?_
    refine px_iload_3 dL_law_27 ?_
    refine px_sld dL_law_28 hS h0 ?_
    refine px_bipush (31) dL_law_29 rfl ?_
    refine px_iand dL_law_31 ?_
    rw [ec]
    refine px_tableIn (off := 274) (tgt := 306) dL_law_32 (by decide) (by decide) rfl (by decide) ?_; exact lc_4 hG hx hm hmx hS h1 h2 h3 hC hM hV hN
  · skip
    refine px_aload_0 dL_law_26 ?_
    refine px_iload_3 dL_law_27 ?_
    refine px_sld dL_law_28 hS h0 ?_
    refine px_bipush (31) dL_law_29 rfl ?_
    refine px_iand dL_law_31 ?_
    rw [ec]
    refine px_tableIn (off := 307) (tgt := 339) dL_law_32 (by decide) (by decide) rfl (by decide) ?_; exact lc_5 hG hx hm hmx hS h1 h2 h3 hC hM hV hN
  · skip
    refine px_aload_0 dL_law_26 ?_
    refine px_iload_3 dL_law_27 ?_
    refine px_sld dL_law_28 hS h0 ?_
    refine px_bipush (31) dL_law_29 rfl ?_
    refine px_iand dL_law_31 ?_
    rw [ec]
    refine px_tableIn (off := 320) (tgt := 352) dL_law_32 (by decide) (by decide) rfl (by decide) ?_; exact lc_6 hG hx hm hmx hS h1 h2 h3 hC hM hV hN
  · skip
    refine px_aload_0 dL_law_26 ?_
    refine px_iload_3 dL_law_27 ?_
    refine px_sld dL_law_28 hS h0 ?_
    refine px_bipush (31) dL_law_29 rfl ?_
    refine px_iand dL_law_31 ?_
    rw [ec]
    refine px_tableIn (off := 353) (tgt := 385) dL_law_32 (by decide) (by decide) rfl (by decide) ?_; exact lc_7 hG hx hm hmx hS h1 h2 h3 hC hM hV hN
  · skip
    refine px_aload_0 dL_law_26 ?_
    refine px_iload_3 dL_law_27 ?_
    refine px_sld dL_law_28 hS h0 ?_
    refine px_bipush (31) dL_law_29 rfl ?_
    refine px_iand dL_law_31 ?_
    rw [ec]
    refine px_tableIn (off := 386) (tgt := 418) dL_law_32 (by decide) (by decide) rfl (by decide) ?_; exact lc_8 hG hx hm hmx hS h1 h2 h3 hC hM hV hN
  · skip
    refine px_aload_0 dL_law_26 ?_
    refine px_iload_3 dL_law_27 ?_
    refine px_sld dL_law_28 hS h0 ?_
    refine px_bipush (31) dL_law_29 rfl ?_
    refine px_iand dL_law_31 ?_
    rw [ec]
    refine px_tableIn (off := 419) (tgt := 451) dL_law_32 (by decide) (by decide) rfl (by decide) ?_; exact lc_9 hG hx hm hmx hS h1 h2 h3 hC hM hV hN
  · skip
    refine px_aload_0 dL_law_26 ?_
    refine px_iload_3 dL_law_27 ?_
    refine px_sld dL_law_28 hS h0 ?_
    refine px_bipush (31) dL_law_29 rfl ?_
    refine px_iand dL_law_31 ?_
    rw [ec]
    refine px_tableIn (off := 462) (tgt := 494) dL_law_32 (by decide) (by decide) rfl (by decide) ?_; exact lc_10 hG hx hm hmx hS h1 h2 h3 hC hM hV hN
  · skip
    refine px_aload_0 dL_law_26 ?_
    refine px_iload_3 dL_law_27 ?_
    refine px_sld dL_law_28 hS h0 ?_
    refine px_bipush (31) dL_law_29 rfl ?_
    refine px_iand dL_law_31 ?_
    rw [ec]
    refine px_tableIn (off := 475) (tgt := 507) dL_law_32 (by decide) (by decide) rfl (by decide) ?_; exact lc_11 hG hx hm hmx hS h1 h2 h3 hC hM hV hN
  · skip
    refine px_aload_0 dL_law_26 ?_
    refine px_iload_3 dL_law_27 ?_
    refine px_sld dL_law_28 hS h0 ?_
    refine px_bipush (31) dL_law_29 rfl ?_
    refine px_iand dL_law_31 ?_
    rw [ec]
    refine px_tableIn (off := 508) (tgt := 540) dL_law_32 (by decide) (by decide) rfl (by decide) ?_; exact lc_12 hG hx hm hmx hS h1 h2 h3 hC hM hV hN
  · skip
    refine px_aload_0 dL_law_26 ?_
    refine px_iload_3 dL_law_27 ?_
    refine px_sld dL_law_28 hS h0 ?_
    refine px_bipush (31) dL_law_29 rfl ?_
    refine px_iand dL_law_31 ?_
    rw [ec]
    refine px_tableIn (off := 541) (tgt := 573) dL_law_32 (by decide) (by decide) rfl (by decide) ?_; exact lc_13 hG hx hm hmx hS h1 h2 h3 hC hM hV hN
  · skip
    refine px_aload_0 dL_law_26 ?_
    refine px_iload_3 dL_law_27 ?_
    refine px_sld dL_law_28 hS h0 ?_
    refine px_bipush (31) dL_law_29 rfl ?_
    refine px_iand dL_law_31 ?_
    rw [ec]
    refine px_tableIn (off := 574) (tgt := 606) dL_law_32 (by decide) (by decide) rfl (by decide) ?_; exact lc_14 hG hx hm hmx hS h1 h2 h3 hC hM hV hN
  · skip
    refine px_aload_0 dL_law_26 ?_
    refine px_iload_3 dL_law_27 ?_
    refine px_sld dL_law_28 hS h0 ?_
    refine px_bipush (31) dL_law_29 rfl ?_
    refine px_iand dL_law_31 ?_
    rw [ec]
    refine px_tableIn (off := 618) (tgt := 650) dL_law_32 (by decide) (by decide) rfl (by decide) ?_; exact lc_15 hG hx hm hmx hS h1 h2 h3 hC hM hV hN
  · skip
    refine px_aload_0 dL_law_26 ?_
    refine px_iload_3 dL_law_27 ?_
    refine px_sld dL_law_28 hS h0 ?_
    refine px_bipush (31) dL_law_29 rfl ?_
    refine px_iand dL_law_31 ?_
    rw [ec]
    refine px_tableIn (off := 641) (tgt := 673) dL_law_32 (by decide) (by decide) rfl (by decide) ?_; exact lc_16 hG hx hm hmx hS h1 h2 h3 hC hM hV hN
  · skip
    refine px_aload_0 dL_law_26 ?_
    refine px_iload_3 dL_law_27 ?_
    refine px_sld dL_law_28 hS h0 ?_
    refine px_bipush (31) dL_law_29 rfl ?_
    refine px_iand dL_law_31 ?_
    rw [ec]
    refine px_tableIn (off := 664) (tgt := 696) dL_law_32 (by decide) (by decide) rfl (by decide) ?_; exact lc_17 hG hx hm hmx hS h1 h2 h3 hC hM hV hN
  · skip
    refine px_aload_0 dL_law_26 ?_
    refine px_iload_3 dL_law_27 ?_
    refine px_sld dL_law_28 hS h0 ?_
    refine px_bipush (31) dL_law_29 rfl ?_
    refine px_iand dL_law_31 ?_
    rw [ec]
    refine px_tableIn (off := 697) (tgt := 729) dL_law_32 (by decide) (by decide) rfl (by decide) ?_; exact lc_18 hG hx hm hmx hS h1 h2 h3 hC hM hV hN
  · skip
    refine px_aload_0 dL_law_26 ?_
    refine px_iload_3 dL_law_27 ?_
    refine px_sld dL_law_28 hS h0 ?_
    refine px_bipush (31) dL_law_29 rfl ?_
    refine px_iand dL_law_31 ?_
    rw [ec]
    refine px_tableIn (off := 720) (tgt := 752) dL_law_32 (by decide) (by decide) rfl (by decide) ?_; exact lc_19 hG hx hm hmx hS h1 h2 h3 hC hM hV hN
  · skip
    refine px_aload_0 dL_law_26 ?_
    refine px_iload_3 dL_law_27 ?_
    refine px_sld dL_law_28 hS h0 ?_
    refine px_bipush (31) dL_law_29 rfl ?_
    refine px_iand dL_law_31 ?_
    rw [ec]
    refine px_tableIn (off := 743) (tgt := 775) dL_law_32 (by decide) (by decide) rfl (by decide) ?_; exact lc_20 hG hx hm hmx hS h1 h2 h3 hC hM hV hN
  · skip
    refine px_aload_0 dL_law_26 ?_
    refine px_iload_3 dL_law_27 ?_
    refine px_sld dL_law_28 hS h0 ?_
    refine px_bipush (31) dL_law_29 rfl ?_
    refine px_iand dL_law_31 ?_
    rw [ec]
    refine px_tableIn (off := 756) (tgt := 788) dL_law_32 (by decide) (by decide) rfl (by decide) ?_; exact lc_21 hG hx hm hmx hS h1 h2 h3 hC hM hV hN
  · skip
    refine px_aload_0 dL_law_26 ?_
    refine px_iload_3 dL_law_27 ?_
    refine px_sld dL_law_28 hS h0 ?_
    refine px_bipush (31) dL_law_29 rfl ?_
    refine px_iand dL_law_31 ?_
    rw [ec]
    refine px_tableIn (off := 799) (tgt := 831) dL_law_32 (by decide) (by decide) rfl (by decide) ?_; exact lc_22 hG hx hm hmx hS h1 h2 h3 hC hM hV hN
  · skip
    refine px_aload_0 dL_law_26 ?_
    refine px_iload_3 dL_law_27 ?_
    refine px_sld dL_law_28 hS h0 ?_
    refine px_bipush (31) dL_law_29 rfl ?_
    refine px_iand dL_law_31 ?_
    rw [ec]
    refine px_tableIn (off := 852) (tgt := 884) dL_law_32 (by decide) (by decide) rfl (by decide) ?_; exact lc_23 hG hx hm hmx hS h1 h2 h3 hC hM hV hN
  · skip
    refine px_aload_0 dL_law_26 ?_
    refine px_iload_3 dL_law_27 ?_
    refine px_sld dL_law_28 hS h0 ?_
    refine px_bipush (31) dL_law_29 rfl ?_
    refine px_iand dL_law_31 ?_
    rw [ec]
    refine px_tableIn (off := 865) (tgt := 897) dL_law_32 (by decide) (by decide) rfl (by decide) ?_; exact lc_24 hG hx hm hmx hS h1 h2 h3 hC hM hV hN
  · skip
    refine px_aload_0 dL_law_26 ?_
    refine px_iload_3 dL_law_27 ?_
    refine px_sld dL_law_28 hS h0 ?_
    refine px_bipush (31) dL_law_29 rfl ?_
    refine px_iand dL_law_31 ?_
    rw [ec]
    refine px_tableIn (off := 878) (tgt := 910) dL_law_32 (by decide) (by decide) rfl (by decide) ?_; exact lc_25 hG hx hm hmx hS h1 h2 h3 hC hM hV hN
  · skip
    refine px_aload_0 dL_law_26 ?_
    refine px_iload_3 dL_law_27 ?_
    refine px_sld dL_law_28 hS h0 ?_
    refine px_bipush (31) dL_law_29 rfl ?_
    refine px_iand dL_law_31 ?_
    rw [ec]
    refine px_tableIn (off := 891) (tgt := 923) dL_law_32 (by decide) (by decide) rfl (by decide) ?_; exact lc_26 hG hx hm hmx hS h1 h2 h3 hC hM hV hN
  · skip
    refine px_aload_0 dL_law_26 ?_
    refine px_iload_3 dL_law_27 ?_
    refine px_sld dL_law_28 hS h0 ?_
    refine px_bipush (31) dL_law_29 rfl ?_
    refine px_iand dL_law_31 ?_
    rw [ec]
    refine px_tableIn (off := 904) (tgt := 936) dL_law_32 (by decide) (by decide) rfl (by decide) ?_; exact lc_27 hG hx hm hmx hS h1 h2 h3 hC hM hV hN
  · skip
    refine px_aload_0 dL_law_26 ?_
    refine px_iload_3 dL_law_27 ?_
    refine px_sld dL_law_28 hS h0 ?_
    refine px_bipush (31) dL_law_29 rfl ?_
    refine px_iand dL_law_31 ?_
    rw [ec]
    refine px_tableIn (off := 927) (tgt := 959) dL_law_32 (by decide) (by decide) rfl (by decide) ?_; exact lc_28 hG hx hm hmx hS h1 h2 h3 hC hM hV hN
  · have hd : (28 : Int) < (nI c).toInt := by rw [nI_ti (by omega)]; omega
    refine px_aload_0 dL_law_26 ?_
    refine px_iload_3 dL_law_27 ?_
    refine px_sld dL_law_28 hS h0 ?_
    refine px_bipush (31) dL_law_29 rfl ?_
    refine px_iand dL_law_31 ?_
    rw [ec]
    refine px_tableOut (tgt := 982) dL_law_32 (Or.inr hd) (by decide) ?_; exact hN I J A hC hM hV
theorem lw_loop (hG : px_tabs G) (hx : px_co G T R x) (hm : px_mo G T R m) (hmx : m = x + 275) (hS : G.2.2.2.2.1[0]? = some (b, L, xs)) (hL : L ≤ 2048) (hend : ∀ (ls : List (Option Value)) (k n : Nat) (μ : px_M), k ≤ 600000 → n ≤ 7302249 → px_W l G (⟨RL, nm, ""⟩ : MethodName) cL_law 4 (some .boolean) room_1 Fn 989 ls [.int 1] k n μ) : ∀ (d t : Nat) (I : px_I) (J : px_J) (A : px_a), L < 4 * (t + d) → 4 * t ≤ L + 4 → px_CI I x A → px_MI I m A → px_AV A → px_W l G (⟨RL, nm, ""⟩ : MethodName) cL_law 4 (some .boolean) room_1 Fn 18 [some (.ref b), some (.ref x), some (.ref m), some (.int (nI (4 * t)))] [] 282 3641 (T, I, J, R) := by
  intro d
  induction d with
  | zero =>
    intro t I J A h1 h2 hC hM hV
    refine px_iload_3 dL_law_18 ?_
    refine px_aload_0 dL_law_19 ?_
    refine px_slen dL_law_20 hS ?_
    refine px_iconst (4) dL_law_21 rfl ?_
    refine px_isub dL_law_22 ?_
    refine px_icmp_gt (tgt := 988) dL_law_23 (by decide) (fun h23 => ?_) (fun h23 => (by first | exact absurd (((lw_cmp hL h2).mpr (by omega))) h23 | exact absurd h23 (((lw_cmp hL h2).mpr (by omega)))))
    refine px_iconst (1) dL_law_988 rfl ?_
    exact hend _ _ _ _ (by decide) (by decide)
  | succ d ih =>
    intro t I J A h1 h2 hC hM hV
    by_cases hz : L < 4 * t + 4
    · skip
      refine px_iload_3 dL_law_18 ?_
      refine px_aload_0 dL_law_19 ?_
      refine px_slen dL_law_20 hS ?_
      refine px_iconst (4) dL_law_21 rfl ?_
      refine px_isub dL_law_22 ?_
      refine px_icmp_gt (tgt := 988) dL_law_23 (by decide) (fun h23 => ?_) (fun h23 => (by first | exact absurd (((lw_cmp hL h2).mpr hz)) h23 | exact absurd h23 (((lw_cmp hL h2).mpr hz))))
      refine px_iconst (1) dL_law_988 rfl ?_
      exact hend _ _ _ _ (by decide) (by decide)
    · have hv : ∀ j, j < 4 → vp_in (nI (4 * t + j)) L := fun j hj => vp_in_nI (by omega) (by omega)
      have hv1 : vp_in (nI (4 * t) + 1) L := by rw [show (1 : Int32) = nI 1 from rfl, nI_add]; exact hv 1 (by decide)
      have hv2 : vp_in (nI (4 * t) + 2) L := by rw [show (2 : Int32) = nI 2 from rfl, nI_add]; exact hv 2 (by decide)
      have hv3 : vp_in (nI (4 * t) + 3) L := by rw [show (3 : Int32) = nI 3 from rfl, nI_add]; exact hv 3 (by decide)
      refine px_iload_3 dL_law_18 ?_
      refine px_aload_0 dL_law_19 ?_
      refine px_slen dL_law_20 hS ?_
      refine px_iconst (4) dL_law_21 rfl ?_
      refine px_isub dL_law_22 ?_
      refine px_icmp_gt (tgt := 988) dL_law_23 (by decide) (fun h23 => (by first | exact absurd h23 ((fun q => hz ((lw_cmp hL h2).mp q))) | exact absurd ((fun q => hz ((lw_cmp hL h2).mp q))) h23)) (fun h23 => ?_)
      skip
      refine lw_one hG hx hm hmx hS hv1 hv2 hv3 hC hM hV (fun I2 J2 A2 hC2 hM2 hV2 => ?_) (hv 0 (by decide))
      refine px_iinc_3 dL_law_982 rfl ?_
      rw [show nI (4 * t) + Int32.ofInt 4 = nI (4 * (t + 1)) from nI_add _ _]
      refine px_goto (tgt := 18) dL_law_985 (by decide) ?_
      exact ih (t + 1) I2 J2 A2 (by omega) (by omega) hC2 hM2 hV2
theorem lw_all (hG : px_tabs G) (hG0 : px_tab0 G) (hS : G.2.2.2.2.1[0]? = some (b, L, xs)) (hL : L ≤ 2048) (hend : ∀ (ls : List (Option Value)) (k n : Nat) (μ : px_M), k ≤ 600000 → n ≤ 7302249 → px_W l G (⟨RL, nm, ""⟩ : MethodName) cL_law 4 (some .boolean) room_1 Fn 989 ls [.int 1] k n μ) (h0 : T.1 = 0) : px_W l G (⟨RL, nm, ""⟩ : MethodName) cL_law 4 (some .boolean) room_1 Fn 0 [some (.ref b), none, none, none] [] 0 0 (T, I, J, R) := by
  generalize hxx : px_h G = x
  refine nw_L_7 (w := x) rfl (by (try dsimp only [px_nx, px_ty1, px_mm]); omega) (by refine ⟨?_, ?_⟩ <;> first | (dsimp only [px_rm]; omega) | exact Nat.le_of_ble_eq_true rfl) dL_law_0 ?_
  refine nx_go (w := x) (by dsimp only; omega) ?_; rintro T1 I1 J1 R1 c1 k1 a1 z1 y1; dsimp only at c1
  refine px_dup dL_law_3 rfl ?_
  refine cg_L_9 rfl ⟨⟨Nat.le_of_ble_eq_true rfl, Nat.le_of_ble_eq_true rfl⟩, by first | (dsimp only [px_rm]; omega) | exact Nat.le_of_ble_eq_true rfl, by first | (dsimp only [px_rm]; omega) | exact Nat.le_of_ble_eq_true rfl, Nat.le_of_ble_eq_true rfl⟩ dL_law_4 (s_X7_init hG0 (by omega) a1) ?_
  rintro v μ' ⟨rfl, T2, I2, J2, R2, rfl, c2, k2, hx, hC⟩; dsimp only at c2 hx hC
  refine px_astore_1 dL_law_7 rfl ?_
  refine nw_L_10 (w := x + 275) rfl (by (try dsimp only [px_nx, px_ty1, px_mm]); omega) (by refine ⟨?_, ?_⟩ <;> first | (dsimp only [px_rm]; omega) | exact Nat.le_of_ble_eq_true rfl) dL_law_8 ?_
  refine nx_go (w := x + 275) (by dsimp only; omega) ?_; rintro T3 I3 J3 R3 c3 k3 a3 z3 y3; dsimp only at c3
  refine px_dup dL_law_11 rfl ?_
  refine cg_L_12 rfl ⟨⟨Nat.le_of_ble_eq_true rfl, Nat.le_of_ble_eq_true rfl⟩, by first | (dsimp only [px_rm]; omega) | exact Nat.le_of_ble_eq_true rfl, by first | (dsimp only [px_rm]; omega) | exact Nat.le_of_ble_eq_true rfl, Nat.le_of_ble_eq_true rfl⟩ dL_law_12 (s_X8_init (m := x + 275) (by omega) a3 z3) ?_
  rintro v μ' ⟨rfl, T4, I4, J4, R4, rfl, c4, k4, hm, hM⟩; dsimp only at c4 hm hM
  refine px_astore_2 dL_law_15 rfl ?_
  refine px_iconst (0) dL_law_16 rfl ?_
  refine px_istore_3 dL_law_17 rfl ?_
  skip
  have kk : px_ke 0 (x + 275) (T2, I2, J2, R2) (T4, I4, J4, R4) := ke_tr k3 k4
  exact lw_loop hG (co_ke hx kk (by omega) (by omega)) hm rfl hS hL hend (L + 1) 0 I4 J4 a_A0 (by omega) (by omega) (CI_out hC A0_AV (fun a a1 a2 => ke_Ia kk (by omega) (by omega))) hM A0_AV
end LAW

