/-! the law's small methods: cell, low, act -/
section LSM
variable {l : Launch} {G : px_G} {T : px_T} {I I' I0 : px_I} {J : px_J} {R : px_R} {μ : px_M} {x b L : Nat} {xs : Nat → Int32} {σ : px_s} {A : px_a}
def f_low (v n : Int32) : Int32 := (v &&& 2147483647) - (v &&& 2147483647) / n * n
theorem low_lt (v : Int32) {n : Nat} (h0 : 0 < n) (h : n < 2 ^ 31) : ∃ j, j < n ∧ f_low v (nI n) = nI j := by
  unfold f_low
  rw [pk_and v 31 (by decide), pk_rem (Nat.mod_lt _ (by decide)) h0 h]
  exact ⟨_, Nat.mod_lt _ h0, rfl⟩
theorem s_L_low {v n : Int32} (hn : ¬ n = 0) : px_K l G 0 mL_low ([.int v, .int n]) (μ) (some (.int (f_low v n))) (μ) := by
  refine px_met (M := mL_low) ([some (.int v), some (.int n)]) (by decide +kernel) rfl (Nat.le_of_ble_eq_true rfl) rfl ?_
  refine px_iload_0 dL_low_0 ?_
  refine px_ldc ck_L_7 dL_low_1 ?_
  refine px_iand dL_low_3 ?_
  refine px_iload_1 dL_low_4 ?_
  refine px_irem dL_low_5 (by exact hn) ?_
  refine px_iret dL_low_6 ?_
  exact ⟨rfl, rfl⟩
theorem s_L_cell {e : Nat} (hs : G.2.2.2.2.1[0]? = some (b, L, xs)) (hL : L ≤ 260) (he : e < 100) : px_C l G 0 0 0 mL_cell [.ref b, .int (nI e)] μ (fun v μ' => (∃ z, v = some (.int z)) ∧ μ' = μ) := by
  refine px_met (M := mL_cell) ([some (.ref b), some (.int (nI e))]) (by decide +kernel) rfl (Nat.le_of_ble_eq_true rfl) rfl ?_
  generalize hQ : (fun v μ' => (∃ z, v = some (Value.int z)) ∧ μ' = μ : Option Value → px_M → Prop) = Q
  by_cases h : L ≤ e
  · skip
    refine px_iload_1 dL_cell_0 ?_
    refine px_aload_0 dL_cell_1 ?_
    refine px_slen dL_cell_2 hs ?_
    refine px_icmp_ge (tgt := 12) dL_cell_3 (by decide) (fun h3 => ?_) (fun h3 => (by first | exact absurd ((nI_le h (by omega))) h3 | exact absurd h3 ((nI_le h (by omega)))))
    refine px_sipush (7919) dL_cell_12 rfl ?_
    refine px_iload_1 dL_cell_15 ?_
    refine px_bipush (7) dL_cell_16 rfl ?_
    refine px_iadd dL_cell_18 ?_
    refine px_imul dL_cell_19 ?_
    refine px_iload_1 dL_cell_20 ?_
    refine px_bipush (127) dL_cell_21 rfl ?_
    refine px_iadd dL_cell_23 ?_
    refine px_imul dL_cell_24 ?_
    refine px_iret dL_cell_25 ?_
    subst hQ; exact ⟨⟨_, rfl⟩, rfl⟩
  · skip
    refine px_iload_1 dL_cell_0 ?_
    refine px_aload_0 dL_cell_1 ?_
    refine px_slen dL_cell_2 hs ?_
    refine px_icmp_ge (tgt := 12) dL_cell_3 (by decide) (fun h3 => (by first | exact absurd h3 ((nI_ge (by omega) (by omega))) | exact absurd ((nI_ge (by omega) (by omega))) h3)) (fun h3 => ?_)
    refine px_aload_0 dL_cell_6 ?_
    refine px_iload_1 dL_cell_7 ?_
    refine px_sld dL_cell_8 hs (vp_in_nI (by omega) (by omega)) ?_
    refine px_goto (tgt := 25) dL_cell_9 (by decide) ?_
    refine px_iret dL_cell_25 ?_
    subst hQ; exact ⟨⟨_, rfl⟩, rfl⟩
/-- what an act does, its parts once read -/
def f_a3 (σ : px_s) (x b tw ca rd k : Int32) : Int32 × px_s :=
  if k = 0 ∨ k = 1 ∨ k = 2 then f_road σ tw (f_low (x >>> (4 &&& 31)) 8) (f_low (x >>> (7 &&& 31)) (if b = 0 then 210 else 50))
  else if k = 3 ∨ k = 4 then f_price σ tw (f_low (x >>> (4 &&& 31)) (if b = 0 then 1100 else 180))
  else if k = 5 ∨ k = 6 then f_guard σ rd (f_low (x >>> (6 &&& 31)) (if b = 0 then 44 else 8))
  else if k = 7 then f_cart σ tw (f_low (x >>> (4 &&& 31)) (if b = 0 then 110000 else 30000))
  else if k = 8 ∨ k = 9 then f_buy σ ca (f_low (x >>> (5 &&& 31)) (if b = 0 then 105 else 12))
  else if k = 10 then f_sell σ ca (f_low (x >>> (5 &&& 31)) (if b = 0 then 105 else 8))
  else if k = 11 ∨ k = 12 then f_go σ ca rd (f_low (x >>> (6 &&& 31)) (if b = 0 then 3 else 2))
  else if k = 13 then f_set σ (f_low x 5) (f_low (x >>> (4 &&& 31)) 45)
  else if k = 14 then f_toll σ rd (f_low (x >>> (6 &&& 31)) (if b = 0 then 220 else 40))
  else f_mkh σ
def f_act (σ : px_s) (v : Int32) : Int32 × px_s :=
  f_a3 σ (v >>> (4 &&& 31)) (if f_low (v >>> (21 &&& 31)) 6 ≤ 0 then 0 else 1) (f_low (v >>> (4 &&& 31)) (if (if f_low (v >>> (21 &&& 31)) 6 ≤ 0 then 0 else 1 : Int32) = 0 then 9 else 8)) (f_low (v >>> (4 &&& 31)) (σ 93 + 1)) (f_low ((v >>> (4 &&& 31)) >>> (3 &&& 31)) (σ 8 + 1)) (f_low v 16)
theorem a3_e {σ : px_s} (h : px_VV σ) {x b tw ca rd k : Int32} : (f_a3 σ x b tw ca rd k).1 < 0 → (f_a3 σ x b tw ca rd k).2 = σ := by
  unfold f_a3
  by_cases h1 : k = 0 ∨ k = 1 ∨ k = 2
  · rw [if_pos h1]; exact e_road h
  rw [if_neg h1]
  by_cases h2 : k = 3 ∨ k = 4
  · rw [if_pos h2]; exact e_price h
  rw [if_neg h2]
  by_cases h3 : k = 5 ∨ k = 6
  · rw [if_pos h3]; exact e_guard h
  rw [if_neg h3]
  by_cases h4 : k = 7
  · rw [if_pos h4]; exact e_cart h
  rw [if_neg h4]
  by_cases h5 : k = 8 ∨ k = 9
  · rw [if_pos h5]; exact e_buy h
  rw [if_neg h5]
  by_cases h6 : k = 10
  · rw [if_pos h6]; exact e_sell h
  rw [if_neg h6]
  by_cases h7 : k = 11 ∨ k = 12
  · rw [if_pos h7]; exact e_go h
  rw [if_neg h7]
  by_cases h8 : k = 13
  · rw [if_pos h8]; exact e_set h
  rw [if_neg h8]
  by_cases h9 : k = 14
  · rw [if_pos h9]; exact e_toll h
  rw [if_neg h9]
  exact fun q => absurd q (df_nn σ)
theorem a3_U {σ : px_s} (h : px_U σ) {x b tw ca rd k : Int32} : px_U (f_a3 σ x b tw ca rd k).2 := by
  unfold f_a3
  by_cases h1 : k = 0 ∨ k = 1 ∨ k = 2
  · rw [if_pos h1]; exact U_road h
  rw [if_neg h1]
  by_cases h2 : k = 3 ∨ k = 4
  · rw [if_pos h2]; exact U_price h
  rw [if_neg h2]
  by_cases h3 : k = 5 ∨ k = 6
  · rw [if_pos h3]; exact U_guard h
  rw [if_neg h3]
  by_cases h4 : k = 7
  · rw [if_pos h4]; exact U_addcart h
  rw [if_neg h4]
  by_cases h5 : k = 8 ∨ k = 9
  · rw [if_pos h5]; exact U_buy h
  rw [if_neg h5]
  by_cases h6 : k = 10
  · rw [if_pos h6]; exact U_sell h
  rw [if_neg h6]
  by_cases h7 : k = 11 ∨ k = 12
  · rw [if_pos h7]; exact U_go h
  rw [if_neg h7]
  by_cases h8 : k = 13
  · rw [if_pos h8]; exact U_set h
  rw [if_neg h8]
  by_cases h9 : k = 14
  · rw [if_pos h9]; exact U_toll h
  rw [if_neg h9]
  exact U_mkh h
theorem act_e {σ : px_s} (h : px_VV σ) {v : Int32} (q : (f_act σ v).1 < 0) : (f_act σ v).2 = σ := a3_e h q
theorem act_U {σ : px_s} (h : px_U σ) {v : Int32} : px_U (f_act σ v).2 := a3_U h
theorem s_L_act {v : Int32} (hx : px_co G T R x) (hG : px_tabs G) (hS : px_S1 T R I0 x A μ) (hV : px_AV A) : px_C l G 7 0 0 mL_act [.ref x, .int v] μ (px_QA T R I0 x (.int (f_act A.1 v).1) (a_chg A (f_act A.1 v))) := by
  have h93 : ¬ A.1 93 + 1 = 0 := by
    have := hV.1.1.1.2.2.2
    rw [hV.1.1.1.2.2.1, nI_1]; exact nI_ne0 (by omega) (by omega)
  have h8 : ¬ A.1 8 + 1 = 0 := by
    have := hV.1.1.1.2.1
    rw [hV.1.1.1.1, nI_1]; exact nI_ne0 (by omega) (by omega)
  refine px_met (M := mL_act) ([some (.ref x), some (.int v), none, none, none, none, none]) (by decide +kernel) rfl (Nat.le_of_ble_eq_true rfl) rfl ?_
  generalize hQ : px_QA T R I0 x (.int (f_act A.1 v).1) (a_chg A (f_act A.1 v)) = Q
  have C148 : ∀ (x2 b tw ca rd : Int32) (μ : px_M), px_S1 T R I0 x A μ → f_act A.1 v = f_road A.1 tw (f_low (x2 >>> (4 &&& 31)) 8) (f_low (x2 >>> (7 &&& 31)) (if b = 0 then 210 else 50)) → (px_W l G yL_act cL_act 7 (some .int) (px_rm 7 0 0) (px_Fn G Q 0 0) 148 [some (.ref x), some (.int v), some (.int x2), some (.int b), some (.int tw), some (.int ca), some (.int rd)] [] 0 0 μ) := by
    intro x2 b tw ca rd μ hS hf
    by_cases hb : b = 0
    · rw [if_pos hb] at hf
      refine px_aload_0 dL_act_148 ?_
      refine px_iload_4 dL_act_149 ?_
      refine px_iload_2 dL_act_151 ?_
      refine px_iconst (4) dL_act_152 rfl ?_
      refine px_ishr dL_act_153 ?_
      refine px_bipush (8) dL_act_154 rfl ?_
      refine cd_L_8 rfl ⟨⟨Nat.le_of_ble_eq_true rfl, Nat.le_of_ble_eq_true rfl⟩, Nat.le_of_ble_eq_true rfl, Nat.le_of_ble_eq_true rfl, Nat.le_of_ble_eq_true rfl⟩ dL_act_156 (s_L_low (by decide)) ?_
      refine px_iload_2 dL_act_159 ?_
      refine px_bipush (7) dL_act_160 rfl ?_
      refine px_ishr dL_act_162 ?_
      refine px_iload_3 dL_act_163 ?_
      refine px_if_eq (tgt := 172) dL_act_164 (by decide) (fun h164 => ?_) (fun h164 => (by first | exact absurd (hb) h164 | exact absurd h164 (hb)))
      refine px_sipush (210) dL_act_172 rfl ?_
      refine cd_L_8 rfl ⟨⟨Nat.le_of_ble_eq_true rfl, Nat.le_of_ble_eq_true rfl⟩, Nat.le_of_ble_eq_true rfl, Nat.le_of_ble_eq_true rfl, Nat.le_of_ble_eq_true rfl⟩ dL_act_175 (s_L_low (by decide)) ?_
      refine cg_L_20 rfl ⟨⟨Nat.le_of_ble_eq_true rfl, Nat.le_of_ble_eq_true rfl⟩, Nat.le_of_ble_eq_true rfl, Nat.le_of_ble_eq_true rfl, Nat.le_of_ble_eq_true rfl⟩ (by first | assumption | exact S1_at hx hS) dL_act_178 (o_road hx hG hS hV rfl) ?_
      rintro _ μ1 ⟨rfl, hS⟩
      refine px_iret dL_act_181 ?_
      subst hQ; rw [hf]; exact ⟨rfl, hS⟩
    · rw [if_neg hb] at hf
      refine px_aload_0 dL_act_148 ?_
      refine px_iload_4 dL_act_149 ?_
      refine px_iload_2 dL_act_151 ?_
      refine px_iconst (4) dL_act_152 rfl ?_
      refine px_ishr dL_act_153 ?_
      refine px_bipush (8) dL_act_154 rfl ?_
      refine cd_L_8 rfl ⟨⟨Nat.le_of_ble_eq_true rfl, Nat.le_of_ble_eq_true rfl⟩, Nat.le_of_ble_eq_true rfl, Nat.le_of_ble_eq_true rfl, Nat.le_of_ble_eq_true rfl⟩ dL_act_156 (s_L_low (by decide)) ?_
      refine px_iload_2 dL_act_159 ?_
      refine px_bipush (7) dL_act_160 rfl ?_
      refine px_ishr dL_act_162 ?_
      refine px_iload_3 dL_act_163 ?_
      refine px_if_eq (tgt := 172) dL_act_164 (by decide) (fun h164 => (by first | exact absurd h164 (hb) | exact absurd (hb) h164)) (fun h164 => ?_)
      refine px_bipush (50) dL_act_167 rfl ?_
      refine px_goto (tgt := 175) dL_act_169 (by decide) ?_
      refine cd_L_8 rfl ⟨⟨Nat.le_of_ble_eq_true rfl, Nat.le_of_ble_eq_true rfl⟩, Nat.le_of_ble_eq_true rfl, Nat.le_of_ble_eq_true rfl, Nat.le_of_ble_eq_true rfl⟩ dL_act_175 (s_L_low (by decide)) ?_
      refine cg_L_20 rfl ⟨⟨Nat.le_of_ble_eq_true rfl, Nat.le_of_ble_eq_true rfl⟩, Nat.le_of_ble_eq_true rfl, Nat.le_of_ble_eq_true rfl, Nat.le_of_ble_eq_true rfl⟩ (by first | assumption | exact S1_at hx hS) dL_act_178 (o_road hx hG hS hV rfl) ?_
      rintro _ μ1 ⟨rfl, hS⟩
      refine px_iret dL_act_181 ?_
      subst hQ; rw [hf]; exact ⟨rfl, hS⟩
  have C182 : ∀ (x2 b tw ca rd : Int32) (μ : px_M), px_S1 T R I0 x A μ → f_act A.1 v = f_price A.1 tw (f_low (x2 >>> (4 &&& 31)) (if b = 0 then 1100 else 180)) → (px_W l G yL_act cL_act 7 (some .int) (px_rm 7 0 0) (px_Fn G Q 0 0) 182 [some (.ref x), some (.int v), some (.int x2), some (.int b), some (.int tw), some (.int ca), some (.int rd)] [] 0 0 μ) := by
    intro x2 b tw ca rd μ hS hf
    by_cases hb : b = 0
    · rw [if_pos hb] at hf
      refine px_aload_0 dL_act_182 ?_
      refine px_iload_4 dL_act_183 ?_
      refine px_iload_2 dL_act_185 ?_
      refine px_iconst (4) dL_act_186 rfl ?_
      refine px_ishr dL_act_187 ?_
      refine px_iload_3 dL_act_188 ?_
      refine px_if_eq (tgt := 198) dL_act_189 (by decide) (fun h189 => ?_) (fun h189 => (by first | exact absurd (hb) h189 | exact absurd h189 (hb)))
      refine px_sipush (1100) dL_act_198 rfl ?_
      refine cd_L_8 rfl ⟨⟨Nat.le_of_ble_eq_true rfl, Nat.le_of_ble_eq_true rfl⟩, Nat.le_of_ble_eq_true rfl, Nat.le_of_ble_eq_true rfl, Nat.le_of_ble_eq_true rfl⟩ dL_act_201 (s_L_low (by decide)) ?_
      refine cg_L_24 rfl ⟨⟨Nat.le_of_ble_eq_true rfl, Nat.le_of_ble_eq_true rfl⟩, Nat.le_of_ble_eq_true rfl, Nat.le_of_ble_eq_true rfl, Nat.le_of_ble_eq_true rfl⟩ (by first | assumption | exact S1_at hx hS) dL_act_204 (o_price hx hG hS hV rfl) ?_
      rintro _ μ1 ⟨rfl, hS⟩
      refine px_iret dL_act_207 ?_
      subst hQ; rw [hf]; exact ⟨rfl, hS⟩
    · rw [if_neg hb] at hf
      refine px_aload_0 dL_act_182 ?_
      refine px_iload_4 dL_act_183 ?_
      refine px_iload_2 dL_act_185 ?_
      refine px_iconst (4) dL_act_186 rfl ?_
      refine px_ishr dL_act_187 ?_
      refine px_iload_3 dL_act_188 ?_
      refine px_if_eq (tgt := 198) dL_act_189 (by decide) (fun h189 => (by first | exact absurd h189 (hb) | exact absurd (hb) h189)) (fun h189 => ?_)
      refine px_sipush (180) dL_act_192 rfl ?_
      refine px_goto (tgt := 201) dL_act_195 (by decide) ?_
      refine cd_L_8 rfl ⟨⟨Nat.le_of_ble_eq_true rfl, Nat.le_of_ble_eq_true rfl⟩, Nat.le_of_ble_eq_true rfl, Nat.le_of_ble_eq_true rfl, Nat.le_of_ble_eq_true rfl⟩ dL_act_201 (s_L_low (by decide)) ?_
      refine cg_L_24 rfl ⟨⟨Nat.le_of_ble_eq_true rfl, Nat.le_of_ble_eq_true rfl⟩, Nat.le_of_ble_eq_true rfl, Nat.le_of_ble_eq_true rfl, Nat.le_of_ble_eq_true rfl⟩ (by first | assumption | exact S1_at hx hS) dL_act_204 (o_price hx hG hS hV rfl) ?_
      rintro _ μ1 ⟨rfl, hS⟩
      refine px_iret dL_act_207 ?_
      subst hQ; rw [hf]; exact ⟨rfl, hS⟩
  have C208 : ∀ (x2 b tw ca rd : Int32) (μ : px_M), px_S1 T R I0 x A μ → f_act A.1 v = f_guard A.1 rd (f_low (x2 >>> (6 &&& 31)) (if b = 0 then 44 else 8)) → (px_W l G yL_act cL_act 7 (some .int) (px_rm 7 0 0) (px_Fn G Q 0 0) 208 [some (.ref x), some (.int v), some (.int x2), some (.int b), some (.int tw), some (.int ca), some (.int rd)] [] 0 0 μ) := by
    intro x2 b tw ca rd μ hS hf
    by_cases hb : b = 0
    · rw [if_pos hb] at hf
      refine px_aload_0 dL_act_208 ?_
      refine px_iload_6 dL_act_209 ?_
      refine px_iload_2 dL_act_211 ?_
      refine px_bipush (6) dL_act_212 rfl ?_
      refine px_ishr dL_act_214 ?_
      refine px_iload_3 dL_act_215 ?_
      refine px_if_eq (tgt := 224) dL_act_216 (by decide) (fun h216 => ?_) (fun h216 => (by first | exact absurd (hb) h216 | exact absurd h216 (hb)))
      refine px_bipush (44) dL_act_224 rfl ?_
      refine cd_L_8 rfl ⟨⟨Nat.le_of_ble_eq_true rfl, Nat.le_of_ble_eq_true rfl⟩, Nat.le_of_ble_eq_true rfl, Nat.le_of_ble_eq_true rfl, Nat.le_of_ble_eq_true rfl⟩ dL_act_226 (s_L_low (by decide)) ?_
      refine cg_L_27 rfl ⟨⟨Nat.le_of_ble_eq_true rfl, Nat.le_of_ble_eq_true rfl⟩, Nat.le_of_ble_eq_true rfl, Nat.le_of_ble_eq_true rfl, Nat.le_of_ble_eq_true rfl⟩ (by first | assumption | exact S1_at hx hS) dL_act_229 (o_guard hx hG hS hV rfl) ?_
      rintro _ μ1 ⟨rfl, hS⟩
      refine px_iret dL_act_232 ?_
      subst hQ; rw [hf]; exact ⟨rfl, hS⟩
    · rw [if_neg hb] at hf
      refine px_aload_0 dL_act_208 ?_
      refine px_iload_6 dL_act_209 ?_
      refine px_iload_2 dL_act_211 ?_
      refine px_bipush (6) dL_act_212 rfl ?_
      refine px_ishr dL_act_214 ?_
      refine px_iload_3 dL_act_215 ?_
      refine px_if_eq (tgt := 224) dL_act_216 (by decide) (fun h216 => (by first | exact absurd h216 (hb) | exact absurd (hb) h216)) (fun h216 => ?_)
      refine px_bipush (8) dL_act_219 rfl ?_
      refine px_goto (tgt := 226) dL_act_221 (by decide) ?_
      refine cd_L_8 rfl ⟨⟨Nat.le_of_ble_eq_true rfl, Nat.le_of_ble_eq_true rfl⟩, Nat.le_of_ble_eq_true rfl, Nat.le_of_ble_eq_true rfl, Nat.le_of_ble_eq_true rfl⟩ dL_act_226 (s_L_low (by decide)) ?_
      refine cg_L_27 rfl ⟨⟨Nat.le_of_ble_eq_true rfl, Nat.le_of_ble_eq_true rfl⟩, Nat.le_of_ble_eq_true rfl, Nat.le_of_ble_eq_true rfl, Nat.le_of_ble_eq_true rfl⟩ (by first | assumption | exact S1_at hx hS) dL_act_229 (o_guard hx hG hS hV rfl) ?_
      rintro _ μ1 ⟨rfl, hS⟩
      refine px_iret dL_act_232 ?_
      subst hQ; rw [hf]; exact ⟨rfl, hS⟩
  have C233 : ∀ (x2 b tw ca rd : Int32) (μ : px_M), px_S1 T R I0 x A μ → f_act A.1 v = f_cart A.1 tw (f_low (x2 >>> (4 &&& 31)) (if b = 0 then 110000 else 30000)) → (px_W l G yL_act cL_act 7 (some .int) (px_rm 7 0 0) (px_Fn G Q 0 0) 233 [some (.ref x), some (.int v), some (.int x2), some (.int b), some (.int tw), some (.int ca), some (.int rd)] [] 0 0 μ) := by
    intro x2 b tw ca rd μ hS hf
    by_cases hb : b = 0
    · rw [if_pos hb] at hf
      refine px_aload_0 dL_act_233 ?_
      refine px_iload_4 dL_act_234 ?_
      refine px_iload_2 dL_act_236 ?_
      refine px_iconst (4) dL_act_237 rfl ?_
      refine px_ishr dL_act_238 ?_
      refine px_iload_3 dL_act_239 ?_
      refine px_if_eq (tgt := 249) dL_act_240 (by decide) (fun h240 => ?_) (fun h240 => (by first | exact absurd (hb) h240 | exact absurd h240 (hb)))
      refine px_ldc ck_L_30 dL_act_249 ?_
      refine cd_L_8 rfl ⟨⟨Nat.le_of_ble_eq_true rfl, Nat.le_of_ble_eq_true rfl⟩, Nat.le_of_ble_eq_true rfl, Nat.le_of_ble_eq_true rfl, Nat.le_of_ble_eq_true rfl⟩ dL_act_251 (s_L_low (by decide)) ?_
      refine cg_L_31 rfl ⟨⟨Nat.le_of_ble_eq_true rfl, Nat.le_of_ble_eq_true rfl⟩, Nat.le_of_ble_eq_true rfl, Nat.le_of_ble_eq_true rfl, Nat.le_of_ble_eq_true rfl⟩ (by first | assumption | exact S1_at hx hS) dL_act_254 (o_cart hx hG hS hV rfl) ?_
      rintro _ μ1 ⟨rfl, hS⟩
      refine px_iret dL_act_257 ?_
      subst hQ; rw [hf]; exact ⟨rfl, hS⟩
    · rw [if_neg hb] at hf
      refine px_aload_0 dL_act_233 ?_
      refine px_iload_4 dL_act_234 ?_
      refine px_iload_2 dL_act_236 ?_
      refine px_iconst (4) dL_act_237 rfl ?_
      refine px_ishr dL_act_238 ?_
      refine px_iload_3 dL_act_239 ?_
      refine px_if_eq (tgt := 249) dL_act_240 (by decide) (fun h240 => (by first | exact absurd h240 (hb) | exact absurd (hb) h240)) (fun h240 => ?_)
      refine px_sipush (30000) dL_act_243 rfl ?_
      refine px_goto (tgt := 251) dL_act_246 (by decide) ?_
      refine cd_L_8 rfl ⟨⟨Nat.le_of_ble_eq_true rfl, Nat.le_of_ble_eq_true rfl⟩, Nat.le_of_ble_eq_true rfl, Nat.le_of_ble_eq_true rfl, Nat.le_of_ble_eq_true rfl⟩ dL_act_251 (s_L_low (by decide)) ?_
      refine cg_L_31 rfl ⟨⟨Nat.le_of_ble_eq_true rfl, Nat.le_of_ble_eq_true rfl⟩, Nat.le_of_ble_eq_true rfl, Nat.le_of_ble_eq_true rfl, Nat.le_of_ble_eq_true rfl⟩ (by first | assumption | exact S1_at hx hS) dL_act_254 (o_cart hx hG hS hV rfl) ?_
      rintro _ μ1 ⟨rfl, hS⟩
      refine px_iret dL_act_257 ?_
      subst hQ; rw [hf]; exact ⟨rfl, hS⟩
  have C258 : ∀ (x2 b tw ca rd : Int32) (μ : px_M), px_S1 T R I0 x A μ → f_act A.1 v = f_buy A.1 ca (f_low (x2 >>> (5 &&& 31)) (if b = 0 then 105 else 12)) → (px_W l G yL_act cL_act 7 (some .int) (px_rm 7 0 0) (px_Fn G Q 0 0) 258 [some (.ref x), some (.int v), some (.int x2), some (.int b), some (.int tw), some (.int ca), some (.int rd)] [] 0 0 μ) := by
    intro x2 b tw ca rd μ hS hf
    by_cases hb : b = 0
    · rw [if_pos hb] at hf
      refine px_aload_0 dL_act_258 ?_
      refine px_iload_5 dL_act_259 ?_
      refine px_iload_2 dL_act_261 ?_
      refine px_iconst (5) dL_act_262 rfl ?_
      refine px_ishr dL_act_263 ?_
      refine px_iload_3 dL_act_264 ?_
      refine px_if_eq (tgt := 273) dL_act_265 (by decide) (fun h265 => ?_) (fun h265 => (by first | exact absurd (hb) h265 | exact absurd h265 (hb)))
      refine px_bipush (105) dL_act_273 rfl ?_
      refine cd_L_8 rfl ⟨⟨Nat.le_of_ble_eq_true rfl, Nat.le_of_ble_eq_true rfl⟩, Nat.le_of_ble_eq_true rfl, Nat.le_of_ble_eq_true rfl, Nat.le_of_ble_eq_true rfl⟩ dL_act_275 (s_L_low (by decide)) ?_
      refine cg_L_34 rfl ⟨⟨Nat.le_of_ble_eq_true rfl, Nat.le_of_ble_eq_true rfl⟩, Nat.le_of_ble_eq_true rfl, Nat.le_of_ble_eq_true rfl, Nat.le_of_ble_eq_true rfl⟩ (by first | assumption | exact S1_at hx hS) dL_act_278 (o_buy hx hG hS hV rfl) ?_
      rintro _ μ1 ⟨rfl, hS⟩
      refine px_iret dL_act_281 ?_
      subst hQ; rw [hf]; exact ⟨rfl, hS⟩
    · rw [if_neg hb] at hf
      refine px_aload_0 dL_act_258 ?_
      refine px_iload_5 dL_act_259 ?_
      refine px_iload_2 dL_act_261 ?_
      refine px_iconst (5) dL_act_262 rfl ?_
      refine px_ishr dL_act_263 ?_
      refine px_iload_3 dL_act_264 ?_
      refine px_if_eq (tgt := 273) dL_act_265 (by decide) (fun h265 => (by first | exact absurd h265 (hb) | exact absurd (hb) h265)) (fun h265 => ?_)
      refine px_bipush (12) dL_act_268 rfl ?_
      refine px_goto (tgt := 275) dL_act_270 (by decide) ?_
      refine cd_L_8 rfl ⟨⟨Nat.le_of_ble_eq_true rfl, Nat.le_of_ble_eq_true rfl⟩, Nat.le_of_ble_eq_true rfl, Nat.le_of_ble_eq_true rfl, Nat.le_of_ble_eq_true rfl⟩ dL_act_275 (s_L_low (by decide)) ?_
      refine cg_L_34 rfl ⟨⟨Nat.le_of_ble_eq_true rfl, Nat.le_of_ble_eq_true rfl⟩, Nat.le_of_ble_eq_true rfl, Nat.le_of_ble_eq_true rfl, Nat.le_of_ble_eq_true rfl⟩ (by first | assumption | exact S1_at hx hS) dL_act_278 (o_buy hx hG hS hV rfl) ?_
      rintro _ μ1 ⟨rfl, hS⟩
      refine px_iret dL_act_281 ?_
      subst hQ; rw [hf]; exact ⟨rfl, hS⟩
  have C282 : ∀ (x2 b tw ca rd : Int32) (μ : px_M), px_S1 T R I0 x A μ → f_act A.1 v = f_sell A.1 ca (f_low (x2 >>> (5 &&& 31)) (if b = 0 then 105 else 8)) → (px_W l G yL_act cL_act 7 (some .int) (px_rm 7 0 0) (px_Fn G Q 0 0) 282 [some (.ref x), some (.int v), some (.int x2), some (.int b), some (.int tw), some (.int ca), some (.int rd)] [] 0 0 μ) := by
    intro x2 b tw ca rd μ hS hf
    by_cases hb : b = 0
    · rw [if_pos hb] at hf
      refine px_aload_0 dL_act_282 ?_
      refine px_iload_5 dL_act_283 ?_
      refine px_iload_2 dL_act_285 ?_
      refine px_iconst (5) dL_act_286 rfl ?_
      refine px_ishr dL_act_287 ?_
      refine px_iload_3 dL_act_288 ?_
      refine px_if_eq (tgt := 297) dL_act_289 (by decide) (fun h289 => ?_) (fun h289 => (by first | exact absurd (hb) h289 | exact absurd h289 (hb)))
      refine px_bipush (105) dL_act_297 rfl ?_
      refine cd_L_8 rfl ⟨⟨Nat.le_of_ble_eq_true rfl, Nat.le_of_ble_eq_true rfl⟩, Nat.le_of_ble_eq_true rfl, Nat.le_of_ble_eq_true rfl, Nat.le_of_ble_eq_true rfl⟩ dL_act_299 (s_L_low (by decide)) ?_
      refine cg_L_37 rfl ⟨⟨Nat.le_of_ble_eq_true rfl, Nat.le_of_ble_eq_true rfl⟩, Nat.le_of_ble_eq_true rfl, Nat.le_of_ble_eq_true rfl, Nat.le_of_ble_eq_true rfl⟩ (by first | assumption | exact S1_at hx hS) dL_act_302 (o_sell hx hG hS hV rfl) ?_
      rintro _ μ1 ⟨rfl, hS⟩
      refine px_iret dL_act_305 ?_
      subst hQ; rw [hf]; exact ⟨rfl, hS⟩
    · rw [if_neg hb] at hf
      refine px_aload_0 dL_act_282 ?_
      refine px_iload_5 dL_act_283 ?_
      refine px_iload_2 dL_act_285 ?_
      refine px_iconst (5) dL_act_286 rfl ?_
      refine px_ishr dL_act_287 ?_
      refine px_iload_3 dL_act_288 ?_
      refine px_if_eq (tgt := 297) dL_act_289 (by decide) (fun h289 => (by first | exact absurd h289 (hb) | exact absurd (hb) h289)) (fun h289 => ?_)
      refine px_bipush (8) dL_act_292 rfl ?_
      refine px_goto (tgt := 299) dL_act_294 (by decide) ?_
      refine cd_L_8 rfl ⟨⟨Nat.le_of_ble_eq_true rfl, Nat.le_of_ble_eq_true rfl⟩, Nat.le_of_ble_eq_true rfl, Nat.le_of_ble_eq_true rfl, Nat.le_of_ble_eq_true rfl⟩ dL_act_299 (s_L_low (by decide)) ?_
      refine cg_L_37 rfl ⟨⟨Nat.le_of_ble_eq_true rfl, Nat.le_of_ble_eq_true rfl⟩, Nat.le_of_ble_eq_true rfl, Nat.le_of_ble_eq_true rfl, Nat.le_of_ble_eq_true rfl⟩ (by first | assumption | exact S1_at hx hS) dL_act_302 (o_sell hx hG hS hV rfl) ?_
      rintro _ μ1 ⟨rfl, hS⟩
      refine px_iret dL_act_305 ?_
      subst hQ; rw [hf]; exact ⟨rfl, hS⟩
  have C306 : ∀ (x2 b tw ca rd : Int32) (μ : px_M), px_S1 T R I0 x A μ → f_act A.1 v = f_go A.1 ca rd (f_low (x2 >>> (6 &&& 31)) (if b = 0 then 3 else 2)) → (px_W l G yL_act cL_act 7 (some .int) (px_rm 7 0 0) (px_Fn G Q 0 0) 306 [some (.ref x), some (.int v), some (.int x2), some (.int b), some (.int tw), some (.int ca), some (.int rd)] [] 0 0 μ) := by
    intro x2 b tw ca rd μ hS hf
    by_cases hb : b = 0
    · rw [if_pos hb] at hf
      refine px_aload_0 dL_act_306 ?_
      refine px_iload_5 dL_act_307 ?_
      refine px_iload_6 dL_act_309 ?_
      refine px_iload_2 dL_act_311 ?_
      refine px_bipush (6) dL_act_312 rfl ?_
      refine px_ishr dL_act_314 ?_
      refine px_iload_3 dL_act_315 ?_
      refine px_if_eq (tgt := 323) dL_act_316 (by decide) (fun h316 => ?_) (fun h316 => (by first | exact absurd (hb) h316 | exact absurd h316 (hb)))
      refine px_iconst (3) dL_act_323 rfl ?_
      refine cd_L_8 rfl ⟨⟨Nat.le_of_ble_eq_true rfl, Nat.le_of_ble_eq_true rfl⟩, Nat.le_of_ble_eq_true rfl, Nat.le_of_ble_eq_true rfl, Nat.le_of_ble_eq_true rfl⟩ dL_act_324 (s_L_low (by decide)) ?_
      refine cg_L_40 rfl ⟨⟨Nat.le_of_ble_eq_true rfl, Nat.le_of_ble_eq_true rfl⟩, Nat.le_of_ble_eq_true rfl, Nat.le_of_ble_eq_true rfl, Nat.le_of_ble_eq_true rfl⟩ (by first | assumption | exact S1_at hx hS) dL_act_327 (o_go hx hG hS hV rfl) ?_
      rintro _ μ1 ⟨rfl, hS⟩
      refine px_iret dL_act_330 ?_
      subst hQ; rw [hf]; exact ⟨rfl, hS⟩
    · rw [if_neg hb] at hf
      refine px_aload_0 dL_act_306 ?_
      refine px_iload_5 dL_act_307 ?_
      refine px_iload_6 dL_act_309 ?_
      refine px_iload_2 dL_act_311 ?_
      refine px_bipush (6) dL_act_312 rfl ?_
      refine px_ishr dL_act_314 ?_
      refine px_iload_3 dL_act_315 ?_
      refine px_if_eq (tgt := 323) dL_act_316 (by decide) (fun h316 => (by first | exact absurd h316 (hb) | exact absurd (hb) h316)) (fun h316 => ?_)
      refine px_iconst (2) dL_act_319 rfl ?_
      refine px_goto (tgt := 324) dL_act_320 (by decide) ?_
      refine cd_L_8 rfl ⟨⟨Nat.le_of_ble_eq_true rfl, Nat.le_of_ble_eq_true rfl⟩, Nat.le_of_ble_eq_true rfl, Nat.le_of_ble_eq_true rfl, Nat.le_of_ble_eq_true rfl⟩ dL_act_324 (s_L_low (by decide)) ?_
      refine cg_L_40 rfl ⟨⟨Nat.le_of_ble_eq_true rfl, Nat.le_of_ble_eq_true rfl⟩, Nat.le_of_ble_eq_true rfl, Nat.le_of_ble_eq_true rfl, Nat.le_of_ble_eq_true rfl⟩ (by first | assumption | exact S1_at hx hS) dL_act_327 (o_go hx hG hS hV rfl) ?_
      rintro _ μ1 ⟨rfl, hS⟩
      refine px_iret dL_act_330 ?_
      subst hQ; rw [hf]; exact ⟨rfl, hS⟩
  have C331 : ∀ (x2 b tw ca rd : Int32) (μ : px_M), px_S1 T R I0 x A μ → f_act A.1 v = f_set A.1 (f_low x2 5) (f_low (x2 >>> (4 &&& 31)) 45) → (px_W l G yL_act cL_act 7 (some .int) (px_rm 7 0 0) (px_Fn G Q 0 0) 331 [some (.ref x), some (.int v), some (.int x2), some (.int b), some (.int tw), some (.int ca), some (.int rd)] [] 0 0 μ) := by
    intro x2 b tw ca rd μ hS hf
    refine px_aload_0 dL_act_331 ?_
    refine px_iload_2 dL_act_332 ?_
    refine px_iconst (5) dL_act_333 rfl ?_
    refine cd_L_8 rfl ⟨⟨Nat.le_of_ble_eq_true rfl, Nat.le_of_ble_eq_true rfl⟩, Nat.le_of_ble_eq_true rfl, Nat.le_of_ble_eq_true rfl, Nat.le_of_ble_eq_true rfl⟩ dL_act_334 (s_L_low (by decide)) ?_
    refine px_iload_2 dL_act_337 ?_
    refine px_iconst (4) dL_act_338 rfl ?_
    refine px_ishr dL_act_339 ?_
    refine px_bipush (45) dL_act_340 rfl ?_
    refine cd_L_8 rfl ⟨⟨Nat.le_of_ble_eq_true rfl, Nat.le_of_ble_eq_true rfl⟩, Nat.le_of_ble_eq_true rfl, Nat.le_of_ble_eq_true rfl, Nat.le_of_ble_eq_true rfl⟩ dL_act_342 (s_L_low (by decide)) ?_
    refine cg_L_43 rfl ⟨⟨Nat.le_of_ble_eq_true rfl, Nat.le_of_ble_eq_true rfl⟩, Nat.le_of_ble_eq_true rfl, Nat.le_of_ble_eq_true rfl, Nat.le_of_ble_eq_true rfl⟩ (by first | assumption | exact S1_at hx hS) dL_act_345 (o_set hx hG hS hV rfl) ?_
    rintro _ μ1 ⟨rfl, hS⟩
    refine px_iret dL_act_348 ?_
    subst hQ; rw [hf]; exact ⟨rfl, hS⟩
  have C349 : ∀ (x2 b tw ca rd : Int32) (μ : px_M), px_S1 T R I0 x A μ → f_act A.1 v = f_toll A.1 rd (f_low (x2 >>> (6 &&& 31)) (if b = 0 then 220 else 40)) → (px_W l G yL_act cL_act 7 (some .int) (px_rm 7 0 0) (px_Fn G Q 0 0) 349 [some (.ref x), some (.int v), some (.int x2), some (.int b), some (.int tw), some (.int ca), some (.int rd)] [] 0 0 μ) := by
    intro x2 b tw ca rd μ hS hf
    by_cases hb : b = 0
    · rw [if_pos hb] at hf
      refine px_aload_0 dL_act_349 ?_
      refine px_iload_6 dL_act_350 ?_
      refine px_iload_2 dL_act_352 ?_
      refine px_bipush (6) dL_act_353 rfl ?_
      refine px_ishr dL_act_355 ?_
      refine px_iload_3 dL_act_356 ?_
      refine px_if_eq (tgt := 365) dL_act_357 (by decide) (fun h357 => ?_) (fun h357 => (by first | exact absurd (hb) h357 | exact absurd h357 (hb)))
      refine px_sipush (220) dL_act_365 rfl ?_
      refine cd_L_8 rfl ⟨⟨Nat.le_of_ble_eq_true rfl, Nat.le_of_ble_eq_true rfl⟩, Nat.le_of_ble_eq_true rfl, Nat.le_of_ble_eq_true rfl, Nat.le_of_ble_eq_true rfl⟩ dL_act_368 (s_L_low (by decide)) ?_
      refine cg_L_46 rfl ⟨⟨Nat.le_of_ble_eq_true rfl, Nat.le_of_ble_eq_true rfl⟩, Nat.le_of_ble_eq_true rfl, Nat.le_of_ble_eq_true rfl, Nat.le_of_ble_eq_true rfl⟩ (by first | assumption | exact S1_at hx hS) dL_act_371 (o_toll hx hG hS hV rfl) ?_
      rintro _ μ1 ⟨rfl, hS⟩
      refine px_iret dL_act_374 ?_
      subst hQ; rw [hf]; exact ⟨rfl, hS⟩
    · rw [if_neg hb] at hf
      refine px_aload_0 dL_act_349 ?_
      refine px_iload_6 dL_act_350 ?_
      refine px_iload_2 dL_act_352 ?_
      refine px_bipush (6) dL_act_353 rfl ?_
      refine px_ishr dL_act_355 ?_
      refine px_iload_3 dL_act_356 ?_
      refine px_if_eq (tgt := 365) dL_act_357 (by decide) (fun h357 => (by first | exact absurd h357 (hb) | exact absurd (hb) h357)) (fun h357 => ?_)
      refine px_bipush (40) dL_act_360 rfl ?_
      refine px_goto (tgt := 368) dL_act_362 (by decide) ?_
      refine cd_L_8 rfl ⟨⟨Nat.le_of_ble_eq_true rfl, Nat.le_of_ble_eq_true rfl⟩, Nat.le_of_ble_eq_true rfl, Nat.le_of_ble_eq_true rfl, Nat.le_of_ble_eq_true rfl⟩ dL_act_368 (s_L_low (by decide)) ?_
      refine cg_L_46 rfl ⟨⟨Nat.le_of_ble_eq_true rfl, Nat.le_of_ble_eq_true rfl⟩, Nat.le_of_ble_eq_true rfl, Nat.le_of_ble_eq_true rfl, Nat.le_of_ble_eq_true rfl⟩ (by first | assumption | exact S1_at hx hS) dL_act_371 (o_toll hx hG hS hV rfl) ?_
      rintro _ μ1 ⟨rfl, hS⟩
      refine px_iret dL_act_374 ?_
      subst hQ; rw [hf]; exact ⟨rfl, hS⟩
  have C375 : ∀ (x2 b tw ca rd : Int32) (μ : px_M), px_S1 T R I0 x A μ → f_act A.1 v = f_mkh A.1  → (px_W l G yL_act cL_act 7 (some .int) (px_rm 7 0 0) (px_Fn G Q 0 0) 375 [some (.ref x), some (.int v), some (.int x2), some (.int b), some (.int tw), some (.int ca), some (.int rd)] [] 0 0 μ) := by
    intro x2 b tw ca rd μ hS hf
    refine px_aload_0 dL_act_375 ?_
    refine cg_L_49 rfl ⟨⟨Nat.le_of_ble_eq_true rfl, Nat.le_of_ble_eq_true rfl⟩, Nat.le_of_ble_eq_true rfl, Nat.le_of_ble_eq_true rfl, Nat.le_of_ble_eq_true rfl⟩ (by first | assumption | exact S1_at hx hS) dL_act_376 (o_makeHonest hx hG hS hV rfl) ?_
    rintro _ μ1 ⟨rfl, hS⟩
    refine px_iret dL_act_379 ?_
    subst hQ; rw [hf]; exact ⟨rfl, hS⟩
  have L73 : ∀ (x2 b tw ca rd k : Int32) (μ : px_M), px_S1 T R I0 x A μ → f_act A.1 v = f_a3 A.1 x2 b tw ca rd k → (∃ j, j < 16 ∧ k = nI j) → (px_W l G yL_act cL_act 7 (some .int) (px_rm 7 0 0) (px_Fn G Q 0 0) 73 [some (.ref x), some (.int v), some (.int x2), some (.int b), some (.int tw), some (.int ca), some (.int rd)] [.int k] 0 0 μ) := by
    rintro x2 b tw ca rd k μ hS hf ⟨j, hj, rfl⟩
    unfold f_a3 at hf
    rcases (by omega : j = 0 ∨ j = 1 ∨ j = 2 ∨ j = 3 ∨ j = 4 ∨ j = 5 ∨ j = 6 ∨ j = 7 ∨ j = 8 ∨ j = 9 ∨ j = 10 ∨ j = 11 ∨ j = 12 ∨ j = 13 ∨ j = 14 ∨ j = 15) with rfl | rfl | rfl | rfl | rfl | rfl | rfl | rfl | rfl | rfl | rfl | rfl | rfl | rfl | rfl | rfl
    · rw [if_pos (by decide)] at hf
      refine px_tableIn (off := 75) (tgt := 148) dL_act_73 (by decide) (by decide) rfl (by decide) ?_
      exact C148 _ _ _ _ _ _ hS hf
    · rw [if_pos (by decide)] at hf
      refine px_tableIn (off := 75) (tgt := 148) dL_act_73 (by decide) (by decide) rfl (by decide) ?_
      exact C148 _ _ _ _ _ _ hS hf
    · rw [if_pos (by decide)] at hf
      refine px_tableIn (off := 75) (tgt := 148) dL_act_73 (by decide) (by decide) rfl (by decide) ?_
      exact C148 _ _ _ _ _ _ hS hf
    · rw [if_neg (by decide), if_pos (by decide)] at hf
      refine px_tableIn (off := 109) (tgt := 182) dL_act_73 (by decide) (by decide) rfl (by decide) ?_
      exact C182 _ _ _ _ _ _ hS hf
    · rw [if_neg (by decide), if_pos (by decide)] at hf
      refine px_tableIn (off := 109) (tgt := 182) dL_act_73 (by decide) (by decide) rfl (by decide) ?_
      exact C182 _ _ _ _ _ _ hS hf
    · rw [if_neg (by decide), if_neg (by decide), if_pos (by decide)] at hf
      refine px_tableIn (off := 135) (tgt := 208) dL_act_73 (by decide) (by decide) rfl (by decide) ?_
      exact C208 _ _ _ _ _ _ hS hf
    · rw [if_neg (by decide), if_neg (by decide), if_pos (by decide)] at hf
      refine px_tableIn (off := 135) (tgt := 208) dL_act_73 (by decide) (by decide) rfl (by decide) ?_
      exact C208 _ _ _ _ _ _ hS hf
    · rw [if_neg (by decide), if_neg (by decide), if_neg (by decide), if_pos (by decide)] at hf
      refine px_tableIn (off := 160) (tgt := 233) dL_act_73 (by decide) (by decide) rfl (by decide) ?_
      exact C233 _ _ _ _ _ _ hS hf
    · rw [if_neg (by decide), if_neg (by decide), if_neg (by decide), if_neg (by decide), if_pos (by decide)] at hf
      refine px_tableIn (off := 185) (tgt := 258) dL_act_73 (by decide) (by decide) rfl (by decide) ?_
      exact C258 _ _ _ _ _ _ hS hf
    · rw [if_neg (by decide), if_neg (by decide), if_neg (by decide), if_neg (by decide), if_pos (by decide)] at hf
      refine px_tableIn (off := 185) (tgt := 258) dL_act_73 (by decide) (by decide) rfl (by decide) ?_
      exact C258 _ _ _ _ _ _ hS hf
    · rw [if_neg (by decide), if_neg (by decide), if_neg (by decide), if_neg (by decide), if_neg (by decide), if_pos (by decide)] at hf
      refine px_tableIn (off := 209) (tgt := 282) dL_act_73 (by decide) (by decide) rfl (by decide) ?_
      exact C282 _ _ _ _ _ _ hS hf
    · rw [if_neg (by decide), if_neg (by decide), if_neg (by decide), if_neg (by decide), if_neg (by decide), if_neg (by decide), if_pos (by decide)] at hf
      refine px_tableIn (off := 233) (tgt := 306) dL_act_73 (by decide) (by decide) rfl (by decide) ?_
      exact C306 _ _ _ _ _ _ hS hf
    · rw [if_neg (by decide), if_neg (by decide), if_neg (by decide), if_neg (by decide), if_neg (by decide), if_neg (by decide), if_pos (by decide)] at hf
      refine px_tableIn (off := 233) (tgt := 306) dL_act_73 (by decide) (by decide) rfl (by decide) ?_
      exact C306 _ _ _ _ _ _ hS hf
    · rw [if_neg (by decide), if_neg (by decide), if_neg (by decide), if_neg (by decide), if_neg (by decide), if_neg (by decide), if_neg (by decide), if_pos (by decide)] at hf
      refine px_tableIn (off := 258) (tgt := 331) dL_act_73 (by decide) (by decide) rfl (by decide) ?_
      exact C331 _ _ _ _ _ _ hS hf
    · rw [if_neg (by decide), if_neg (by decide), if_neg (by decide), if_neg (by decide), if_neg (by decide), if_neg (by decide), if_neg (by decide), if_neg (by decide), if_pos (by decide)] at hf
      refine px_tableIn (off := 276) (tgt := 349) dL_act_73 (by decide) (by decide) rfl (by decide) ?_
      exact C349 _ _ _ _ _ _ hS hf
    · rw [if_neg (by decide), if_neg (by decide), if_neg (by decide), if_neg (by decide), if_neg (by decide), if_neg (by decide), if_neg (by decide), if_neg (by decide), if_neg (by decide)] at hf
      refine px_tableOut (tgt := 375) dL_act_73 (by decide) (by decide) ?_
      exact C375 _ _ _ _ _ _ hS hf
  have L21 : ∀ (b : Int32), b = (if f_low (v >>> (21 &&& 31)) 6 ≤ 0 then 0 else 1) → ∀ o3 o4 o5 o6, (px_W l G yL_act cL_act 7 (some .int) (px_rm 7 0 0) (px_Fn G Q 0 0) 21 [some (.ref x), some (.int v), some (.int (v >>> (4 &&& 31))), o3, o4, o5, o6] [.int b] 0 0 μ) := by
    intro b hbe o3 o4 o5 o6
    by_cases hb : b = 0
    · have hf : f_act A.1 v = f_a3 A.1 (v >>> (4 &&& 31)) b (f_low (v >>> (4 &&& 31)) 9) (f_low (v >>> (4 &&& 31)) (A.1 93 + 1)) (f_low ((v >>> (4 &&& 31)) >>> (3 &&& 31)) (A.1 8 + 1)) (f_low v 16) := by
        unfold f_act; rw [← hbe, if_pos hb]
      refine px_istore_3 dL_act_21 rfl ?_
      refine px_iload_2 dL_act_22 ?_
      refine px_iload_3 dL_act_23 ?_
      refine px_if_eq (tgt := 32) dL_act_24 (by decide) (fun h24 => ?_) (fun h24 => (by first | exact absurd (hb) h24 | exact absurd h24 (hb)))
      refine px_bipush (9) dL_act_32 rfl ?_
      refine cd_L_8 rfl ⟨⟨Nat.le_of_ble_eq_true rfl, Nat.le_of_ble_eq_true rfl⟩, Nat.le_of_ble_eq_true rfl, Nat.le_of_ble_eq_true rfl, Nat.le_of_ble_eq_true rfl⟩ dL_act_34 (s_L_low (by decide)) ?_
      refine px_istore_4 dL_act_37 rfl ?_
      refine px_iload_2 dL_act_39 ?_
      refine px_aload_0 dL_act_40 ?_
      refine px_iconst (1) dL_act_41 rfl ?_
      refine cg_L_14 rfl ⟨⟨Nat.le_of_ble_eq_true rfl, Nat.le_of_ble_eq_true rfl⟩, Nat.le_of_ble_eq_true rfl, Nat.le_of_ble_eq_true rfl, Nat.le_of_ble_eq_true rfl⟩ (by first | assumption | exact S1_at hx hS) dL_act_42 (o_count hx hG hS hV cnt_1) ?_
      rintro _ μ1 ⟨rfl, hS⟩
      refine px_iconst (1) dL_act_45 rfl ?_
      refine px_iadd dL_act_46 ?_
      refine cd_L_8 rfl ⟨⟨Nat.le_of_ble_eq_true rfl, Nat.le_of_ble_eq_true rfl⟩, Nat.le_of_ble_eq_true rfl, Nat.le_of_ble_eq_true rfl, Nat.le_of_ble_eq_true rfl⟩ dL_act_47 (s_L_low h93) ?_
      refine px_istore_5 dL_act_50 rfl ?_
      refine px_iload_2 dL_act_52 ?_
      refine px_iconst (3) dL_act_53 rfl ?_
      refine px_ishr dL_act_54 ?_
      refine px_aload_0 dL_act_55 ?_
      refine px_iconst (0) dL_act_56 rfl ?_
      refine cg_L_14 rfl ⟨⟨Nat.le_of_ble_eq_true rfl, Nat.le_of_ble_eq_true rfl⟩, Nat.le_of_ble_eq_true rfl, Nat.le_of_ble_eq_true rfl, Nat.le_of_ble_eq_true rfl⟩ (by first | assumption | exact S1_at hx hS) dL_act_57 (o_count hx hG hS hV cnt_0) ?_
      rintro _ μ2 ⟨rfl, hS⟩
      refine px_iconst (1) dL_act_60 rfl ?_
      refine px_iadd dL_act_61 ?_
      refine cd_L_8 rfl ⟨⟨Nat.le_of_ble_eq_true rfl, Nat.le_of_ble_eq_true rfl⟩, Nat.le_of_ble_eq_true rfl, Nat.le_of_ble_eq_true rfl, Nat.le_of_ble_eq_true rfl⟩ dL_act_62 (s_L_low h8) ?_
      refine px_istore_6 dL_act_65 rfl ?_
      refine px_iload_1 dL_act_67 ?_
      refine px_bipush (16) dL_act_68 rfl ?_
      refine cd_L_8 rfl ⟨⟨Nat.le_of_ble_eq_true rfl, Nat.le_of_ble_eq_true rfl⟩, Nat.le_of_ble_eq_true rfl, Nat.le_of_ble_eq_true rfl, Nat.le_of_ble_eq_true rfl⟩ dL_act_70 (s_L_low (by decide)) ?_
      exact L73 _ _ _ _ _ _ _ hS hf (low_lt v (by decide) (by decide))
    · have hf : f_act A.1 v = f_a3 A.1 (v >>> (4 &&& 31)) b (f_low (v >>> (4 &&& 31)) 8) (f_low (v >>> (4 &&& 31)) (A.1 93 + 1)) (f_low ((v >>> (4 &&& 31)) >>> (3 &&& 31)) (A.1 8 + 1)) (f_low v 16) := by
        unfold f_act; rw [← hbe, if_neg hb]
      refine px_istore_3 dL_act_21 rfl ?_
      refine px_iload_2 dL_act_22 ?_
      refine px_iload_3 dL_act_23 ?_
      refine px_if_eq (tgt := 32) dL_act_24 (by decide) (fun h24 => (by first | exact absurd h24 (hb) | exact absurd (hb) h24)) (fun h24 => ?_)
      refine px_bipush (8) dL_act_27 rfl ?_
      refine px_goto (tgt := 34) dL_act_29 (by decide) ?_
      refine cd_L_8 rfl ⟨⟨Nat.le_of_ble_eq_true rfl, Nat.le_of_ble_eq_true rfl⟩, Nat.le_of_ble_eq_true rfl, Nat.le_of_ble_eq_true rfl, Nat.le_of_ble_eq_true rfl⟩ dL_act_34 (s_L_low (by decide)) ?_
      refine px_istore_4 dL_act_37 rfl ?_
      refine px_iload_2 dL_act_39 ?_
      refine px_aload_0 dL_act_40 ?_
      refine px_iconst (1) dL_act_41 rfl ?_
      refine cg_L_14 rfl ⟨⟨Nat.le_of_ble_eq_true rfl, Nat.le_of_ble_eq_true rfl⟩, Nat.le_of_ble_eq_true rfl, Nat.le_of_ble_eq_true rfl, Nat.le_of_ble_eq_true rfl⟩ (by first | assumption | exact S1_at hx hS) dL_act_42 (o_count hx hG hS hV cnt_1) ?_
      rintro _ μ1 ⟨rfl, hS⟩
      refine px_iconst (1) dL_act_45 rfl ?_
      refine px_iadd dL_act_46 ?_
      refine cd_L_8 rfl ⟨⟨Nat.le_of_ble_eq_true rfl, Nat.le_of_ble_eq_true rfl⟩, Nat.le_of_ble_eq_true rfl, Nat.le_of_ble_eq_true rfl, Nat.le_of_ble_eq_true rfl⟩ dL_act_47 (s_L_low h93) ?_
      refine px_istore_5 dL_act_50 rfl ?_
      refine px_iload_2 dL_act_52 ?_
      refine px_iconst (3) dL_act_53 rfl ?_
      refine px_ishr dL_act_54 ?_
      refine px_aload_0 dL_act_55 ?_
      refine px_iconst (0) dL_act_56 rfl ?_
      refine cg_L_14 rfl ⟨⟨Nat.le_of_ble_eq_true rfl, Nat.le_of_ble_eq_true rfl⟩, Nat.le_of_ble_eq_true rfl, Nat.le_of_ble_eq_true rfl, Nat.le_of_ble_eq_true rfl⟩ (by first | assumption | exact S1_at hx hS) dL_act_57 (o_count hx hG hS hV cnt_0) ?_
      rintro _ μ2 ⟨rfl, hS⟩
      refine px_iconst (1) dL_act_60 rfl ?_
      refine px_iadd dL_act_61 ?_
      refine cd_L_8 rfl ⟨⟨Nat.le_of_ble_eq_true rfl, Nat.le_of_ble_eq_true rfl⟩, Nat.le_of_ble_eq_true rfl, Nat.le_of_ble_eq_true rfl, Nat.le_of_ble_eq_true rfl⟩ dL_act_62 (s_L_low h8) ?_
      refine px_istore_6 dL_act_65 rfl ?_
      refine px_iload_1 dL_act_67 ?_
      refine px_bipush (16) dL_act_68 rfl ?_
      refine cd_L_8 rfl ⟨⟨Nat.le_of_ble_eq_true rfl, Nat.le_of_ble_eq_true rfl⟩, Nat.le_of_ble_eq_true rfl, Nat.le_of_ble_eq_true rfl, Nat.le_of_ble_eq_true rfl⟩ dL_act_70 (s_L_low (by decide)) ?_
      exact L73 _ _ _ _ _ _ _ hS hf (low_lt v (by decide) (by decide))
  by_cases hz : f_low (v >>> (21 &&& 31)) 6 ≤ 0
  · skip
    refine px_iload_1 dL_act_0 ?_
    refine px_iconst (4) dL_act_1 rfl ?_
    refine px_ishr dL_act_2 ?_
    refine px_istore_2 dL_act_3 rfl ?_
    refine px_iload_1 dL_act_4 ?_
    refine px_bipush (21) dL_act_5 rfl ?_
    refine px_ishr dL_act_7 ?_
    refine px_bipush (6) dL_act_8 rfl ?_
    refine cd_L_8 rfl ⟨⟨Nat.le_of_ble_eq_true rfl, Nat.le_of_ble_eq_true rfl⟩, Nat.le_of_ble_eq_true rfl, Nat.le_of_ble_eq_true rfl, Nat.le_of_ble_eq_true rfl⟩ dL_act_10 (s_L_low (by decide)) ?_
    refine px_if_le (tgt := 20) dL_act_13 (by decide) (fun h13 => ?_) (fun h13 => (by first | exact absurd (hz) h13 | exact absurd h13 (hz)))
    refine px_iconst (0) dL_act_20 rfl ?_
    exact L21 0 (by rw [if_pos hz]) _ _ _ _
  · skip
    refine px_iload_1 dL_act_0 ?_
    refine px_iconst (4) dL_act_1 rfl ?_
    refine px_ishr dL_act_2 ?_
    refine px_istore_2 dL_act_3 rfl ?_
    refine px_iload_1 dL_act_4 ?_
    refine px_bipush (21) dL_act_5 rfl ?_
    refine px_ishr dL_act_7 ?_
    refine px_bipush (6) dL_act_8 rfl ?_
    refine cd_L_8 rfl ⟨⟨Nat.le_of_ble_eq_true rfl, Nat.le_of_ble_eq_true rfl⟩, Nat.le_of_ble_eq_true rfl, Nat.le_of_ble_eq_true rfl, Nat.le_of_ble_eq_true rfl⟩ dL_act_10 (s_L_low (by decide)) ?_
    refine px_if_le (tgt := 20) dL_act_13 (by decide) (fun h13 => (by first | exact absurd h13 (hz) | exact absurd (hz) h13)) (fun h13 => ?_)
    refine px_iconst (1) dL_act_16 rfl ?_
    refine px_goto (tgt := 21) dL_act_17 (by decide) ?_
    exact L21 1 (by rw [if_neg hz]) _ _ _ _
end LSM

