/-! the law's walk -/
section LAW
variable {l : Launch} {G : px_G} {T : px_T} {I I' : px_I} {J : px_J} {R : px_R} {μ : px_M} {x y b L : Nat} {xs : Nat → Int32} {σ : px_s} {A B : px_a} {nm : String} {Fn : List Frame → Array Value → State → State → Prop}
theorem co_ke {T' : px_T} {J' : px_J} {R' : px_R} {lo hi : Nat} (h : px_co G T R x) (hk : px_ke lo hi (T, I, J, R) (T', I', J', R')) (h1 : lo ≤ x) (h2 : x + 275 ≤ hi) : px_co G T' R' x := by
  obtain ⟨⟨g0, g1⟩, e1, e2, ⟨e3, e4⟩, e5, e6, e7, e8, e9, e10⟩ := h
  refine ⟨⟨at_ke g0 hk (by omega) (by omega), ?_⟩, wo_ke e1 hk (by omega) (by omega), hs_ke e2 hk (by omega) (by omega), ⟨at_ke e3 hk (by omega) (by omega), fun s hs => ⟨?_, wo_ke (e4 s hs).2 hk (by omega) (by omega)⟩⟩, at_ke e5 hk (by omega) (by omega), pa_ke e6 hk (by omega) (by omega), re_ke e7 hk (by omega) (by omega), rt_ke e8 hk (by omega) (by omega), rt_ke e9 hk (by omega) (by omega), at_ke e10 hk (by omega) (by omega)⟩
  · rw [ke_Ra hk (by omega) (by omega)]; exact g1
  · rw [ke_Ra hk (by omega) (by omega)]; exact (e4 s hs).1
theorem two_xh {lv : Nat} {M : px_D} {As : List Value} {w : Value} (hd : x + 275 ≤ y) (hS : px_S2 T R x y A B μ) (hVB : px_AV B) (h : ∀ I0, px_S1 T R I0 x A μ → px_C l G lv 0 0 M As μ (fun v μ' => v = some w ∧ ∃ A' : px_a, A'.1 = A.1 ∧ px_AV A' ∧ px_S1 T R I0 x A' μ')) : px_C l G lv 0 0 M As μ (fun v μ' => v = some w ∧ ∃ A' : px_a, A'.1 = A.1 ∧ px_AV A' ∧ px_S2 T R x y A' B μ') := by
  obtain ⟨I, J, rfl, hc, hb⟩ := hS
  refine px_C_mono (h I ⟨I, J, rfl, hc, fun _ _ => rfl⟩) ?_
  rintro v μ' ⟨rfl, A', a1, a2, I', J', rfl, hc', hf⟩
  exact ⟨rfl, A', a1, a2, I', J', rfl, hc', CI_out hb hVB (fun a a1 a2 => hf a (by omega))⟩
theorem chg_1 (hV : px_VV A.1) {v : Int32} : (a_chg A (f_act A.1 v)).1 = (f_act A.1 v).2 := by
  unfold a_chg
  split
  · rename_i h; exact (act_e hV h).symm
  · rfl
theorem chg_V (hV : px_AV A) (hU : px_U A.1) {v : Int32} : px_AV (a_chg A (f_act A.1 v)) := AV_chg hV (act_U hU).1
theorem kn_le (hS : px_S2 T R x y A B μ) : A.2.1.1 ≤ 6 := by
  obtain ⟨I, J, -, hc, -⟩ := hS
  obtain ⟨o, -, -, -, h6, -⟩ := hc.2.1
  exact h6
theorem bit_c (z : Int32) : z = 0 ∨ ¬ z = 0 := Classical.em _
theorem lw_186 (hx : px_co G T R x) (hy : px_co G T R y) (hG : px_tabs G) (hd : x + 275 ≤ y) {e : Nat} (he : e < 46) (K : ∀ (A B : px_a) (μ : px_M) (o4 o5 o6 o7 : Option Value), px_S2 T R x y A B μ → px_AV A → px_AV B → A.1 = B.1 → px_U A.1 → px_W l G (⟨RL, nm, ""⟩ : MethodName) cL_law 8 (some .boolean) room_1 Fn 243 [some (.ref b), some (.ref x), some (.ref y), some (.int (nI e)), o4, o5, o6, o7] [] 550 3992 μ) {v : Int32} (hS : px_S2 T R x y A B μ) (hVA : px_AV A) (hVB : px_AV B) (h : A.1 = B.1) (hU : px_U A.1) {o5 o6 o7 : Option Value} : px_W l G (⟨RL, nm, ""⟩ : MethodName) cL_law 8 (some .boolean) room_1 Fn 186 [some (.ref b), some (.ref x), some (.ref y), some (.int (nI e)), some (.int v), o5, o6, o7] [] 550 3992 μ := by
  obtain ⟨t, ht, et⟩ : ∃ t, t < 8 ∧ f_low (v >>> (5 &&& 31)) 8 = nI t := low_lt _ (by decide) (by decide)
  obtain ⟨t2, ht2, et2⟩ : ∃ t, t < 8 ∧ f_low (v >>> (7 &&& 31)) 8 = nI t := low_lt _ (by decide) (by decide)
  by_cases h3 : nI e - nI e / 4 * 4 = 3
  · skip
    refine px_iload_3 dL_law_186 ?_
    refine px_iconst (4) dL_law_187 rfl ?_
    refine px_irem dL_law_188 (by decide) ?_
    refine px_iconst (3) dL_law_189 rfl ?_
    refine px_icmp_ne (tgt := 243) dL_law_190 (by decide) (fun h190 => (by first | exact absurd h190 (h3) | exact absurd (h3) h190)) (fun h190 => ?_)
    refine px_aload_1 dL_law_193 ?_
    refine cg_L_100 rfl ⟨⟨Nat.le_of_ble_eq_true rfl, Nat.le_of_ble_eq_true rfl⟩, Nat.le_of_ble_eq_true rfl, Nat.le_of_ble_eq_true rfl, Nat.le_of_ble_eq_true rfl⟩ dL_law_194 (two_x hd hS hVB (fun I0 h => s_L_areSums hx hG h hVA hU)) ?_
    rintro _ μ1 ⟨rfl, hS⟩
    refine px_ifb_eq (tgt := 241) dL_law_197 (by decide) (fun h197 => (by first | exact absurd h197 (trivial) | exact absurd (trivial) h197)) (fun h197 => ?_)
    refine px_aload_1 dL_law_200 ?_
    refine px_iload_4 dL_law_201 ?_
    refine px_iconst (5) dL_law_203 rfl ?_
    refine px_ishr dL_law_204 ?_
    refine px_bipush (8) dL_law_205 rfl ?_
    refine cd_L_8 rfl ⟨⟨Nat.le_of_ble_eq_true rfl, Nat.le_of_ble_eq_true rfl⟩, Nat.le_of_ble_eq_true rfl, Nat.le_of_ble_eq_true rfl, Nat.le_of_ble_eq_true rfl⟩ dL_law_207 (s_L_low (by decide)) ?_
    rw [et]
    refine cg_L_104 rfl ⟨⟨Nat.le_of_ble_eq_true rfl, Nat.le_of_ble_eq_true rfl⟩, Nat.le_of_ble_eq_true rfl, Nat.le_of_ble_eq_true rfl, Nat.le_of_ble_eq_true rfl⟩ dL_law_210 (two_x hd hS hVB (fun I0 h => s_L_isWorthSo ht hx hG h hVA)) ?_
    rintro _ μ1 ⟨rfl, hS⟩
    refine px_ifb_eq (tgt := 241) dL_law_213 (by decide) (fun h213 => (by first | exact absurd h213 (trivial) | exact absurd (trivial) h213)) (fun h213 => ?_)
    refine px_aload_1 dL_law_216 ?_
    refine px_iload_4 dL_law_217 ?_
    refine px_bipush (7) dL_law_219 rfl ?_
    refine px_ishr dL_law_221 ?_
    refine px_bipush (8) dL_law_222 rfl ?_
    refine cd_L_8 rfl ⟨⟨Nat.le_of_ble_eq_true rfl, Nat.le_of_ble_eq_true rfl⟩, Nat.le_of_ble_eq_true rfl, Nat.le_of_ble_eq_true rfl, Nat.le_of_ble_eq_true rfl⟩ dL_law_224 (s_L_low (by decide)) ?_
    rw [et2]
    refine cg_L_108 rfl ⟨⟨Nat.le_of_ble_eq_true rfl, Nat.le_of_ble_eq_true rfl⟩, Nat.le_of_ble_eq_true rfl, Nat.le_of_ble_eq_true rfl, Nat.le_of_ble_eq_true rfl⟩ dL_law_227 (two_xh hd hS hVB (fun I0 h => s_L_isHonestSo ht2 hx hG h hVA)) ?_
    rintro _ μ1 ⟨rfl, A', a1, hVA', hS⟩
    refine px_ifb_eq (tgt := 241) dL_law_230 (by decide) (fun h230 => (by first | exact absurd h230 (trivial) | exact absurd (trivial) h230)) (fun h230 => ?_)
    refine px_aload_1 dL_law_233 ?_
    refine px_aload_2 dL_law_234 ?_
    refine cg_L_96 rfl ⟨⟨Nat.le_of_ble_eq_true rfl, Nat.le_of_ble_eq_true rfl⟩, Nat.le_of_ble_eq_true rfl, Nat.le_of_ble_eq_true rfl, Nat.le_of_ble_eq_true rfl⟩ dL_law_235 (s_L_areAlike hx hy hG hd hS hVA' hVB (a1.trans h)) ?_
    rintro _ μ1 ⟨rfl, hS⟩
    refine px_ifb_ne (tgt := 243) dL_law_238 (by decide) (fun h238 => ?_) (fun h238 => (by first | exact absurd (trivial) h238 | exact absurd h238 (trivial)))
    exact K A' B _ _ _ _ _ hS hVA' hVB (a1.trans h) (by rw [a1]; exact hU)
  · skip
    refine px_iload_3 dL_law_186 ?_
    refine px_iconst (4) dL_law_187 rfl ?_
    refine px_irem dL_law_188 (by decide) ?_
    refine px_iconst (3) dL_law_189 rfl ?_
    refine px_icmp_ne (tgt := 243) dL_law_190 (by decide) (fun h190 => ?_) (fun h190 => (by first | exact absurd (h3) h190 | exact absurd h190 (h3)))
    exact K A B _ _ _ _ _ hS hVA hVB h hU
theorem lw_165 (hx : px_co G T R x) (hy : px_co G T R y) (hG : px_tabs G) (hd : x + 275 ≤ y) {e : Nat} (he : e < 46) (K : ∀ (A B : px_a) (μ : px_M) (o4 o5 o6 o7 : Option Value), px_S2 T R x y A B μ → px_AV A → px_AV B → A.1 = B.1 → px_U A.1 → px_W l G (⟨RL, nm, ""⟩ : MethodName) cL_law 8 (some .boolean) room_1 Fn 243 [some (.ref b), some (.ref x), some (.ref y), some (.int (nI e)), o4, o5, o6, o7] [] 550 3992 μ) {v : Int32} (hS : px_S2 T R x y A B μ) (hVA : px_AV A) (hVB : px_AV B) (hU : px_U B.1) (h : A.1 = (f_act B.1 v).2) {o5 o7 : Option Value} : px_W l G (⟨RL, nm, ""⟩ : MethodName) cL_law 8 (some .boolean) room_1 Fn 165 [some (.ref b), some (.ref x), some (.ref y), some (.int (nI e)), some (.int v), o5, some (.int (f_act B.1 v).1), o7] [] 550 3992 μ := by
  have e1 := chg_1 hVB.1 (v := v)
  have v1 := chg_V hVB hU (v := v)
  refine px_aload_2 dL_law_165 ?_
  refine px_iload_4 dL_law_166 ?_
  refine cg_L_92 rfl ⟨⟨Nat.le_of_ble_eq_true rfl, Nat.le_of_ble_eq_true rfl⟩, Nat.le_of_ble_eq_true rfl, Nat.le_of_ble_eq_true rfl, Nat.le_of_ble_eq_true rfl⟩ dL_law_168 (two_y hd hS hVA (fun I0 h => s_L_act hy hG h hVB)) ?_
  rintro _ μ1 ⟨rfl, hS⟩
  refine px_iload_6 dL_law_171 ?_
  refine px_icmp_ne (tgt := 184) dL_law_173 (by decide) (fun h173 => (by first | exact absurd h173 ((rfl)) | exact absurd ((rfl)) h173)) (fun h173 => ?_)
  refine px_aload_1 dL_law_176 ?_
  refine px_aload_2 dL_law_177 ?_
  refine cg_L_96 rfl ⟨⟨Nat.le_of_ble_eq_true rfl, Nat.le_of_ble_eq_true rfl⟩, Nat.le_of_ble_eq_true rfl, Nat.le_of_ble_eq_true rfl, Nat.le_of_ble_eq_true rfl⟩ dL_law_178 (s_L_areAlike hx hy hG hd hS hVA v1 (h.trans e1.symm)) ?_
  rintro _ μ1 ⟨rfl, hS⟩
  refine px_ifb_ne (tgt := 186) dL_law_181 (by decide) (fun h181 => ?_) (fun h181 => (by first | exact absurd (trivial) h181 | exact absurd h181 (trivial)))
  exact lw_186 hx hy hG hd he K hS hVA v1 (h.trans e1.symm) (by rw [h]; exact act_U hU)
theorem lw_61 (hx : px_co G T R x) (hy : px_co G T R y) (hG : px_tabs G) (hd : x + 275 ≤ y) {e : Nat} (he : e < 46) (K : ∀ (A B : px_a) (μ : px_M) (o4 o5 o6 o7 : Option Value), px_S2 T R x y A B μ → px_AV A → px_AV B → A.1 = B.1 → px_U A.1 → px_W l G (⟨RL, nm, ""⟩ : MethodName) cL_law 8 (some .boolean) room_1 Fn 243 [some (.ref b), some (.ref x), some (.ref y), some (.int (nI e)), o4, o5, o6, o7] [] 550 3992 μ) (v : Int32) (hS : px_S2 T R x y A B μ) (hVA : px_AV A) (hVB : px_AV B) (hU : px_U A.1) (h : A.1 = B.1) {o4 o5 o6 o7 : Option Value} : px_W l G (⟨RL, nm, ""⟩ : MethodName) cL_law 8 (some .boolean) room_1 Fn 61 [some (.ref b), some (.ref x), some (.ref y), some (.int (nI e)), o4, o5, o6, o7] [.int v] 550 3992 μ := by
  have e1 := chg_1 hVA.1 (v := v)
  have v1 := chg_V hVA hU (v := v)
  have hUB : px_U B.1 := by rw [← h]; exact hU
  have k6 := kn_le hS
  by_cases hq : (f_act A.1 v).1 < 0
  · have ec : a_chg A (f_act A.1 v) = A := by unfold a_chg; rw [if_pos hq]
    have hA2 : A.1 = (f_act B.1 v).2 := by rw [← h]; exact (act_e hVA.1 hq).symm
    have hq' : ¬ 0 ≤ (f_act A.1 v).1 := nle_of_lt hq
    refine px_istore_4 dL_law_61 rfl ?_
    refine px_aload_1 dL_law_63 ?_
    refine px_bipush (17) dL_law_64 rfl ?_
    refine cg_L_14 rfl ⟨⟨Nat.le_of_ble_eq_true rfl, Nat.le_of_ble_eq_true rfl⟩, Nat.le_of_ble_eq_true rfl, Nat.le_of_ble_eq_true rfl, Nat.le_of_ble_eq_true rfl⟩ (by first | assumption | exact S2_x hx hS | exact S2_y hy hS) dL_law_66 (two_x hd hS hVB (fun I0 h => o_count hx hG h hVA cnt_17)) ?_
    rintro _ μ1 ⟨rfl, hS⟩
    refine px_istore_5 dL_law_69 rfl ?_
    refine px_aload_1 dL_law_71 ?_
    refine px_iload_4 dL_law_72 ?_
    refine cg_L_92 rfl ⟨⟨Nat.le_of_ble_eq_true rfl, Nat.le_of_ble_eq_true rfl⟩, Nat.le_of_ble_eq_true rfl, Nat.le_of_ble_eq_true rfl, Nat.le_of_ble_eq_true rfl⟩ dL_law_74 (two_x hd hS hVB (fun I0 h => s_L_act hx hG h hVA)) ?_
    rintro _ μ1 ⟨rfl, hS⟩; rw [ec] at hS
    refine px_istore_6 dL_law_77 rfl ?_
    refine px_iload_6 dL_law_79 ?_
    refine px_if_ge (tgt := 105) dL_law_81 (by decide) (fun h81 => (by first | exact absurd h81 (hq') | exact absurd (hq') h81)) (fun h81 => ?_)
    refine px_aload_1 dL_law_84 ?_
    refine px_aload_2 dL_law_85 ?_
    refine cg_L_96 rfl ⟨⟨Nat.le_of_ble_eq_true rfl, Nat.le_of_ble_eq_true rfl⟩, Nat.le_of_ble_eq_true rfl, Nat.le_of_ble_eq_true rfl, Nat.le_of_ble_eq_true rfl⟩ dL_law_86 (s_L_areAlike hx hy hG hd hS hVA hVB h) ?_
    rintro _ μ1 ⟨rfl, hS⟩
    refine px_ifb_eq (tgt := 103) dL_law_89 (by decide) (fun h89 => (by first | exact absurd h89 (trivial) | exact absurd (trivial) h89)) (fun h89 => ?_)
    refine px_aload_1 dL_law_92 ?_
    refine px_bipush (17) dL_law_93 rfl ?_
    refine cg_L_14 rfl ⟨⟨Nat.le_of_ble_eq_true rfl, Nat.le_of_ble_eq_true rfl⟩, Nat.le_of_ble_eq_true rfl, Nat.le_of_ble_eq_true rfl, Nat.le_of_ble_eq_true rfl⟩ (by first | assumption | exact S2_x hx hS | exact S2_y hy hS) dL_law_95 (two_x hd hS hVB (fun I0 h => o_count hx hG h hVA cnt_17)) ?_
    rintro _ μ1 ⟨rfl, hS⟩
    refine px_iload_5 dL_law_98 ?_
    refine px_icmp_eq (tgt := 105) dL_law_100 (by decide) (fun h100 => ?_) (fun h100 => (by first | exact absurd ((rfl)) h100 | exact absurd h100 ((rfl))))
    refine px_iload_6 dL_law_105 ?_
    refine px_if_lt (tgt := 165) dL_law_107 (by decide) (fun h107 => ?_) (fun h107 => (by first | exact absurd (hq) h107 | exact absurd h107 (hq)))
    rw [h]; exact lw_165 hx hy hG hd he K hS hVA hVB hUB hA2
  · have hge : 0 ≤ (f_act A.1 v).1 := Int32.not_lt.mp hq
    have hA2 : (a_chg A (f_act A.1 v)).1 = (f_act B.1 v).2 := by rw [← h]; exact e1
    by_cases hb : (v >>> (9 &&& 31)) &&& 1 = 0
    · obtain ⟨A', a1, hVA', a3, hu⟩ := o_undo2 (l := l) hx hVA hq (act_U hU).1
      have h' : A'.1 = B.1 := a1.trans h
      have hU' : px_U A'.1 := by rw [a1]; exact hU
      have e2 : (a_chg A' (f_act A'.1 v)).1 = (f_act B.1 v).2 := by rw [← h']; exact chg_1 hVA'.1
      have v2 := chg_V hVA' hU' (v := v)
      have e3 : (f_act A'.1 v).1 = (f_act A.1 v).1 := by rw [a1]
      by_cases z : A.2.1.1 = 6
      · rw [if_pos z] at hu
        refine px_istore_4 dL_law_61 rfl ?_
        refine px_aload_1 dL_law_63 ?_
        refine px_bipush (17) dL_law_64 rfl ?_
        refine cg_L_14 rfl ⟨⟨Nat.le_of_ble_eq_true rfl, Nat.le_of_ble_eq_true rfl⟩, Nat.le_of_ble_eq_true rfl, Nat.le_of_ble_eq_true rfl, Nat.le_of_ble_eq_true rfl⟩ (by first | assumption | exact S2_x hx hS | exact S2_y hy hS) dL_law_66 (two_x hd hS hVB (fun I0 h => o_count hx hG h hVA (cnt_17.trans (congrArg nI z)))) ?_
        rintro _ μ1 ⟨rfl, hS⟩
        refine px_istore_5 dL_law_69 rfl ?_
        refine px_aload_1 dL_law_71 ?_
        refine px_iload_4 dL_law_72 ?_
        refine cg_L_92 rfl ⟨⟨Nat.le_of_ble_eq_true rfl, Nat.le_of_ble_eq_true rfl⟩, Nat.le_of_ble_eq_true rfl, Nat.le_of_ble_eq_true rfl, Nat.le_of_ble_eq_true rfl⟩ dL_law_74 (two_x hd hS hVB (fun I0 h => s_L_act hx hG h hVA)) ?_
        rintro _ μ1 ⟨rfl, hS⟩
        refine px_istore_6 dL_law_77 rfl ?_
        refine px_iload_6 dL_law_79 ?_
        refine px_if_ge (tgt := 105) dL_law_81 (by decide) (fun h81 => ?_) (fun h81 => (by first | exact absurd (hge) h81 | exact absurd h81 (hge)))
        refine px_iload_6 dL_law_105 ?_
        refine px_if_lt (tgt := 165) dL_law_107 (by decide) (fun h107 => (by first | exact absurd h107 (hq) | exact absurd (hq) h107)) (fun h107 => ?_)
        refine px_iload_4 dL_law_110 ?_
        refine px_bipush (9) dL_law_112 rfl ?_
        refine px_ishr dL_law_114 ?_
        refine px_iconst (1) dL_law_115 rfl ?_
        refine px_iand dL_law_116 ?_
        refine px_if_ne (tgt := 165) dL_law_117 (by decide) (fun h117 => (by first | exact absurd h117 (hb) | exact absurd (hb) h117)) (fun h117 => ?_)
        refine px_aload_1 dL_law_120 ?_
        refine cg_L_84 rfl ⟨⟨Nat.le_of_ble_eq_true rfl, Nat.le_of_ble_eq_true rfl⟩, Nat.le_of_ble_eq_true rfl, Nat.le_of_ble_eq_true rfl, Nat.le_of_ble_eq_true rfl⟩ (by first | assumption | exact S2_x hx hS | exact S2_y hy hS) dL_law_121 (two_x hd hS hVB (fun I0 h => hu _ I0 h)) ?_
        rintro _ μ1 ⟨rfl, hS⟩
        refine px_istore_7 dL_law_124 rfl ?_
        refine px_iload_7 dL_law_126 ?_
        refine px_iload_5 dL_law_128 ?_
        refine px_bipush (6) dL_law_130 rfl ?_
        refine px_icmp_ne (tgt := 139) dL_law_132 (by decide) (fun h132 => (by first | exact absurd h132 ((rfl)) | exact absurd ((rfl)) h132)) (fun h132 => ?_)
        refine px_iconst (5) dL_law_135 rfl ?_
        refine px_goto (tgt := 141) dL_law_136 (by decide) ?_
        refine px_icmp_ne (tgt := 163) dL_law_141 (by decide) (fun h141 => (by first | exact absurd h141 ((rfl)) | exact absurd ((rfl)) h141)) (fun h141 => ?_)
        refine px_aload_1 dL_law_144 ?_
        refine px_aload_2 dL_law_145 ?_
        refine cg_L_96 rfl ⟨⟨Nat.le_of_ble_eq_true rfl, Nat.le_of_ble_eq_true rfl⟩, Nat.le_of_ble_eq_true rfl, Nat.le_of_ble_eq_true rfl, Nat.le_of_ble_eq_true rfl⟩ dL_law_146 (s_L_areAlike hx hy hG hd hS hVA' hVB h') ?_
        rintro _ μ1 ⟨rfl, hS⟩
        refine px_ifb_eq (tgt := 163) dL_law_149 (by decide) (fun h149 => (by first | exact absurd h149 (trivial) | exact absurd (trivial) h149)) (fun h149 => ?_)
        refine px_aload_1 dL_law_152 ?_
        refine px_iload_4 dL_law_153 ?_
        refine cg_L_92 rfl ⟨⟨Nat.le_of_ble_eq_true rfl, Nat.le_of_ble_eq_true rfl⟩, Nat.le_of_ble_eq_true rfl, Nat.le_of_ble_eq_true rfl, Nat.le_of_ble_eq_true rfl⟩ dL_law_155 (two_x hd hS hVB (fun I0 h => s_L_act hx hG h hVA')) ?_
        rintro _ μ1 ⟨rfl, hS⟩
        refine px_iload_6 dL_law_158 ?_
        refine px_icmp_eq (tgt := 165) dL_law_160 (by decide) (fun h160 => ?_) (fun h160 => (by first | exact absurd (e3) h160 | exact absurd h160 (e3)))
        rw [h]; exact lw_165 hx hy hG hd he K hS v2 hVB hUB e2
      · rw [if_neg z] at hu
        have z6 : ¬ nI A.2.1.1 = 6 := fun q => z ((nI_eq (b := 6) (by omega) (by decide)).mp q)
        refine px_istore_4 dL_law_61 rfl ?_
        refine px_aload_1 dL_law_63 ?_
        refine px_bipush (17) dL_law_64 rfl ?_
        refine cg_L_14 rfl ⟨⟨Nat.le_of_ble_eq_true rfl, Nat.le_of_ble_eq_true rfl⟩, Nat.le_of_ble_eq_true rfl, Nat.le_of_ble_eq_true rfl, Nat.le_of_ble_eq_true rfl⟩ (by first | assumption | exact S2_x hx hS | exact S2_y hy hS) dL_law_66 (two_x hd hS hVB (fun I0 h => o_count hx hG h hVA cnt_17)) ?_
        rintro _ μ1 ⟨rfl, hS⟩
        refine px_istore_5 dL_law_69 rfl ?_
        refine px_aload_1 dL_law_71 ?_
        refine px_iload_4 dL_law_72 ?_
        refine cg_L_92 rfl ⟨⟨Nat.le_of_ble_eq_true rfl, Nat.le_of_ble_eq_true rfl⟩, Nat.le_of_ble_eq_true rfl, Nat.le_of_ble_eq_true rfl, Nat.le_of_ble_eq_true rfl⟩ dL_law_74 (two_x hd hS hVB (fun I0 h => s_L_act hx hG h hVA)) ?_
        rintro _ μ1 ⟨rfl, hS⟩
        refine px_istore_6 dL_law_77 rfl ?_
        refine px_iload_6 dL_law_79 ?_
        refine px_if_ge (tgt := 105) dL_law_81 (by decide) (fun h81 => ?_) (fun h81 => (by first | exact absurd (hge) h81 | exact absurd h81 (hge)))
        refine px_iload_6 dL_law_105 ?_
        refine px_if_lt (tgt := 165) dL_law_107 (by decide) (fun h107 => (by first | exact absurd h107 (hq) | exact absurd (hq) h107)) (fun h107 => ?_)
        refine px_iload_4 dL_law_110 ?_
        refine px_bipush (9) dL_law_112 rfl ?_
        refine px_ishr dL_law_114 ?_
        refine px_iconst (1) dL_law_115 rfl ?_
        refine px_iand dL_law_116 ?_
        refine px_if_ne (tgt := 165) dL_law_117 (by decide) (fun h117 => (by first | exact absurd h117 (hb) | exact absurd (hb) h117)) (fun h117 => ?_)
        refine px_aload_1 dL_law_120 ?_
        refine cg_L_84 rfl ⟨⟨Nat.le_of_ble_eq_true rfl, Nat.le_of_ble_eq_true rfl⟩, Nat.le_of_ble_eq_true rfl, Nat.le_of_ble_eq_true rfl, Nat.le_of_ble_eq_true rfl⟩ (by first | assumption | exact S2_x hx hS | exact S2_y hy hS) dL_law_121 (two_x hd hS hVB (fun I0 h => hu _ I0 h)) ?_
        rintro _ μ1 ⟨rfl, hS⟩
        refine px_istore_7 dL_law_124 rfl ?_
        refine px_iload_7 dL_law_126 ?_
        refine px_iload_5 dL_law_128 ?_
        refine px_bipush (6) dL_law_130 rfl ?_
        refine px_icmp_ne (tgt := 139) dL_law_132 (by decide) (fun h132 => ?_) (fun h132 => (by first | exact absurd (z6) h132 | exact absurd h132 (z6)))
        refine px_iload_5 dL_law_139 ?_
        refine px_icmp_ne (tgt := 163) dL_law_141 (by decide) (fun h141 => (by first | exact absurd h141 ((rfl)) | exact absurd ((rfl)) h141)) (fun h141 => ?_)
        refine px_aload_1 dL_law_144 ?_
        refine px_aload_2 dL_law_145 ?_
        refine cg_L_96 rfl ⟨⟨Nat.le_of_ble_eq_true rfl, Nat.le_of_ble_eq_true rfl⟩, Nat.le_of_ble_eq_true rfl, Nat.le_of_ble_eq_true rfl, Nat.le_of_ble_eq_true rfl⟩ dL_law_146 (s_L_areAlike hx hy hG hd hS hVA' hVB h') ?_
        rintro _ μ1 ⟨rfl, hS⟩
        refine px_ifb_eq (tgt := 163) dL_law_149 (by decide) (fun h149 => (by first | exact absurd h149 (trivial) | exact absurd (trivial) h149)) (fun h149 => ?_)
        refine px_aload_1 dL_law_152 ?_
        refine px_iload_4 dL_law_153 ?_
        refine cg_L_92 rfl ⟨⟨Nat.le_of_ble_eq_true rfl, Nat.le_of_ble_eq_true rfl⟩, Nat.le_of_ble_eq_true rfl, Nat.le_of_ble_eq_true rfl, Nat.le_of_ble_eq_true rfl⟩ dL_law_155 (two_x hd hS hVB (fun I0 h => s_L_act hx hG h hVA')) ?_
        rintro _ μ1 ⟨rfl, hS⟩
        refine px_iload_6 dL_law_158 ?_
        refine px_icmp_eq (tgt := 165) dL_law_160 (by decide) (fun h160 => ?_) (fun h160 => (by first | exact absurd (e3) h160 | exact absurd h160 (e3)))
        rw [h]; exact lw_165 hx hy hG hd he K hS v2 hVB hUB e2
    · skip
      refine px_istore_4 dL_law_61 rfl ?_
      refine px_aload_1 dL_law_63 ?_
      refine px_bipush (17) dL_law_64 rfl ?_
      refine cg_L_14 rfl ⟨⟨Nat.le_of_ble_eq_true rfl, Nat.le_of_ble_eq_true rfl⟩, Nat.le_of_ble_eq_true rfl, Nat.le_of_ble_eq_true rfl, Nat.le_of_ble_eq_true rfl⟩ (by first | assumption | exact S2_x hx hS | exact S2_y hy hS) dL_law_66 (two_x hd hS hVB (fun I0 h => o_count hx hG h hVA cnt_17)) ?_
      rintro _ μ1 ⟨rfl, hS⟩
      refine px_istore_5 dL_law_69 rfl ?_
      refine px_aload_1 dL_law_71 ?_
      refine px_iload_4 dL_law_72 ?_
      refine cg_L_92 rfl ⟨⟨Nat.le_of_ble_eq_true rfl, Nat.le_of_ble_eq_true rfl⟩, Nat.le_of_ble_eq_true rfl, Nat.le_of_ble_eq_true rfl, Nat.le_of_ble_eq_true rfl⟩ dL_law_74 (two_x hd hS hVB (fun I0 h => s_L_act hx hG h hVA)) ?_
      rintro _ μ1 ⟨rfl, hS⟩
      refine px_istore_6 dL_law_77 rfl ?_
      refine px_iload_6 dL_law_79 ?_
      refine px_if_ge (tgt := 105) dL_law_81 (by decide) (fun h81 => ?_) (fun h81 => (by first | exact absurd (hge) h81 | exact absurd h81 (hge)))
      refine px_iload_6 dL_law_105 ?_
      refine px_if_lt (tgt := 165) dL_law_107 (by decide) (fun h107 => (by first | exact absurd h107 (hq) | exact absurd (hq) h107)) (fun h107 => ?_)
      refine px_iload_4 dL_law_110 ?_
      refine px_bipush (9) dL_law_112 rfl ?_
      refine px_ishr dL_law_114 ?_
      refine px_iconst (1) dL_law_115 rfl ?_
      refine px_iand dL_law_116 ?_
      refine px_if_ne (tgt := 165) dL_law_117 (by decide) (fun h117 => ?_) (fun h117 => (by first | exact absurd (hb) h117 | exact absurd h117 (hb)))
      rw [h]; exact lw_165 hx hy hG hd he K hS v1 hVB hUB hA2
theorem lw_loop (hx : px_co G T R x) (hy : px_co G T R y) (hG : px_tabs G) (hd : x + 275 ≤ y) (hs : G.2.2.2.2.1[0]? = some (b, L, xs)) (hL : L ≤ 260) (hend : ∀ (ls : List (Option Value)) (k n : Nat) (μ : px_M), k ≤ 606743 → n ≤ 7282019 → px_W l G (⟨RL, nm, ""⟩ : MethodName) cL_law 8 (some .boolean) room_1 Fn 253 ls [.int 1] k n μ) : ∀ (n e : Nat), e + n = 46 → ∀ (A B : px_a) (μ : px_M) (o4 o5 o6 o7 : Option Value), px_S2 T R x y A B μ → px_AV A → px_AV B → A.1 = B.1 → px_U A.1 → px_W l G (⟨RL, nm, ""⟩ : MethodName) cL_law 8 (some .boolean) room_1 Fn 18 [some (.ref b), some (.ref x), some (.ref y), some (.int (nI e)), o4, o5, o6, o7] [] 550 3992 μ := by
  intro n
  induction n with
  | zero =>
    intro e hn A B μ o4 o5 o6 o7 hS hVA hVB h hU
    obtain rfl : e = 46 := by omega
    refine px_iload_3 dL_law_18 ?_
    refine px_bipush (46) dL_law_19 rfl ?_
    refine px_icmp_ge (tgt := 249) dL_law_21 (by decide) (fun h21 => ?_) (fun h21 => (by first | exact absurd ((nI_le (a := 46) (b := 46) (by omega) (by omega))) h21 | exact absurd h21 ((nI_le (a := 46) (b := 46) (by omega) (by omega)))))
    refine px_aload_1 dL_law_249 ?_
    refine cg_L_100 rfl ⟨⟨Nat.le_of_ble_eq_true rfl, Nat.le_of_ble_eq_true rfl⟩, Nat.le_of_ble_eq_true rfl, Nat.le_of_ble_eq_true rfl, Nat.le_of_ble_eq_true rfl⟩ dL_law_250 (two_x hd hS hVB (fun I0 h => s_L_areSums hx hG h hVA hU)) ?_
    rintro _ μ1 ⟨rfl, hS⟩
    exact hend _ _ _ _ (Nat.le_of_ble_eq_true rfl) (Nat.le_of_ble_eq_true rfl)
  | succ n ih =>
    intro e hn A B μ o4 o5 o6 o7 hS hVA hVB h hU
    have he : e < 46 := by omega
    have hge : ¬ (46 : Int32) ≤ nI e := nI_ge (a := e) (b := 46) (by omega) (by omega)
    have K : ∀ (A B : px_a) (μ : px_M) (o4 o5 o6 o7 : Option Value), px_S2 T R x y A B μ → px_AV A → px_AV B → A.1 = B.1 → px_U A.1 → px_W l G (⟨RL, nm, ""⟩ : MethodName) cL_law 8 (some .boolean) room_1 Fn 243 [some (.ref b), some (.ref x), some (.ref y), some (.int (nI e)), o4, o5, o6, o7] [] 550 3992 μ := by
      intro A B μ o4 o5 o6 o7 hS hVA hVB h hU
      refine px_iinc_3 dL_law_243 rfl ?_
      refine px_goto (tgt := 18) dL_law_246 (by decide) ?_
      rw [inc_nI]; exact ih (e + 1) (by omega) A B _ _ _ _ _ hS hVA hVB h hU
    by_cases h3 : e < 3
    · have g3 : ¬ (3 : Int32) ≤ nI e := nI_ge (a := e) (b := 3) (by omega) (by omega)
      refine px_iload_3 dL_law_18 ?_
      refine px_bipush (46) dL_law_19 rfl ?_
      refine px_icmp_ge (tgt := 249) dL_law_21 (by decide) (fun h21 => (by first | exact absurd h21 (hge) | exact absurd (hge) h21)) (fun h21 => ?_)
      refine px_iload_3 dL_law_24 ?_
      refine px_iconst (3) dL_law_25 rfl ?_
      refine px_icmp_ge (tgt := 40) dL_law_26 (by decide) (fun h26 => (by first | exact absurd h26 (g3) | exact absurd (g3) h26)) (fun h26 => ?_)
      refine px_aload_0 dL_law_29 ?_
      refine px_iload_3 dL_law_30 ?_
      refine cg_L_88 rfl ⟨⟨Nat.le_of_ble_eq_true rfl, Nat.le_of_ble_eq_true rfl⟩, Nat.le_of_ble_eq_true rfl, Nat.le_of_ble_eq_true rfl, Nat.le_of_ble_eq_true rfl⟩ dL_law_31 (s_L_cell hs hL (by omega)) ?_
      rintro _ _ ⟨⟨z, rfl⟩, rfl⟩
      refine px_bipush (-16) dL_law_34 rfl ?_
      refine px_iand dL_law_36 ?_
      refine px_goto (tgt := 61) dL_law_37 (by decide) ?_
      exact lw_61 hx hy hG hd he K _ hS hVA hVB hU h
    · have g3 : (3 : Int32) ≤ nI e := nI_le (a := 3) (b := e) (by omega) (by omega)
      by_cases h5 : e < 5
      · have g5 : ¬ (5 : Int32) ≤ nI e := nI_ge (a := e) (b := 5) (by omega) (by omega)
        refine px_iload_3 dL_law_18 ?_
        refine px_bipush (46) dL_law_19 rfl ?_
        refine px_icmp_ge (tgt := 249) dL_law_21 (by decide) (fun h21 => (by first | exact absurd h21 (hge) | exact absurd (hge) h21)) (fun h21 => ?_)
        refine px_iload_3 dL_law_24 ?_
        refine px_iconst (3) dL_law_25 rfl ?_
        refine px_icmp_ge (tgt := 40) dL_law_26 (by decide) (fun h26 => ?_) (fun h26 => (by first | exact absurd (g3) h26 | exact absurd h26 (g3)))
        refine px_iload_3 dL_law_40 ?_
        refine px_iconst (5) dL_law_41 rfl ?_
        refine px_icmp_ge (tgt := 56) dL_law_42 (by decide) (fun h42 => (by first | exact absurd h42 (g5) | exact absurd (g5) h42)) (fun h42 => ?_)
        refine px_aload_0 dL_law_45 ?_
        refine px_iload_3 dL_law_46 ?_
        refine cg_L_88 rfl ⟨⟨Nat.le_of_ble_eq_true rfl, Nat.le_of_ble_eq_true rfl⟩, Nat.le_of_ble_eq_true rfl, Nat.le_of_ble_eq_true rfl, Nat.le_of_ble_eq_true rfl⟩ dL_law_47 (s_L_cell hs hL (by omega)) ?_
        rintro _ _ ⟨⟨z, rfl⟩, rfl⟩
        refine px_bipush (7) dL_law_50 rfl ?_
        refine px_ior dL_law_52 ?_
        refine px_goto (tgt := 61) dL_law_53 (by decide) ?_
        exact lw_61 hx hy hG hd he K _ hS hVA hVB hU h
      · have g5 : (5 : Int32) ≤ nI e := nI_le (a := 5) (b := e) (by omega) (by omega)
        refine px_iload_3 dL_law_18 ?_
        refine px_bipush (46) dL_law_19 rfl ?_
        refine px_icmp_ge (tgt := 249) dL_law_21 (by decide) (fun h21 => (by first | exact absurd h21 (hge) | exact absurd (hge) h21)) (fun h21 => ?_)
        refine px_iload_3 dL_law_24 ?_
        refine px_iconst (3) dL_law_25 rfl ?_
        refine px_icmp_ge (tgt := 40) dL_law_26 (by decide) (fun h26 => ?_) (fun h26 => (by first | exact absurd (g3) h26 | exact absurd h26 (g3)))
        refine px_iload_3 dL_law_40 ?_
        refine px_iconst (5) dL_law_41 rfl ?_
        refine px_icmp_ge (tgt := 56) dL_law_42 (by decide) (fun h42 => ?_) (fun h42 => (by first | exact absurd (g5) h42 | exact absurd h42 (g5)))
        refine px_aload_0 dL_law_56 ?_
        refine px_iload_3 dL_law_57 ?_
        refine cg_L_88 rfl ⟨⟨Nat.le_of_ble_eq_true rfl, Nat.le_of_ble_eq_true rfl⟩, Nat.le_of_ble_eq_true rfl, Nat.le_of_ble_eq_true rfl, Nat.le_of_ble_eq_true rfl⟩ dL_law_58 (s_L_cell hs hL (by omega)) ?_
        rintro _ _ ⟨⟨z, rfl⟩, rfl⟩
        exact lw_61 hx hy hG hd he K _ hS hVA hVB hU h
theorem lw_all (hG : px_tabs G) (hG0 : px_tab0 G) (hs : G.2.2.2.2.1[0]? = some (b, L, xs)) (hL : L ≤ 260) (hend : ∀ (ls : List (Option Value)) (k n : Nat) (μ : px_M), k ≤ 606743 → n ≤ 7282019 → px_W l G (⟨RL, nm, ""⟩ : MethodName) cL_law 8 (some .boolean) room_1 Fn 253 ls [.int 1] k n μ) (h0 : T.1 = 0) : px_W l G (⟨RL, nm, ""⟩ : MethodName) cL_law 8 (some .boolean) room_1 Fn 0 [some (.ref b), none, none, none, none, none, none, none] [] 0 0 (T, I, J, R) := by
  generalize hxx : px_h G = x
  refine nw_L_15 (w := x) rfl (by (try dsimp only [px_nx, px_ty1, px_mm]); omega) (by refine ⟨?_, ?_⟩ <;> first | (dsimp only [px_rm]; omega) | exact Nat.le_of_ble_eq_true rfl) dL_law_0 ?_
  refine nx_go (w := x) (by dsimp only; omega) ?_; rintro T1 I1 J1 R1 c1 k1 a1 z1 y1; dsimp only at c1
  refine px_dup dL_law_3 rfl ?_
  refine cg_L_87 rfl ⟨⟨Nat.le_of_ble_eq_true rfl, Nat.le_of_ble_eq_true rfl⟩, by first | (dsimp only [px_rm]; omega) | exact Nat.le_of_ble_eq_true rfl, by first | (dsimp only [px_rm]; omega) | exact Nat.le_of_ble_eq_true rfl, Nat.le_of_ble_eq_true rfl⟩ dL_law_4 (s_X7_init hG0 (by omega) a1) ?_
  rintro v μ' ⟨rfl, T2, I2, J2, R2, rfl, c2, k2, hx, hC⟩; dsimp only at c2 hx hC
  refine px_astore_1 dL_law_7 rfl ?_
  refine nw_L_15 (w := x + 275) rfl (by (try dsimp only [px_nx, px_ty1, px_mm]); omega) (by refine ⟨?_, ?_⟩ <;> first | (dsimp only [px_rm]; omega) | exact Nat.le_of_ble_eq_true rfl) dL_law_8 ?_
  refine nx_go (w := x + 275) (by dsimp only; omega) ?_; rintro T3 I3 J3 R3 c3 k3 a3 z3 y3; dsimp only at c3
  refine px_dup dL_law_11 rfl ?_
  refine cg_L_87 rfl ⟨⟨Nat.le_of_ble_eq_true rfl, Nat.le_of_ble_eq_true rfl⟩, by first | (dsimp only [px_rm]; omega) | exact Nat.le_of_ble_eq_true rfl, by first | (dsimp only [px_rm]; omega) | exact Nat.le_of_ble_eq_true rfl, Nat.le_of_ble_eq_true rfl⟩ dL_law_12 (s_X7_init (x := x + 275) hG0 (by omega) a3) ?_
  rintro v μ' ⟨rfl, T4, I4, J4, R4, rfl, c4, k4, hy, hC2⟩; dsimp only at c4 hy hC2
  refine px_astore_2 dL_law_15 rfl ?_
  refine px_iconst (0) dL_law_16 rfl ?_
  refine px_istore_3 dL_law_17 rfl ?_
  skip
  have kk : px_ke 0 (x + 275) (T2, I2, J2, R2) (T4, I4, J4, R4) := ke_tr k3 k4
  exact lw_loop (co_ke hx kk (by omega) (by omega)) hy hG (Nat.le_refl _) hs hL hend 46 0 rfl a_A0 a_A0 _ _ _ _ _ ⟨I4, J4, rfl, CI_out hC A0_AV (fun a a1 a2 => ke_Ia kk (by omega) (by omega)), hC2⟩ A0_AV A0_AV rfl s0_U
end LAW

