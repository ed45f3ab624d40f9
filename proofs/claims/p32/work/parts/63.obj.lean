/-! the methods of one object: what they answer, that its state is told by px_S1, and that nothing else changes -/
section OBJ
variable {l : Launch} {G : px_G} {T : px_T} {I I' I0 : px_I} {J : px_J} {R : px_R} {μ : px_M} {x : Nat} {σ : px_s} {A : px_a}
theorem px_C_mono {lv mc ms : Nat} {M : px_D} {As : List Value} {Q Q' : Option Value → px_M → Prop} (h : px_C l G lv mc ms M As μ Q) (hq : ∀ v μ', Q v μ' → Q' v μ') : px_C l G lv mc ms M As μ Q' := by
  intro p e a1 a2 a3 s m args below b1 b2 b3 b4
  obtain ⟨n, o, c1, c2, c3, c4⟩ := h p e a1 a2 a3 s m args below b1 b2 b3 b4
  obtain ⟨⟨⟨v, μ', d1, d2, d3⟩, d4⟩, d5⟩ := c4
  exact ⟨n, o, c1, c2, c3, ⟨⟨v, μ', d1, hq v μ' d2, d3⟩, d4⟩, d5⟩
theorem CI_out (h : px_CI I x A) (hV : px_AV A) (g : ∀ a, x ≤ a → a < x + 275 → I' a = I a) : px_CI I' x A :=
  ⟨ag_congr h.1 hV.1.1 (fun a a1 a2 => g a (by omega) (by omega)), ch_congr h.2.1 hV.2.1 (fun a a1 a2 => g a (by omega) (by omega)), C0_congr h.2.2 hV (fun a a1 a2 => g a (by omega) (by omega))⟩
theorem AV_push (hV : px_AV A) (h : px_VV σ) {y : ((Nat → Bool) × (Nat → px_s)) × (Nat × (Nat → Int32))} (hy : y.1 = A.2.2.1) : px_AV (σ, h_push A.2.1.1 A.2.1.2 A.1, y) := by
  obtain ⟨v1, v2, v3⟩ := hV
  refine ⟨h, fun i hi => ?_, fun s hs hk => ?_⟩
  · dsimp only at hi ⊢
    unfold h_push at hi ⊢
    split at hi
    · rename_i z
      rw [if_pos z]
      dsimp only at hi ⊢
      split
      · exact v2 _ (by omega)
      · exact v1
    · rename_i z
      rw [if_neg z]
      dsimp only at hi ⊢
      split
      · rename_i z2
        exact v2 _ z2
      · exact v1
  · dsimp only at hk ⊢
    rw [hy] at hk ⊢
    exact v3 s hs hk
theorem AV_chg (hV : px_AV A) {q : Int32 × px_s} (h : px_VV q.2) : px_AV (a_chg A q) := by
  unfold a_chg
  split
  · exact hV
  · exact AV_push hV h rfl
/-- the object at x holds A; what is no part of it is as in I0 -/
def px_S1 (T : px_T) (R : px_R) (I0 : px_I) (x : Nat) (A : px_a) (μ : px_M) : Prop := ∃ (I : px_I) (J : px_J), μ = (T, I, J, R) ∧ px_CI I x A ∧ ∀ a, (a < x ∨ x + 275 ≤ a) → I a = I0 a
/-- an answer w, and then A -/
def px_QA (T : px_T) (R : px_R) (I0 : px_I) (x : Nat) (w : Value) (A : px_a) : Option Value → px_M → Prop := fun v μ' => v = some w ∧ px_S1 T R I0 x A μ'
theorem S1_at (hx : px_co G T R x) (hS : px_S1 T R I0 x A μ) : px_at G μ.1 x 7 0 := by
  obtain ⟨I, J, rfl, -⟩ := hS
  exact co_a hx
theorem QA_Qx {w : Value} {A' : px_a} {v : Option Value} {μ' : px_M} (f : ∀ a, (a < x ∨ x + 275 ≤ a) → I a = I0 a) (q : px_Qx T I J R x w A' v μ') : px_QA T R I0 x w A' v μ' := by
  obtain ⟨e, I', J', rfl, hc, hf, -⟩ := q
  exact ⟨e, I', J', rfl, hc, fun a ha => (hf a ha).trans (f a ha)⟩
theorem cnt_0 : f_cnt A 0 = A.1 8 := rfl
theorem cnt_1 : f_cnt A 1 = A.1 93 := rfl
theorem cnt_2 : f_cnt A 2 = f_gs A.1 := rfl
theorem cnt_3 : f_cnt A 3 = f_cs A.1 2 := rfl
theorem cnt_4 : f_cnt A 4 = A.1 147 := rfl
theorem cnt_5 : f_cnt A 5 = A.1 148 := rfl
theorem cnt_6 : f_cnt A 6 = A.1 149 := rfl
theorem cnt_7 : f_cnt A 7 = f_ah A.1 (f_nr A.1) := rfl
theorem cnt_8 : f_cnt A 8 = f_pt A.1 8 := rfl
theorem cnt_9 : f_cnt A 9 = f_cs A.1 1 := rfl
theorem cnt_10 : f_cnt A 10 = A.1 150 := rfl
theorem cnt_11 : f_cnt A 11 = A.1 146 := rfl
theorem cnt_12 : f_cnt A 12 = A.1 142 := rfl
theorem cnt_13 : f_cnt A 13 = A.1 143 := rfl
theorem cnt_14 : f_cnt A 14 = A.1 144 := rfl
theorem cnt_15 : f_cnt A 15 = A.1 145 := rfl
theorem cnt_17 : f_cnt A 17 = nI A.2.1.1 := rfl
theorem tw_rg {t : Nat} (ht : t < 8) : rg (nI t) 0 7 := by rw [rg_ti, nI_ti (by omega), show (0 : Int32).toInt = 0 from rfl, show (7 : Int32).toInt = 7 from rfl]; omega
theorem oc_v (hV : px_V σ) {c j : Nat} (hc : c < f_nc σ) (hj : j < 8) : f_oc σ (nI c) (nI j) = σ (94 + 8 * c + j) := by
  have h6 := hV.1.2.2.2
  rw [f_oc, if_neg (fun q => q (by rw [hV.1.2.2.1]; exact rg_nI hc (by omega))), if_pos (tw_rg hj), ix_nI (by omega), ix_nI (by omega)]
theorem or_in (hV : px_V σ) {r : Nat} (hr : r < f_nr σ) : ¬ ¬ rg (nI r) 0 (σ 8 - 1) := fun q => q (by have := hV.1.2.1; rw [hV.1.1]; exact rg_nI hr (by omega))

theorem or_0 (hV : px_V σ) {r : Nat} (hr : r < f_nr σ) : f_or σ (nI r) 0 = σ (9 + 6 * r + 0) := by
  have h14 := hV.1.2.1
  rw [f_or, if_neg (or_in hV hr), ix_nI (by omega)]
  rfl
theorem or_1 (hV : px_V σ) {r : Nat} (hr : r < f_nr σ) : f_or σ (nI r) 1 = σ (9 + 6 * r + 1) := by
  have h14 := hV.1.2.1
  rw [f_or, if_neg (or_in hV hr), ix_nI (by omega)]
  rfl
theorem or_2 (hV : px_V σ) {r : Nat} (hr : r < f_nr σ) : f_or σ (nI r) 2 = σ (9 + 6 * r + 2) := by
  have h14 := hV.1.2.1
  rw [f_or, if_neg (or_in hV hr), ix_nI (by omega)]
  rfl
theorem or_3 (hV : px_V σ) {r : Nat} (hr : r < f_nr σ) : f_or σ (nI r) 3 = σ (9 + 6 * r + 3) := by
  have h14 := hV.1.2.1
  rw [f_or, if_neg (or_in hV hr), ix_nI (by omega)]
  rfl
theorem or_4 (hV : px_V σ) {r : Nat} (hr : r < f_nr σ) : f_or σ (nI r) 4 = f_cr σ r := by
  have h14 := hV.1.2.1
  rw [f_or, if_neg (or_in hV hr), ix_nI (by omega)]
  rfl
theorem or_5 (hV : px_V σ) {r : Nat} (hr : r < f_nr σ) : f_or σ (nI r) 5 = f_hb σ r 0 := by
  have h14 := hV.1.2.1
  rw [f_or, if_neg (or_in hV hr), ix_nI (by omega)]
  rfl
theorem or_6 (hV : px_V σ) {r : Nat} (hr : r < f_nr σ) : f_or σ (nI r) 6 = f_hb σ r 1 := by
  have h14 := hV.1.2.1
  rw [f_or, if_neg (or_in hV hr), ix_nI (by omega)]
  rfl
theorem ot_0 {t : Nat} (ht : t < 8) : f_ot σ (nI t) 0 = (σ t) := by
  rw [f_ot, if_neg (fun q => q (tw_rg ht)), ix_nI (by omega)]
  rfl
theorem ot_1 {t : Nat} (ht : t < 8) : f_ot σ (nI t) 1 = (f_ra σ (nI t)) := by
  rw [f_ot, if_neg (fun q => q (tw_rg ht))]
  rfl
theorem ot_2 {t : Nat} (ht : t < 8) : f_ot σ (nI t) 2 = (f_ca σ (nI t)) := by
  rw [f_ot, if_neg (fun q => q (tw_rg ht))]
  rfl
theorem ot_3 {t : Nat} (ht : t < 8) : f_ot σ (nI t) 3 = (if f_pays σ t then 1 else 0) := by
  rw [f_ot, if_neg (fun q => q (tw_rg ht)), ix_nI (by omega)]
  rfl
theorem wo_v {t g : Nat} (ht : t < 8) (hg : g ≤ 4) {o : Int32} (ho : o = 0 ∨ o = 1) : f_wo σ (nI t) (nI g) o = f_w σ o g t := by
  rw [f_wo, if_neg (fun q => q (tw_rg ht)), if_pos ⟨by rw [rg_ti, nI_ti (by omega), show (0 : Int32).toInt = 0 from rfl, show (4 : Int32).toInt = 4 from rfl]; omega, by rcases ho with rfl | rfl <;> decide⟩, ix_nI (by omega), ix_nI (by omega)]
  rcases ho with rfl | rfl <;> rfl
section O1
theorem o_count (hx : px_co G T R x) (hG : px_tabs G) (hS : px_S1 T R I0 x A μ) (hV : px_AV A) {w : Int32} {z : Int32} (e : f_cnt A w = z) : px_C l G 6 0 0 mX7_count [.ref x, .int w] μ (px_QA T R I0 x (.int z) A) := by
  subst e
  obtain ⟨I, J, rfl, hc, hf⟩ := hS
  exact px_C_mono (s_X7_count hx hG hc hV) (fun v μ' q => QA_Qx hf (Qr2_Qx hc hV q))
theorem o_ofTown (hx : px_co G T R x) (hG : px_tabs G) (hS : px_S1 T R I0 x A μ) (hV : px_AV A) {t w : Int32} {z : Int32} (e : f_ot A.1 t w = z) : px_C l G 6 0 0 mX7_ofTown [.ref x, .int t, .int w] μ (px_QA T R I0 x (.int z) A) := by
  subst e
  obtain ⟨I, J, rfl, hc, hf⟩ := hS
  exact px_C_mono (s_X7_ofTown hx hG hc.1 hV.1.1 hc.2.2.2.2.2.1 hc.2.2.2.2.2.2) (fun v μ' q => QA_Qx hf (Qr2_Qx hc hV q))
theorem o_worth (hx : px_co G T R x) (hG : px_tabs G) (hS : px_S1 T R I0 x A μ) (hV : px_AV A) {t g w : Int32} {z : Int64} (e : f_wo A.1 t g w = z) : px_C l G 5 0 0 mX7_worth [.ref x, .int t, .int g, .int w] μ (px_QA T R I0 x (.long z) A) := by
  subst e
  obtain ⟨I, J, rfl, hc, hf⟩ := hS
  exact px_C_mono (s_X7_worth hx hG hc.1 hV.1.1 hc.2.2.2.2.2.1 hc.2.2.2.2.2.2) (fun v μ' q => QA_Qx hf (Qr2_Qx hc hV q))
theorem o_step (hx : px_co G T R x) (hG : px_tabs G) (hS : px_S1 T R I0 x A μ) (hV : px_AV A) {a w : Int32} {z : Int32} (e : f_step A.1 a w = z) : px_C l G 5 0 0 mX7_step [.ref x, .int a, .int w] μ (px_QA T R I0 x (.int z) A) := by
  subst e
  obtain ⟨I, J, rfl, hc, hf⟩ := hS
  exact px_C_mono (s_X7_step hx hG hc.1 hV.1.1 hc.2.2.2.2.2.1) (fun v μ' q => QA_Qx hf (Qr2_Qx hc hV q))
theorem o_ofRoad (hx : px_co G T R x) (hG : px_tabs G) (hS : px_S1 T R I0 x A μ) (hV : px_AV A) {a b : Int32} {z : Int32} (e : f_or A.1 a b = z) : px_C l G 5 0 0 mX7_ofRoad [.ref x, .int a, .int b] μ (px_QA T R I0 x (.int z) A) := by
  subst e
  obtain ⟨I, J, rfl, hc, hf⟩ := hS
  exact px_C_mono (s_X7_ofRoad hx hc.1 hV.1.1) (fun v μ' q => by obtain ⟨rfl, rfl⟩ := q; exact ⟨rfl, I, J, rfl, hc, hf⟩)
theorem o_ofCart (hx : px_co G T R x) (hG : px_tabs G) (hS : px_S1 T R I0 x A μ) (hV : px_AV A) {a b : Int32} {z : Int32} (e : f_oc A.1 a b = z) : px_C l G 2 0 0 mX7_ofCart [.ref x, .int a, .int b] μ (px_QA T R I0 x (.int z) A) := by
  subst e
  obtain ⟨I, J, rfl, hc, hf⟩ := hS
  exact px_C_mono (s_X7_ofCart hx hc.1 hV.1.1) (fun v μ' q => by obtain ⟨rfl, rfl⟩ := q; exact ⟨rfl, I, J, rfl, hc, hf⟩)
theorem o_fewestGuards (hx : px_co G T R x) (hG : px_tabs G) (hS : px_S1 T R I0 x A μ) (hV : px_AV A) {a : Int32} {z : Int32} (e : f_fg A.1 a = z) : px_C l G 2 0 0 mX7_fewestGuards [.ref x, .int a] μ (px_QA T R I0 x (.int z) A) := by
  subst e
  obtain ⟨I, J, rfl, hc, hf⟩ := hS
  exact px_C_mono (s_X7_fewestGuards hx hc.1 hV.1.1) (fun v μ' q => by obtain ⟨rfl, rfl⟩ := q; exact ⟨rfl, I, J, rfl, hc, hf⟩)
theorem o_mostPrice (hx : px_co G T R x) (hG : px_tabs G) (hS : px_S1 T R I0 x A μ) (hV : px_AV A) {a : Int32} {z : Int32} (e : f_most A.1 a = z) : px_C l G 4 0 0 mX7_mostPrice [.ref x, .int a] μ (px_QA T R I0 x (.int z) A) := by
  subst e
  obtain ⟨I, J, rfl, hc, hf⟩ := hS
  exact px_C_mono (s_X7_mostPrice hx hc.1 hV.1.1) (fun v μ' q => by obtain ⟨rfl, rfl⟩ := q; exact ⟨rfl, I, J, rfl, hc, hf⟩)
theorem o_ifHonest (hx : px_co G T R x) (hG : px_tabs G) (hS : px_S1 T R I0 x A μ) (hV : px_AV A) {z : Int32} (e : f_df A.1 8 = z) : px_C l G 6 0 0 mX7_ifHonest [.ref x] μ (px_QA T R I0 x (.int z) A) := by
  subst e
  obtain ⟨I, J, rfl, hc, hf⟩ := hS
  exact px_C_mono (s_X7_ifHonest hx hc hV) (fun v μ' q => QA_Qx hf q)
theorem o_makeHonest (hx : px_co G T R x) (hG : px_tabs G) (hS : px_S1 T R I0 x A μ) (hV : px_AV A) {z : Int32} (e : (f_mkh A.1).1 = z) : px_C l G 6 0 0 mX7_makeHonest [.ref x] μ (px_QA T R I0 x (.int z) (a_chg A (f_mkh A.1))) := by
  subst e
  obtain ⟨I, J, rfl, hc, hf⟩ := hS
  exact px_C_mono (s_X7_makeHonest hx hc hV) (fun v μ' q => QA_Qx hf q)
theorem o_set (hx : px_co G T R x) (hG : px_tabs G) (hS : px_S1 T R I0 x A μ) (hV : px_AV A) {a b : Int32} {z : Int32} (e : (f_set A.1 a b).1 = z) : px_C l G 3 0 0 mX7_set [.ref x, .int a, .int b] μ (px_QA T R I0 x (.int z) (a_chg A (f_set A.1 a b))) := by
  subst e
  obtain ⟨I, J, rfl, hc, hf⟩ := hS
  exact px_C_mono (s_X7_set hx hG hc hV) (fun v μ' q => QA_Qx hf q)
theorem o_price (hx : px_co G T R x) (hG : px_tabs G) (hS : px_S1 T R I0 x A μ) (hV : px_AV A) {a b : Int32} {z : Int32} (e : (f_price A.1 a b).1 = z) : px_C l G 3 0 0 mX7_price [.ref x, .int a, .int b] μ (px_QA T R I0 x (.int z) (a_chg A (f_price A.1 a b))) := by
  subst e
  obtain ⟨I, J, rfl, hc, hf⟩ := hS
  exact px_C_mono (s_X7_price hx hG hc hV) (fun v μ' q => QA_Qx hf q)
theorem o_guard (hx : px_co G T R x) (hG : px_tabs G) (hS : px_S1 T R I0 x A μ) (hV : px_AV A) {a b : Int32} {z : Int32} (e : (f_guard A.1 a b).1 = z) : px_C l G 3 0 0 mX7_guard [.ref x, .int a, .int b] μ (px_QA T R I0 x (.int z) (a_chg A (f_guard A.1 a b))) := by
  subst e
  obtain ⟨I, J, rfl, hc, hf⟩ := hS
  exact px_C_mono (s_X7_guard hx hG hc hV) (fun v μ' q => QA_Qx hf q)
theorem o_toll (hx : px_co G T R x) (hG : px_tabs G) (hS : px_S1 T R I0 x A μ) (hV : px_AV A) {a b : Int32} {z : Int32} (e : (f_toll A.1 a b).1 = z) : px_C l G 3 0 0 mX7_toll [.ref x, .int a, .int b] μ (px_QA T R I0 x (.int z) (a_chg A (f_toll A.1 a b))) := by
  subst e
  obtain ⟨I, J, rfl, hc, hf⟩ := hS
  exact px_C_mono (s_X7_toll hx hG hc hV) (fun v μ' q => QA_Qx hf q)
theorem o_cart (hx : px_co G T R x) (hG : px_tabs G) (hS : px_S1 T R I0 x A μ) (hV : px_AV A) {a b : Int32} {z : Int32} (e : (f_cart A.1 a b).1 = z) : px_C l G 3 0 0 mX7_cart [.ref x, .int a, .int b] μ (px_QA T R I0 x (.int z) (a_chg A (f_cart A.1 a b))) := by
  subst e
  obtain ⟨I, J, rfl, hc, hf⟩ := hS
  exact px_C_mono (s_X7_cart hx hG hc hV) (fun v μ' q => QA_Qx hf q)
theorem o_buy (hx : px_co G T R x) (hG : px_tabs G) (hS : px_S1 T R I0 x A μ) (hV : px_AV A) {a b : Int32} {z : Int32} (e : (f_buy A.1 a b).1 = z) : px_C l G 3 0 0 mX7_buy [.ref x, .int a, .int b] μ (px_QA T R I0 x (.int z) (a_chg A (f_buy A.1 a b))) := by
  subst e
  obtain ⟨I, J, rfl, hc, hf⟩ := hS
  exact px_C_mono (s_X7_buy hx hG hc hV) (fun v μ' q => QA_Qx hf q)
theorem o_sell (hx : px_co G T R x) (hG : px_tabs G) (hS : px_S1 T R I0 x A μ) (hV : px_AV A) {a b : Int32} {z : Int32} (e : (f_sell A.1 a b).1 = z) : px_C l G 3 0 0 mX7_sell [.ref x, .int a, .int b] μ (px_QA T R I0 x (.int z) (a_chg A (f_sell A.1 a b))) := by
  subst e
  obtain ⟨I, J, rfl, hc, hf⟩ := hS
  exact px_C_mono (s_X7_sell hx hG hc hV) (fun v μ' q => QA_Qx hf q)
theorem o_road (hx : px_co G T R x) (hG : px_tabs G) (hS : px_S1 T R I0 x A μ) (hV : px_AV A) {a b t : Int32} {z : Int32} (e : (f_road A.1 a b t).1 = z) : px_C l G 3 0 0 mX7_road [.ref x, .int a, .int b, .int t] μ (px_QA T R I0 x (.int z) (a_chg A (f_road A.1 a b t))) := by
  subst e
  obtain ⟨I, J, rfl, hc, hf⟩ := hS
  exact px_C_mono (s_X7_road hx hG hc hV) (fun v μ' q => QA_Qx hf q)
theorem o_go (hx : px_co G T R x) (hG : px_tabs G) (hS : px_S1 T R I0 x A μ) (hV : px_AV A) {a b t : Int32} {z : Int32} (e : (f_go A.1 a b t).1 = z) : px_C l G 5 0 0 mX7_go [.ref x, .int a, .int b, .int t] μ (px_QA T R I0 x (.int z) (a_chg A (f_go A.1 a b t))) := by
  subst e
  obtain ⟨I, J, rfl, hc, hf⟩ := hS
  exact px_C_mono (s_X7_go hx hG hc hV) (fun v μ' q => QA_Qx hf q)
theorem o_undo (hx : px_co G T R x) (hS : px_S1 T R I0 x A μ) (hV : px_AV A) (h0 : ¬ A.2.1.1 = 0) : px_C l G 3 0 0 mX7_undo [.ref x] μ (px_QA T R I0 x (.int (nI (A.2.1.1 - 1))) (f_mix A.1 (A.2.1.2 (A.2.1.1 - 1)), (A.2.1.1 - 1, A.2.1.2), A.2.2)) := by
  obtain ⟨I, J, rfl, hc, hf⟩ := hS
  have h := s_X7_undo (l := l) (J := J) hx hc hV
  rw [if_neg h0] at h
  exact px_C_mono h (fun v μ' q => QA_Qx hf q)
end O1
/-- a state that is the same in its 151 numbers is as good -/
theorem CI_same (h : px_CI I x A) (hV : px_AV A) {τ : px_s} (e : ∀ k, k < 151 → τ k = A.1 k) : px_CI I x (τ, A.2) := ⟨ag_mix h.1 hV.1.1 e, h.2⟩
theorem S1_same (hS : px_S1 T R I0 x A μ) (hV : px_AV A) {τ : px_s} (e : ∀ k, k < 151 → τ k = A.1 k) : px_S1 T R I0 x (τ, A.2) μ := by
  obtain ⟨I, J, rfl, hc, hf⟩ := hS
  exact ⟨I, J, rfl, CI_same hc hV e, hf⟩
end OBJ

