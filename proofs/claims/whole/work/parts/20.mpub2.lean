section MQ2
variable {l : Launch} {G : px_G} {T : px_T} {I : px_I} {J : px_J} {R : px_R} {μ : px_M} {m : Nat} {A : px_a}
theorem s_X8_road {a b t : Int32} (hm : px_mo G T R m) (h : px_MI I m A) (hV : px_AV A) : px_C l G 3 0 0 mX8_road [.ref m, .int a, .int b, .int t] (T, I, J, R) (px_Qm T I J R m (.int (f_road A.1 a b t).1) (a_chg A (f_road A.1 a b t))) := by
  have e1 : px_cpf I (m + 2) 0 151 A.1 (m + 1) = A.1 := by rw [px_cpf_ne (by omega)]; exact h.1
  have hp := s_X8_putAside (l := l) (I := I) (J := J) hm
  rw [h.1] at hp
  have ha := s_X8_addsRoad (l := l) (I := px_cpf I (m + 2) 0 151 A.1) (J := J) (a := a) (b := b) (t := t) hm (by rw [e1]; exact hV.1.1)
  rw [e1] at ha
  refine px_met (M := mX8_road) ([some (.ref m), some (.int a), some (.int b), some (.int t)]) (by decide +kernel) rfl (Nat.le_of_ble_eq_true rfl) rfl ?_
  refine px_aload_0 dX8_road_0 ?_
  refine cd_X8_90 rfl ⟨⟨Nat.le_of_ble_eq_true rfl, Nat.le_of_ble_eq_true rfl⟩, Nat.le_of_ble_eq_true rfl, Nat.le_of_ble_eq_true rfl, Nat.le_of_ble_eq_true rfl⟩ (by first | assumption | exact mo_a hm | exact mo_r0 hm | exact mo_r1 hm | exact mo_r2 hm | exact mo_r4 hm | exact mo_r6 hm | exact mo_r8 hm | exact mo_a1 hm | exact mo_a2 hm | exact mo_a3 hm | exact mo_a4 hm | exact mo_a5 hm | exact mo_a6 hm) dX8_road_1 (hp) ?_
  refine px_aload_0 dX8_road_4 ?_
  refine px_aload_0 dX8_road_5 ?_
  refine px_iload_1 dX8_road_6 ?_
  refine px_iload_2 dX8_road_7 ?_
  refine px_iload_3 dX8_road_8 ?_
  refine cd_X8_111 rfl ⟨⟨Nat.le_of_ble_eq_true rfl, Nat.le_of_ble_eq_true rfl⟩, Nat.le_of_ble_eq_true rfl, Nat.le_of_ble_eq_true rfl, Nat.le_of_ble_eq_true rfl⟩ (by first | assumption | exact mo_a hm | exact mo_r0 hm | exact mo_r1 hm | exact mo_r2 hm | exact mo_r4 hm | exact mo_r6 hm | exact mo_r8 hm | exact mo_a1 hm | exact mo_a2 hm | exact mo_a3 hm | exact mo_a4 hm | exact mo_a5 hm | exact mo_a6 hm) dX8_road_9 (ha) ?_
  refine cg_X8_105 rfl ⟨⟨Nat.le_of_ble_eq_true rfl, Nat.le_of_ble_eq_true rfl⟩, Nat.le_of_ble_eq_true rfl, Nat.le_of_ble_eq_true rfl, Nat.le_of_ble_eq_true rfl⟩ (by first | assumption | exact mo_a hm | exact mo_r0 hm | exact mo_r1 hm | exact mo_r2 hm | exact mo_r4 hm | exact mo_r6 hm | exact mo_r8 hm | exact mo_a1 hm | exact mo_a2 hm | exact mo_a3 hm | exact mo_a4 hm | exact mo_a5 hm | exact mo_a6 hm) dX8_road_12 (s_X8_changed hm (hi_set h)) ?_
  rintro u μ' ⟨rfl, hu⟩
  refine px_iret dX8_road_15 ?_
  exact chg_end h (e_road hV.1) ⟨rfl, hu⟩
theorem s_X8_price {a b : Int32} (hm : px_mo G T R m) (h : px_MI I m A) (hV : px_AV A) : px_C l G 3 0 0 mX8_price [.ref m, .int a, .int b] (T, I, J, R) (px_Qm T I J R m (.int (f_price A.1 a b).1) (a_chg A (f_price A.1 a b))) := by
  have e1 : px_cpf I (m + 2) 0 151 A.1 (m + 1) = A.1 := by rw [px_cpf_ne (by omega)]; exact h.1
  have hp := s_X8_putAside (l := l) (I := I) (J := J) hm
  rw [h.1] at hp
  have ha := s_X8_prices (l := l) (I := px_cpf I (m + 2) 0 151 A.1) (J := J) (a := a) (b := b) hm
  rw [e1] at ha
  refine px_met (M := mX8_price) ([some (.ref m), some (.int a), some (.int b)]) (by decide +kernel) rfl (Nat.le_of_ble_eq_true rfl) rfl ?_
  refine px_aload_0 dX8_price_0 ?_
  refine cd_X8_90 rfl ⟨⟨Nat.le_of_ble_eq_true rfl, Nat.le_of_ble_eq_true rfl⟩, Nat.le_of_ble_eq_true rfl, Nat.le_of_ble_eq_true rfl, Nat.le_of_ble_eq_true rfl⟩ (by first | assumption | exact mo_a hm | exact mo_r0 hm | exact mo_r1 hm | exact mo_r2 hm | exact mo_r4 hm | exact mo_r6 hm | exact mo_r8 hm | exact mo_a1 hm | exact mo_a2 hm | exact mo_a3 hm | exact mo_a4 hm | exact mo_a5 hm | exact mo_a6 hm) dX8_price_1 (hp) ?_
  refine px_aload_0 dX8_price_4 ?_
  refine px_aload_0 dX8_price_5 ?_
  refine px_iload_1 dX8_price_6 ?_
  refine px_iload_2 dX8_price_7 ?_
  refine cd_X8_115 rfl ⟨⟨Nat.le_of_ble_eq_true rfl, Nat.le_of_ble_eq_true rfl⟩, Nat.le_of_ble_eq_true rfl, Nat.le_of_ble_eq_true rfl, Nat.le_of_ble_eq_true rfl⟩ (by first | assumption | exact mo_a hm | exact mo_r0 hm | exact mo_r1 hm | exact mo_r2 hm | exact mo_r4 hm | exact mo_r6 hm | exact mo_r8 hm | exact mo_a1 hm | exact mo_a2 hm | exact mo_a3 hm | exact mo_a4 hm | exact mo_a5 hm | exact mo_a6 hm) dX8_price_8 (ha) ?_
  refine cg_X8_105 rfl ⟨⟨Nat.le_of_ble_eq_true rfl, Nat.le_of_ble_eq_true rfl⟩, Nat.le_of_ble_eq_true rfl, Nat.le_of_ble_eq_true rfl, Nat.le_of_ble_eq_true rfl⟩ (by first | assumption | exact mo_a hm | exact mo_r0 hm | exact mo_r1 hm | exact mo_r2 hm | exact mo_r4 hm | exact mo_r6 hm | exact mo_r8 hm | exact mo_a1 hm | exact mo_a2 hm | exact mo_a3 hm | exact mo_a4 hm | exact mo_a5 hm | exact mo_a6 hm) dX8_price_11 (s_X8_changed hm (hi_set h)) ?_
  rintro u μ' ⟨rfl, hu⟩
  refine px_iret dX8_price_14 ?_
  exact chg_end h (e_price hV.1) ⟨rfl, hu⟩
theorem s_X8_guard {a b : Int32} (hm : px_mo G T R m) (h : px_MI I m A) (hV : px_AV A) : px_C l G 3 0 0 mX8_guard [.ref m, .int a, .int b] (T, I, J, R) (px_Qm T I J R m (.int (f_guard A.1 a b).1) (a_chg A (f_guard A.1 a b))) := by
  have e1 : px_cpf I (m + 2) 0 151 A.1 (m + 1) = A.1 := by rw [px_cpf_ne (by omega)]; exact h.1
  have hp := s_X8_putAside (l := l) (I := I) (J := J) hm
  rw [h.1] at hp
  have ha := s_X8_setsGuards (l := l) (I := px_cpf I (m + 2) 0 151 A.1) (J := J) (a := a) (b := b) hm (by rw [e1]; exact hV.1.1)
  rw [e1] at ha
  refine px_met (M := mX8_guard) ([some (.ref m), some (.int a), some (.int b)]) (by decide +kernel) rfl (Nat.le_of_ble_eq_true rfl) rfl ?_
  refine px_aload_0 dX8_guard_0 ?_
  refine cd_X8_90 rfl ⟨⟨Nat.le_of_ble_eq_true rfl, Nat.le_of_ble_eq_true rfl⟩, Nat.le_of_ble_eq_true rfl, Nat.le_of_ble_eq_true rfl, Nat.le_of_ble_eq_true rfl⟩ (by first | assumption | exact mo_a hm | exact mo_r0 hm | exact mo_r1 hm | exact mo_r2 hm | exact mo_r4 hm | exact mo_r6 hm | exact mo_r8 hm | exact mo_a1 hm | exact mo_a2 hm | exact mo_a3 hm | exact mo_a4 hm | exact mo_a5 hm | exact mo_a6 hm) dX8_guard_1 (hp) ?_
  refine px_aload_0 dX8_guard_4 ?_
  refine px_aload_0 dX8_guard_5 ?_
  refine px_iload_1 dX8_guard_6 ?_
  refine px_iload_2 dX8_guard_7 ?_
  refine cd_X8_121 rfl ⟨⟨Nat.le_of_ble_eq_true rfl, Nat.le_of_ble_eq_true rfl⟩, Nat.le_of_ble_eq_true rfl, Nat.le_of_ble_eq_true rfl, Nat.le_of_ble_eq_true rfl⟩ (by first | assumption | exact mo_a hm | exact mo_r0 hm | exact mo_r1 hm | exact mo_r2 hm | exact mo_r4 hm | exact mo_r6 hm | exact mo_r8 hm | exact mo_a1 hm | exact mo_a2 hm | exact mo_a3 hm | exact mo_a4 hm | exact mo_a5 hm | exact mo_a6 hm) dX8_guard_8 (ha) ?_
  refine cg_X8_105 rfl ⟨⟨Nat.le_of_ble_eq_true rfl, Nat.le_of_ble_eq_true rfl⟩, Nat.le_of_ble_eq_true rfl, Nat.le_of_ble_eq_true rfl, Nat.le_of_ble_eq_true rfl⟩ (by first | assumption | exact mo_a hm | exact mo_r0 hm | exact mo_r1 hm | exact mo_r2 hm | exact mo_r4 hm | exact mo_r6 hm | exact mo_r8 hm | exact mo_a1 hm | exact mo_a2 hm | exact mo_a3 hm | exact mo_a4 hm | exact mo_a5 hm | exact mo_a6 hm) dX8_guard_11 (s_X8_changed hm (hi_set h)) ?_
  rintro u μ' ⟨rfl, hu⟩
  refine px_iret dX8_guard_14 ?_
  exact chg_end h (e_guard hV.1) ⟨rfl, hu⟩
theorem s_X8_cart {a b : Int32} (hm : px_mo G T R m) (h : px_MI I m A) (hV : px_AV A) : px_C l G 3 0 0 mX8_cart [.ref m, .int a, .int b] (T, I, J, R) (px_Qm T I J R m (.int (f_cart A.1 a b).1) (a_chg A (f_cart A.1 a b))) := by
  have e1 : px_cpf I (m + 2) 0 151 A.1 (m + 1) = A.1 := by rw [px_cpf_ne (by omega)]; exact h.1
  have hp := s_X8_putAside (l := l) (I := I) (J := J) hm
  rw [h.1] at hp
  have ha := s_X8_addsCart (l := l) (I := px_cpf I (m + 2) 0 151 A.1) (J := J) (a := a) (b := b) hm (by rw [e1]; exact hV.1.1)
  rw [e1] at ha
  refine px_met (M := mX8_cart) ([some (.ref m), some (.int a), some (.int b)]) (by decide +kernel) rfl (Nat.le_of_ble_eq_true rfl) rfl ?_
  refine px_aload_0 dX8_cart_0 ?_
  refine cd_X8_90 rfl ⟨⟨Nat.le_of_ble_eq_true rfl, Nat.le_of_ble_eq_true rfl⟩, Nat.le_of_ble_eq_true rfl, Nat.le_of_ble_eq_true rfl, Nat.le_of_ble_eq_true rfl⟩ (by first | assumption | exact mo_a hm | exact mo_r0 hm | exact mo_r1 hm | exact mo_r2 hm | exact mo_r4 hm | exact mo_r6 hm | exact mo_r8 hm | exact mo_a1 hm | exact mo_a2 hm | exact mo_a3 hm | exact mo_a4 hm | exact mo_a5 hm | exact mo_a6 hm) dX8_cart_1 (hp) ?_
  refine px_aload_0 dX8_cart_4 ?_
  refine px_aload_0 dX8_cart_5 ?_
  refine px_iload_1 dX8_cart_6 ?_
  refine px_iload_2 dX8_cart_7 ?_
  refine cd_X8_131 rfl ⟨⟨Nat.le_of_ble_eq_true rfl, Nat.le_of_ble_eq_true rfl⟩, Nat.le_of_ble_eq_true rfl, Nat.le_of_ble_eq_true rfl, Nat.le_of_ble_eq_true rfl⟩ (by first | assumption | exact mo_a hm | exact mo_r0 hm | exact mo_r1 hm | exact mo_r2 hm | exact mo_r4 hm | exact mo_r6 hm | exact mo_r8 hm | exact mo_a1 hm | exact mo_a2 hm | exact mo_a3 hm | exact mo_a4 hm | exact mo_a5 hm | exact mo_a6 hm) dX8_cart_8 (ha) ?_
  refine cg_X8_105 rfl ⟨⟨Nat.le_of_ble_eq_true rfl, Nat.le_of_ble_eq_true rfl⟩, Nat.le_of_ble_eq_true rfl, Nat.le_of_ble_eq_true rfl, Nat.le_of_ble_eq_true rfl⟩ (by first | assumption | exact mo_a hm | exact mo_r0 hm | exact mo_r1 hm | exact mo_r2 hm | exact mo_r4 hm | exact mo_r6 hm | exact mo_r8 hm | exact mo_a1 hm | exact mo_a2 hm | exact mo_a3 hm | exact mo_a4 hm | exact mo_a5 hm | exact mo_a6 hm) dX8_cart_11 (s_X8_changed hm (hi_set h)) ?_
  rintro u μ' ⟨rfl, hu⟩
  refine px_iret dX8_cart_14 ?_
  exact chg_end h (e_cart hV.1) ⟨rfl, hu⟩
theorem s_X8_buy {a b : Int32} (hm : px_mo G T R m) (h : px_MI I m A) (hV : px_AV A) : px_C l G 3 0 0 mX8_buy [.ref m, .int a, .int b] (T, I, J, R) (px_Qm T I J R m (.int (f_buy A.1 a b).1) (a_chg A (f_buy A.1 a b))) := by
  have e1 : px_cpf I (m + 2) 0 151 A.1 (m + 1) = A.1 := by rw [px_cpf_ne (by omega)]; exact h.1
  have hp := s_X8_putAside (l := l) (I := I) (J := J) hm
  rw [h.1] at hp
  have ha := s_X8_buys (l := l) (I := px_cpf I (m + 2) 0 151 A.1) (J := J) (a := a) (b := b) hm (by rw [e1]; exact hV.1.1)
  rw [e1] at ha
  refine px_met (M := mX8_buy) ([some (.ref m), some (.int a), some (.int b)]) (by decide +kernel) rfl (Nat.le_of_ble_eq_true rfl) rfl ?_
  refine px_aload_0 dX8_buy_0 ?_
  refine cd_X8_90 rfl ⟨⟨Nat.le_of_ble_eq_true rfl, Nat.le_of_ble_eq_true rfl⟩, Nat.le_of_ble_eq_true rfl, Nat.le_of_ble_eq_true rfl, Nat.le_of_ble_eq_true rfl⟩ (by first | assumption | exact mo_a hm | exact mo_r0 hm | exact mo_r1 hm | exact mo_r2 hm | exact mo_r4 hm | exact mo_r6 hm | exact mo_r8 hm | exact mo_a1 hm | exact mo_a2 hm | exact mo_a3 hm | exact mo_a4 hm | exact mo_a5 hm | exact mo_a6 hm) dX8_buy_1 (hp) ?_
  refine px_aload_0 dX8_buy_4 ?_
  refine px_aload_0 dX8_buy_5 ?_
  refine px_iload_1 dX8_buy_6 ?_
  refine px_iload_2 dX8_buy_7 ?_
  refine cd_X8_137 rfl ⟨⟨Nat.le_of_ble_eq_true rfl, Nat.le_of_ble_eq_true rfl⟩, Nat.le_of_ble_eq_true rfl, Nat.le_of_ble_eq_true rfl, Nat.le_of_ble_eq_true rfl⟩ (by first | assumption | exact mo_a hm | exact mo_r0 hm | exact mo_r1 hm | exact mo_r2 hm | exact mo_r4 hm | exact mo_r6 hm | exact mo_r8 hm | exact mo_a1 hm | exact mo_a2 hm | exact mo_a3 hm | exact mo_a4 hm | exact mo_a5 hm | exact mo_a6 hm) dX8_buy_8 (ha) ?_
  refine cg_X8_105 rfl ⟨⟨Nat.le_of_ble_eq_true rfl, Nat.le_of_ble_eq_true rfl⟩, Nat.le_of_ble_eq_true rfl, Nat.le_of_ble_eq_true rfl, Nat.le_of_ble_eq_true rfl⟩ (by first | assumption | exact mo_a hm | exact mo_r0 hm | exact mo_r1 hm | exact mo_r2 hm | exact mo_r4 hm | exact mo_r6 hm | exact mo_r8 hm | exact mo_a1 hm | exact mo_a2 hm | exact mo_a3 hm | exact mo_a4 hm | exact mo_a5 hm | exact mo_a6 hm) dX8_buy_11 (s_X8_changed hm (hi_set h)) ?_
  rintro u μ' ⟨rfl, hu⟩
  refine px_iret dX8_buy_14 ?_
  exact chg_end h (e_buy hV.1) ⟨rfl, hu⟩
theorem s_X8_sell {a b : Int32} (hm : px_mo G T R m) (h : px_MI I m A) (hV : px_AV A) : px_C l G 3 0 0 mX8_sell [.ref m, .int a, .int b] (T, I, J, R) (px_Qm T I J R m (.int (f_sell A.1 a b).1) (a_chg A (f_sell A.1 a b))) := by
  have e1 : px_cpf I (m + 2) 0 151 A.1 (m + 1) = A.1 := by rw [px_cpf_ne (by omega)]; exact h.1
  have hp := s_X8_putAside (l := l) (I := I) (J := J) hm
  rw [h.1] at hp
  have ha := s_X8_sells (l := l) (I := px_cpf I (m + 2) 0 151 A.1) (J := J) (a := a) (b := b) hm (by rw [e1]; exact hV.1.1)
  rw [e1] at ha
  refine px_met (M := mX8_sell) ([some (.ref m), some (.int a), some (.int b)]) (by decide +kernel) rfl (Nat.le_of_ble_eq_true rfl) rfl ?_
  refine px_aload_0 dX8_sell_0 ?_
  refine cd_X8_90 rfl ⟨⟨Nat.le_of_ble_eq_true rfl, Nat.le_of_ble_eq_true rfl⟩, Nat.le_of_ble_eq_true rfl, Nat.le_of_ble_eq_true rfl, Nat.le_of_ble_eq_true rfl⟩ (by first | assumption | exact mo_a hm | exact mo_r0 hm | exact mo_r1 hm | exact mo_r2 hm | exact mo_r4 hm | exact mo_r6 hm | exact mo_r8 hm | exact mo_a1 hm | exact mo_a2 hm | exact mo_a3 hm | exact mo_a4 hm | exact mo_a5 hm | exact mo_a6 hm) dX8_sell_1 (hp) ?_
  refine px_aload_0 dX8_sell_4 ?_
  refine px_aload_0 dX8_sell_5 ?_
  refine px_iload_1 dX8_sell_6 ?_
  refine px_iload_2 dX8_sell_7 ?_
  refine cd_X8_140 rfl ⟨⟨Nat.le_of_ble_eq_true rfl, Nat.le_of_ble_eq_true rfl⟩, Nat.le_of_ble_eq_true rfl, Nat.le_of_ble_eq_true rfl, Nat.le_of_ble_eq_true rfl⟩ (by first | assumption | exact mo_a hm | exact mo_r0 hm | exact mo_r1 hm | exact mo_r2 hm | exact mo_r4 hm | exact mo_r6 hm | exact mo_r8 hm | exact mo_a1 hm | exact mo_a2 hm | exact mo_a3 hm | exact mo_a4 hm | exact mo_a5 hm | exact mo_a6 hm) dX8_sell_8 (ha) ?_
  refine cg_X8_105 rfl ⟨⟨Nat.le_of_ble_eq_true rfl, Nat.le_of_ble_eq_true rfl⟩, Nat.le_of_ble_eq_true rfl, Nat.le_of_ble_eq_true rfl, Nat.le_of_ble_eq_true rfl⟩ (by first | assumption | exact mo_a hm | exact mo_r0 hm | exact mo_r1 hm | exact mo_r2 hm | exact mo_r4 hm | exact mo_r6 hm | exact mo_r8 hm | exact mo_a1 hm | exact mo_a2 hm | exact mo_a3 hm | exact mo_a4 hm | exact mo_a5 hm | exact mo_a6 hm) dX8_sell_11 (s_X8_changed hm (hi_set h)) ?_
  rintro u μ' ⟨rfl, hu⟩
  refine px_iret dX8_sell_14 ?_
  exact chg_end h (e_sell hV.1) ⟨rfl, hu⟩
theorem s_X8_go {a b w : Int32} (hm : px_mo G T R m) (h : px_MI I m A) (hV : px_AV A) : px_C l G 4 0 0 mX8_go [.ref m, .int a, .int b, .int w] (T, I, J, R) (px_Qm T I J R m (.int (f_go A.1 a b w).1) (a_chg A (f_go A.1 a b w))) := by
  have e1 : px_cpf I (m + 2) 0 151 A.1 (m + 1) = A.1 := by rw [px_cpf_ne (by omega)]; exact h.1
  have hp := s_X8_putAside (l := l) (I := I) (J := J) hm
  rw [h.1] at hp
  have ha := s_X8_goes (l := l) (I := px_cpf I (m + 2) 0 151 A.1) (J := J) (a := a) (b := b) (h := w) hm (by rw [e1]; exact hV.1.1) (by rw [e1]; exact fun c hc => (rg_of (hV.1.2 c hc)).1 |> fun q => by rw [Int32.le_iff_toInt_le]; exact q)
  rw [e1] at ha
  refine px_met (M := mX8_go) ([some (.ref m), some (.int a), some (.int b), some (.int w)]) (by decide +kernel) rfl (Nat.le_of_ble_eq_true rfl) rfl ?_
  refine px_aload_0 dX8_go_0 ?_
  refine cd_X8_90 rfl ⟨⟨Nat.le_of_ble_eq_true rfl, Nat.le_of_ble_eq_true rfl⟩, Nat.le_of_ble_eq_true rfl, Nat.le_of_ble_eq_true rfl, Nat.le_of_ble_eq_true rfl⟩ (by first | assumption | exact mo_a hm | exact mo_r0 hm | exact mo_r1 hm | exact mo_r2 hm | exact mo_r4 hm | exact mo_r6 hm | exact mo_r8 hm | exact mo_a1 hm | exact mo_a2 hm | exact mo_a3 hm | exact mo_a4 hm | exact mo_a5 hm | exact mo_a6 hm) dX8_go_1 (hp) ?_
  refine px_aload_0 dX8_go_4 ?_
  refine px_aload_0 dX8_go_5 ?_
  refine px_iload_1 dX8_go_6 ?_
  refine px_iload_2 dX8_go_7 ?_
  refine px_iload_3 dX8_go_8 ?_
  refine cd_X8_153 rfl ⟨⟨Nat.le_of_ble_eq_true rfl, Nat.le_of_ble_eq_true rfl⟩, Nat.le_of_ble_eq_true rfl, Nat.le_of_ble_eq_true rfl, Nat.le_of_ble_eq_true rfl⟩ (by first | assumption | exact mo_a hm | exact mo_r0 hm | exact mo_r1 hm | exact mo_r2 hm | exact mo_r4 hm | exact mo_r6 hm | exact mo_r8 hm | exact mo_a1 hm | exact mo_a2 hm | exact mo_a3 hm | exact mo_a4 hm | exact mo_a5 hm | exact mo_a6 hm) dX8_go_9 (ha) ?_
  refine cg_X8_105 rfl ⟨⟨Nat.le_of_ble_eq_true rfl, Nat.le_of_ble_eq_true rfl⟩, Nat.le_of_ble_eq_true rfl, Nat.le_of_ble_eq_true rfl, Nat.le_of_ble_eq_true rfl⟩ (by first | assumption | exact mo_a hm | exact mo_r0 hm | exact mo_r1 hm | exact mo_r2 hm | exact mo_r4 hm | exact mo_r6 hm | exact mo_r8 hm | exact mo_a1 hm | exact mo_a2 hm | exact mo_a3 hm | exact mo_a4 hm | exact mo_a5 hm | exact mo_a6 hm) dX8_go_12 (s_X8_changed hm (hi_set h)) ?_
  rintro u μ' ⟨rfl, hu⟩
  refine px_iret dX8_go_15 ?_
  exact chg_end h (e_go hV.1) ⟨rfl, hu⟩
theorem s_X8_least {a : Int32} : px_K l G 0 mX8_least ([.int a]) (μ) (some (.int (f_lo a))) (μ) := by
  refine px_met (M := mX8_least) ([some (.int a)]) (by decide +kernel) rfl (Nat.le_of_ble_eq_true rfl) rfl ?_
  refine px_iload_0 dX8_least_0 ?_
  refine px_iconst (1) dX8_least_1 rfl ?_
  refine px_icmp_eq (tgt := 10) dX8_least_2 (by decide) (fun h2 => ?_) (fun h2 => ?_)
  · skip
    refine px_iconst (1) dX8_least_10 rfl ?_
    refine px_goto (tgt := 15) dX8_least_11 (by decide) ?_
    refine px_iret dX8_least_15 ?_
    exact ⟨by unfold f_lo; grind, rfl⟩
  · skip
    refine px_iload_0 dX8_least_5 ?_
    refine px_iconst (2) dX8_least_6 rfl ?_
    refine px_icmp_ne (tgt := 14) dX8_least_7 (by decide) (fun h7 => ?_) (fun h7 => ?_)
    · skip
      refine px_iconst (0) dX8_least_14 rfl ?_
      refine px_iret dX8_least_15 ?_
      exact ⟨by unfold f_lo; grind, rfl⟩
    · skip
      refine px_iconst (1) dX8_least_10 rfl ?_
      refine px_goto (tgt := 15) dX8_least_11 (by decide) ?_
      refine px_iret dX8_least_15 ?_
      exact ⟨by unfold f_lo; grind, rfl⟩
theorem s_X8_most {a : Int32} : px_K l G 0 mX8_most ([.int a]) (μ) (some (.int (f_hi a))) (μ) := by
  refine px_met (M := mX8_most) ([some (.int a)]) (by decide +kernel) rfl (Nat.le_of_ble_eq_true rfl) rfl ?_
  refine px_iload_0 dX8_most_0 ?_
  refine px_if_ne (tgt := 10) dX8_most_1 (by decide) (fun h1 => ?_) (fun h1 => ?_)
  · skip
    refine px_iload_0 dX8_most_10 ?_
    refine px_iconst (1) dX8_most_11 rfl ?_
    refine px_icmp_ne (tgt := 20) dX8_most_12 (by decide) (fun h12 => ?_) (fun h12 => ?_)
    · skip
      refine px_iload_0 dX8_most_20 ?_
      refine px_iconst (2) dX8_most_21 rfl ?_
      refine px_icmp_ne (tgt := 29) dX8_most_22 (by decide) (fun h22 => ?_) (fun h22 => ?_)
      · skip
        refine px_bipush (40) dX8_most_29 rfl ?_
        refine px_iret dX8_most_31 ?_
        exact ⟨by unfold f_hi; grind, rfl⟩
      · skip
        refine px_iconst (4) dX8_most_25 rfl ?_
        refine px_goto (tgt := 31) dX8_most_26 (by decide) ?_
        refine px_iret dX8_most_31 ?_
        exact ⟨by unfold f_hi; grind, rfl⟩
    · skip
      refine px_bipush (30) dX8_most_15 rfl ?_
      refine px_goto (tgt := 31) dX8_most_17 (by decide) ?_
      refine px_iret dX8_most_31 ?_
      exact ⟨by unfold f_hi; grind, rfl⟩
  · skip
    refine px_sipush (500) dX8_most_4 rfl ?_
    refine px_goto (tgt := 31) dX8_most_7 (by decide) ?_
    refine px_iret dX8_most_31 ?_
    exact ⟨by unfold f_hi; grind, rfl⟩
theorem s_X8_set {a b : Int32} (hm : px_mo G T R m) (h : px_MI I m A) (hV : px_AV A) : px_C l G 2 0 0 mX8_set [.ref m, .int a, .int b] (T, I, J, R) (px_Qm T I J R m (.int (f_set A.1 a b).1) (a_chg A (f_set A.1 a b))) := by
  have e1 : px_cpf I (m + 2) 0 151 A.1 (m + 1) = A.1 := by rw [px_cpf_ne (by omega)]; exact h.1
  have hp := s_X8_putAside (l := l) (I := I) (J := J) hm
  rw [h.1] at hp
  have hg := s_X8_guards (l := l) (I := px_cpf I (m + 2) 0 151 A.1) (J := J) hm (by rw [e1]; exact hV.1.1)
  rw [e1] at hg
  refine px_met (M := mX8_set) ([some (.ref m), some (.int a), some (.int b)]) (by decide +kernel) rfl (Nat.le_of_ble_eq_true rfl) rfl ?_
  by_cases hr : rg a 0 3
  · have ha := ix_eq hr
    have hl := ix_le hr (k := 3) rfl
    by_cases hb : rg b (f_lo a) (f_hi a)
    · by_cases hq : a = 3 ∧ b < f_gs A.1
      · have hf : f_set A.1 a b = (-5, A.1) := by clear ha e1 hp hg hV h; grind [f_set]
        obtain ⟨h3, hlt⟩ := hq
        refine px_aload_0 dX8_set_0 ?_
        refine cd_X8_90 rfl ⟨⟨Nat.le_of_ble_eq_true rfl, Nat.le_of_ble_eq_true rfl⟩, Nat.le_of_ble_eq_true rfl, Nat.le_of_ble_eq_true rfl, Nat.le_of_ble_eq_true rfl⟩ (by first | assumption | exact mo_a hm | exact mo_r0 hm | exact mo_r1 hm | exact mo_r2 hm | exact mo_r4 hm | exact mo_r6 hm | exact mo_r8 hm | exact mo_a1 hm | exact mo_a2 hm | exact mo_a3 hm | exact mo_a4 hm | exact mo_a5 hm | exact mo_a6 hm) dX8_set_1 (hp) ?_
        refine px_iload_1 dX8_set_4 ?_
        refine px_iconst (0) dX8_set_5 rfl ?_
        refine px_iconst (3) dX8_set_6 rfl ?_
        refine cd_X8_29 rfl ⟨⟨Nat.le_of_ble_eq_true rfl, Nat.le_of_ble_eq_true rfl⟩, Nat.le_of_ble_eq_true rfl, Nat.le_of_ble_eq_true rfl, Nat.le_of_ble_eq_true rfl⟩ dX8_set_7 (s_X8_in) ?_
        refine px_ifb_eq (tgt := 28) dX8_set_10 (by decide) (fun h10 => (by first | exact absurd h10 (hr) | exact absurd (hr) h10)) (fun h10 => ?_)
        refine px_iload_2 dX8_set_13 ?_
        refine px_iload_1 dX8_set_14 ?_
        refine cd_X8_93 rfl ⟨⟨Nat.le_of_ble_eq_true rfl, Nat.le_of_ble_eq_true rfl⟩, Nat.le_of_ble_eq_true rfl, Nat.le_of_ble_eq_true rfl, Nat.le_of_ble_eq_true rfl⟩ dX8_set_15 (s_X8_least) ?_
        refine px_iload_1 dX8_set_18 ?_
        refine cd_X8_96 rfl ⟨⟨Nat.le_of_ble_eq_true rfl, Nat.le_of_ble_eq_true rfl⟩, Nat.le_of_ble_eq_true rfl, Nat.le_of_ble_eq_true rfl, Nat.le_of_ble_eq_true rfl⟩ dX8_set_19 (s_X8_most) ?_
        refine cd_X8_29 rfl ⟨⟨Nat.le_of_ble_eq_true rfl, Nat.le_of_ble_eq_true rfl⟩, Nat.le_of_ble_eq_true rfl, Nat.le_of_ble_eq_true rfl, Nat.le_of_ble_eq_true rfl⟩ dX8_set_22 (s_X8_in) ?_
        refine px_ifb_ne (tgt := 31) dX8_set_25 (by decide) (fun h25 => ?_) (fun h25 => (by first | exact absurd (hb) h25 | exact absurd h25 (hb)))
        refine px_iload_1 dX8_set_31 ?_
        refine px_iconst (3) dX8_set_32 rfl ?_
        refine px_icmp_ne (tgt := 47) dX8_set_33 (by decide) (fun h33 => (by first | exact absurd h33 (h3) | exact absurd (h3) h33)) (fun h33 => ?_)
        refine px_aload_0 dX8_set_36 ?_
        refine cd_X8_99 rfl ⟨⟨Nat.le_of_ble_eq_true rfl, Nat.le_of_ble_eq_true rfl⟩, Nat.le_of_ble_eq_true rfl, Nat.le_of_ble_eq_true rfl, Nat.le_of_ble_eq_true rfl⟩ (by first | assumption | exact mo_a hm | exact mo_r0 hm | exact mo_r1 hm | exact mo_r2 hm | exact mo_r4 hm | exact mo_r6 hm | exact mo_r8 hm | exact mo_a1 hm | exact mo_a2 hm | exact mo_a3 hm | exact mo_a4 hm | exact mo_a5 hm | exact mo_a6 hm) dX8_set_37 (hg) ?_
        refine px_iload_2 dX8_set_40 ?_
        refine px_icmp_le (tgt := 47) dX8_set_41 (by decide) (fun h41 => (by first | exact absurd h41 ((Int32.not_le.mpr hlt)) | exact absurd ((Int32.not_le.mpr hlt)) h41)) (fun h41 => ?_)
        refine px_bipush (-5) dX8_set_44 rfl ?_
        refine px_iret dX8_set_46 ?_
        exact px_Qm_err h hf (by decide)
      · have hf : f_set A.1 a b = (A.1 (142 + ix a), upd A.1 (142 + ix a) b) := by clear ha e1 hp hg hV h; grind [f_set]
        have hbc := s_X8_becomes (l := l) (I := px_cpf I (m + 2) 0 151 A.1) (J := J) (v := b) hm (show (142 : Int32) + a = nI (142 + ix a) by rw [← nI_add, ← ha]; rfl) (by omega)
        rw [e1] at hbc
        have hne : (f_set A.1 a b).1 < 0 → (f_set A.1 a b).2 = A.1 := by
          rw [hf]
          intro q
          exfalso
          obtain ⟨g1, g2, g3, g4⟩ := hV.1.1.2.2.2.2.2.2
          rcases (by omega : ix a = 0 ∨ ix a = 1 ∨ ix a = 2 ∨ ix a = 3) with z | z | z | z <;> rw [z] at q
          · exact rg_nneg g1 (by decide) q
          · exact rg_nneg g2 (by decide) q
          · exact rg_nneg g3 (by decide) q
          · exact rg_nneg g4 (by decide) q
        have hend : ∀ μ', (if A.1 (142 + ix a) < 0 then μ' = (T, px_set (px_cpf I (m + 2) 0 151 A.1) (m + 1) (upd A.1 (142 + ix a) b), J, R) else px_Qr T (px_set (px_cpf I (m + 2) 0 151 A.1) (m + 1) (upd A.1 (142 + ix a) b)) J R m (h_push A.2.1.1 A.2.1.2 ((px_set (px_cpf I (m + 2) 0 151 A.1) (m + 1) (upd A.1 (142 + ix a) b)) (m + 2))) none μ') → px_Qm T I J R m (.int (f_set A.1 a b).1) (a_chg A (f_set A.1 a b)) (some (.int (A.1 (142 + ix a)))) μ' := by
          intro μ' hu
          have := chg_end (T := T) (J := J) (R := R) (u := some (.int (f_set A.1 a b).1)) (μ' := μ') h hne ⟨rfl, by rw [hf]; exact hu⟩
          rw [hf] at this ⊢
          exact this
        by_cases h3 : a = 3
        · skip
          refine px_aload_0 dX8_set_0 ?_
          refine cd_X8_90 rfl ⟨⟨Nat.le_of_ble_eq_true rfl, Nat.le_of_ble_eq_true rfl⟩, Nat.le_of_ble_eq_true rfl, Nat.le_of_ble_eq_true rfl, Nat.le_of_ble_eq_true rfl⟩ (by first | assumption | exact mo_a hm | exact mo_r0 hm | exact mo_r1 hm | exact mo_r2 hm | exact mo_r4 hm | exact mo_r6 hm | exact mo_r8 hm | exact mo_a1 hm | exact mo_a2 hm | exact mo_a3 hm | exact mo_a4 hm | exact mo_a5 hm | exact mo_a6 hm) dX8_set_1 (hp) ?_
          refine px_iload_1 dX8_set_4 ?_
          refine px_iconst (0) dX8_set_5 rfl ?_
          refine px_iconst (3) dX8_set_6 rfl ?_
          refine cd_X8_29 rfl ⟨⟨Nat.le_of_ble_eq_true rfl, Nat.le_of_ble_eq_true rfl⟩, Nat.le_of_ble_eq_true rfl, Nat.le_of_ble_eq_true rfl, Nat.le_of_ble_eq_true rfl⟩ dX8_set_7 (s_X8_in) ?_
          refine px_ifb_eq (tgt := 28) dX8_set_10 (by decide) (fun h10 => (by first | exact absurd h10 (hr) | exact absurd (hr) h10)) (fun h10 => ?_)
          refine px_iload_2 dX8_set_13 ?_
          refine px_iload_1 dX8_set_14 ?_
          refine cd_X8_93 rfl ⟨⟨Nat.le_of_ble_eq_true rfl, Nat.le_of_ble_eq_true rfl⟩, Nat.le_of_ble_eq_true rfl, Nat.le_of_ble_eq_true rfl, Nat.le_of_ble_eq_true rfl⟩ dX8_set_15 (s_X8_least) ?_
          refine px_iload_1 dX8_set_18 ?_
          refine cd_X8_96 rfl ⟨⟨Nat.le_of_ble_eq_true rfl, Nat.le_of_ble_eq_true rfl⟩, Nat.le_of_ble_eq_true rfl, Nat.le_of_ble_eq_true rfl, Nat.le_of_ble_eq_true rfl⟩ dX8_set_19 (s_X8_most) ?_
          refine cd_X8_29 rfl ⟨⟨Nat.le_of_ble_eq_true rfl, Nat.le_of_ble_eq_true rfl⟩, Nat.le_of_ble_eq_true rfl, Nat.le_of_ble_eq_true rfl, Nat.le_of_ble_eq_true rfl⟩ dX8_set_22 (s_X8_in) ?_
          refine px_ifb_ne (tgt := 31) dX8_set_25 (by decide) (fun h25 => ?_) (fun h25 => (by first | exact absurd (hb) h25 | exact absurd h25 (hb)))
          refine px_iload_1 dX8_set_31 ?_
          refine px_iconst (3) dX8_set_32 rfl ?_
          refine px_icmp_ne (tgt := 47) dX8_set_33 (by decide) (fun h33 => (by first | exact absurd h33 (h3) | exact absurd (h3) h33)) (fun h33 => ?_)
          refine px_aload_0 dX8_set_36 ?_
          refine cd_X8_99 rfl ⟨⟨Nat.le_of_ble_eq_true rfl, Nat.le_of_ble_eq_true rfl⟩, Nat.le_of_ble_eq_true rfl, Nat.le_of_ble_eq_true rfl, Nat.le_of_ble_eq_true rfl⟩ (by first | assumption | exact mo_a hm | exact mo_r0 hm | exact mo_r1 hm | exact mo_r2 hm | exact mo_r4 hm | exact mo_r6 hm | exact mo_r8 hm | exact mo_a1 hm | exact mo_a2 hm | exact mo_a3 hm | exact mo_a4 hm | exact mo_a5 hm | exact mo_a6 hm) dX8_set_37 (hg) ?_
          refine px_iload_2 dX8_set_40 ?_
          refine px_icmp_le (tgt := 47) dX8_set_41 (by decide) (fun h41 => ?_) (fun h41 => (by first | exact absurd ((Int32.not_lt.mp (fun z => hq ⟨h3, z⟩))) h41 | exact absurd h41 ((Int32.not_lt.mp (fun z => hq ⟨h3, z⟩)))))
          refine px_aload_0 dX8_set_47 ?_
          refine px_aload_0 dX8_set_48 ?_
          refine px_sipush (142) dX8_set_49 rfl ?_
          refine px_iload_1 dX8_set_52 ?_
          refine px_iadd dX8_set_53 ?_
          refine px_iload_2 dX8_set_54 ?_
          refine cd_X8_102 rfl ⟨⟨Nat.le_of_ble_eq_true rfl, Nat.le_of_ble_eq_true rfl⟩, Nat.le_of_ble_eq_true rfl, Nat.le_of_ble_eq_true rfl, Nat.le_of_ble_eq_true rfl⟩ (by first | assumption | exact mo_a hm | exact mo_r0 hm | exact mo_r1 hm | exact mo_r2 hm | exact mo_r4 hm | exact mo_r6 hm | exact mo_r8 hm | exact mo_a1 hm | exact mo_a2 hm | exact mo_a3 hm | exact mo_a4 hm | exact mo_a5 hm | exact mo_a6 hm) dX8_set_55 (hbc) ?_
          refine cg_X8_105 rfl ⟨⟨Nat.le_of_ble_eq_true rfl, Nat.le_of_ble_eq_true rfl⟩, Nat.le_of_ble_eq_true rfl, Nat.le_of_ble_eq_true rfl, Nat.le_of_ble_eq_true rfl⟩ (by first | assumption | exact mo_a hm | exact mo_r0 hm | exact mo_r1 hm | exact mo_r2 hm | exact mo_r4 hm | exact mo_r6 hm | exact mo_r8 hm | exact mo_a1 hm | exact mo_a2 hm | exact mo_a3 hm | exact mo_a4 hm | exact mo_a5 hm | exact mo_a6 hm) dX8_set_58 (s_X8_changed hm (hi_set h)) ?_
          rintro u μ' ⟨rfl, hu⟩
          refine px_iret dX8_set_61 ?_
          exact hend _ hu
        · skip
          refine px_aload_0 dX8_set_0 ?_
          refine cd_X8_90 rfl ⟨⟨Nat.le_of_ble_eq_true rfl, Nat.le_of_ble_eq_true rfl⟩, Nat.le_of_ble_eq_true rfl, Nat.le_of_ble_eq_true rfl, Nat.le_of_ble_eq_true rfl⟩ (by first | assumption | exact mo_a hm | exact mo_r0 hm | exact mo_r1 hm | exact mo_r2 hm | exact mo_r4 hm | exact mo_r6 hm | exact mo_r8 hm | exact mo_a1 hm | exact mo_a2 hm | exact mo_a3 hm | exact mo_a4 hm | exact mo_a5 hm | exact mo_a6 hm) dX8_set_1 (hp) ?_
          refine px_iload_1 dX8_set_4 ?_
          refine px_iconst (0) dX8_set_5 rfl ?_
          refine px_iconst (3) dX8_set_6 rfl ?_
          refine cd_X8_29 rfl ⟨⟨Nat.le_of_ble_eq_true rfl, Nat.le_of_ble_eq_true rfl⟩, Nat.le_of_ble_eq_true rfl, Nat.le_of_ble_eq_true rfl, Nat.le_of_ble_eq_true rfl⟩ dX8_set_7 (s_X8_in) ?_
          refine px_ifb_eq (tgt := 28) dX8_set_10 (by decide) (fun h10 => (by first | exact absurd h10 (hr) | exact absurd (hr) h10)) (fun h10 => ?_)
          refine px_iload_2 dX8_set_13 ?_
          refine px_iload_1 dX8_set_14 ?_
          refine cd_X8_93 rfl ⟨⟨Nat.le_of_ble_eq_true rfl, Nat.le_of_ble_eq_true rfl⟩, Nat.le_of_ble_eq_true rfl, Nat.le_of_ble_eq_true rfl, Nat.le_of_ble_eq_true rfl⟩ dX8_set_15 (s_X8_least) ?_
          refine px_iload_1 dX8_set_18 ?_
          refine cd_X8_96 rfl ⟨⟨Nat.le_of_ble_eq_true rfl, Nat.le_of_ble_eq_true rfl⟩, Nat.le_of_ble_eq_true rfl, Nat.le_of_ble_eq_true rfl, Nat.le_of_ble_eq_true rfl⟩ dX8_set_19 (s_X8_most) ?_
          refine cd_X8_29 rfl ⟨⟨Nat.le_of_ble_eq_true rfl, Nat.le_of_ble_eq_true rfl⟩, Nat.le_of_ble_eq_true rfl, Nat.le_of_ble_eq_true rfl, Nat.le_of_ble_eq_true rfl⟩ dX8_set_22 (s_X8_in) ?_
          refine px_ifb_ne (tgt := 31) dX8_set_25 (by decide) (fun h25 => ?_) (fun h25 => (by first | exact absurd (hb) h25 | exact absurd h25 (hb)))
          refine px_iload_1 dX8_set_31 ?_
          refine px_iconst (3) dX8_set_32 rfl ?_
          refine px_icmp_ne (tgt := 47) dX8_set_33 (by decide) (fun h33 => ?_) (fun h33 => (by first | exact absurd (h3) h33 | exact absurd h33 (h3)))
          refine px_aload_0 dX8_set_47 ?_
          refine px_aload_0 dX8_set_48 ?_
          refine px_sipush (142) dX8_set_49 rfl ?_
          refine px_iload_1 dX8_set_52 ?_
          refine px_iadd dX8_set_53 ?_
          refine px_iload_2 dX8_set_54 ?_
          refine cd_X8_102 rfl ⟨⟨Nat.le_of_ble_eq_true rfl, Nat.le_of_ble_eq_true rfl⟩, Nat.le_of_ble_eq_true rfl, Nat.le_of_ble_eq_true rfl, Nat.le_of_ble_eq_true rfl⟩ (by first | assumption | exact mo_a hm | exact mo_r0 hm | exact mo_r1 hm | exact mo_r2 hm | exact mo_r4 hm | exact mo_r6 hm | exact mo_r8 hm | exact mo_a1 hm | exact mo_a2 hm | exact mo_a3 hm | exact mo_a4 hm | exact mo_a5 hm | exact mo_a6 hm) dX8_set_55 (hbc) ?_
          refine cg_X8_105 rfl ⟨⟨Nat.le_of_ble_eq_true rfl, Nat.le_of_ble_eq_true rfl⟩, Nat.le_of_ble_eq_true rfl, Nat.le_of_ble_eq_true rfl, Nat.le_of_ble_eq_true rfl⟩ (by first | assumption | exact mo_a hm | exact mo_r0 hm | exact mo_r1 hm | exact mo_r2 hm | exact mo_r4 hm | exact mo_r6 hm | exact mo_r8 hm | exact mo_a1 hm | exact mo_a2 hm | exact mo_a3 hm | exact mo_a4 hm | exact mo_a5 hm | exact mo_a6 hm) dX8_set_58 (s_X8_changed hm (hi_set h)) ?_
          rintro u μ' ⟨rfl, hu⟩
          refine px_iret dX8_set_61 ?_
          exact hend _ hu
    · have hf : f_set A.1 a b = (-2, A.1) := by clear ha e1 hp hg hV h; grind [f_set]
      refine px_aload_0 dX8_set_0 ?_
      refine cd_X8_90 rfl ⟨⟨Nat.le_of_ble_eq_true rfl, Nat.le_of_ble_eq_true rfl⟩, Nat.le_of_ble_eq_true rfl, Nat.le_of_ble_eq_true rfl, Nat.le_of_ble_eq_true rfl⟩ (by first | assumption | exact mo_a hm | exact mo_r0 hm | exact mo_r1 hm | exact mo_r2 hm | exact mo_r4 hm | exact mo_r6 hm | exact mo_r8 hm | exact mo_a1 hm | exact mo_a2 hm | exact mo_a3 hm | exact mo_a4 hm | exact mo_a5 hm | exact mo_a6 hm) dX8_set_1 (hp) ?_
      refine px_iload_1 dX8_set_4 ?_
      refine px_iconst (0) dX8_set_5 rfl ?_
      refine px_iconst (3) dX8_set_6 rfl ?_
      refine cd_X8_29 rfl ⟨⟨Nat.le_of_ble_eq_true rfl, Nat.le_of_ble_eq_true rfl⟩, Nat.le_of_ble_eq_true rfl, Nat.le_of_ble_eq_true rfl, Nat.le_of_ble_eq_true rfl⟩ dX8_set_7 (s_X8_in) ?_
      refine px_ifb_eq (tgt := 28) dX8_set_10 (by decide) (fun h10 => (by first | exact absurd h10 (hr) | exact absurd (hr) h10)) (fun h10 => ?_)
      refine px_iload_2 dX8_set_13 ?_
      refine px_iload_1 dX8_set_14 ?_
      refine cd_X8_93 rfl ⟨⟨Nat.le_of_ble_eq_true rfl, Nat.le_of_ble_eq_true rfl⟩, Nat.le_of_ble_eq_true rfl, Nat.le_of_ble_eq_true rfl, Nat.le_of_ble_eq_true rfl⟩ dX8_set_15 (s_X8_least) ?_
      refine px_iload_1 dX8_set_18 ?_
      refine cd_X8_96 rfl ⟨⟨Nat.le_of_ble_eq_true rfl, Nat.le_of_ble_eq_true rfl⟩, Nat.le_of_ble_eq_true rfl, Nat.le_of_ble_eq_true rfl, Nat.le_of_ble_eq_true rfl⟩ dX8_set_19 (s_X8_most) ?_
      refine cd_X8_29 rfl ⟨⟨Nat.le_of_ble_eq_true rfl, Nat.le_of_ble_eq_true rfl⟩, Nat.le_of_ble_eq_true rfl, Nat.le_of_ble_eq_true rfl, Nat.le_of_ble_eq_true rfl⟩ dX8_set_22 (s_X8_in) ?_
      refine px_ifb_ne (tgt := 31) dX8_set_25 (by decide) (fun h25 => (by first | exact absurd h25 (hb) | exact absurd (hb) h25)) (fun h25 => ?_)
      refine px_bipush (-2) dX8_set_28 rfl ?_
      refine px_iret dX8_set_30 ?_
      exact px_Qm_err h hf (by decide)
  · have hf : f_set A.1 a b = (-2, A.1) := by clear e1 hp hg hV h; grind [f_set]
    refine px_aload_0 dX8_set_0 ?_
    refine cd_X8_90 rfl ⟨⟨Nat.le_of_ble_eq_true rfl, Nat.le_of_ble_eq_true rfl⟩, Nat.le_of_ble_eq_true rfl, Nat.le_of_ble_eq_true rfl, Nat.le_of_ble_eq_true rfl⟩ (by first | assumption | exact mo_a hm | exact mo_r0 hm | exact mo_r1 hm | exact mo_r2 hm | exact mo_r4 hm | exact mo_r6 hm | exact mo_r8 hm | exact mo_a1 hm | exact mo_a2 hm | exact mo_a3 hm | exact mo_a4 hm | exact mo_a5 hm | exact mo_a6 hm) dX8_set_1 (hp) ?_
    refine px_iload_1 dX8_set_4 ?_
    refine px_iconst (0) dX8_set_5 rfl ?_
    refine px_iconst (3) dX8_set_6 rfl ?_
    refine cd_X8_29 rfl ⟨⟨Nat.le_of_ble_eq_true rfl, Nat.le_of_ble_eq_true rfl⟩, Nat.le_of_ble_eq_true rfl, Nat.le_of_ble_eq_true rfl, Nat.le_of_ble_eq_true rfl⟩ dX8_set_7 (s_X8_in) ?_
    refine px_ifb_eq (tgt := 28) dX8_set_10 (by decide) (fun h10 => ?_) (fun h10 => (by first | exact absurd (hr) h10 | exact absurd h10 (hr)))
    refine px_bipush (-2) dX8_set_28 rfl ?_
    refine px_iret dX8_set_30 ?_
    exact px_Qm_err h hf (by decide)
theorem s_X8_toll {a b : Int32} (hm : px_mo G T R m) (h : px_MI I m A) (hV : px_AV A) : px_C l G 2 0 0 mX8_toll [.ref m, .int a, .int b] (T, I, J, R) (px_Qm T I J R m (.int (f_toll A.1 a b).1) (a_chg A (f_toll A.1 a b))) := by
  have e1 : px_cpf I (m + 2) 0 151 A.1 (m + 1) = A.1 := by rw [px_cpf_ne (by omega)]; exact h.1
  have hp := s_X8_putAside (l := l) (I := I) (J := J) hm
  rw [h.1] at hp
  have hi := s_X8_isRoad (l := l) (I := px_cpf I (m + 2) 0 151 A.1) (J := J) (v := a) hm
  rw [e1] at hi
  refine px_met (M := mX8_toll) ([some (.ref m), some (.int a), some (.int b)]) (by decide +kernel) rfl (Nat.le_of_ble_eq_true rfl) rfl ?_
  by_cases hr : rg a 0 (A.1 8 - 1)
  · obtain ⟨ha, hl, h14⟩ := rd_lt hV.1.1 hr
    by_cases hb : rg b 0 200
    · have hf : f_toll A.1 a b = (A.1 (9 + 6 * ix a + 2), upd A.1 (9 + 6 * ix a + 2) b) := by clear ha e1 hp hi hV h; grind [f_toll]
      have hbc := s_X8_becomes (l := l) (I := px_cpf I (m + 2) 0 151 A.1) (J := J) (v := b) hm (rfl : nI (9 + 6 * ix a + 2) = nI (9 + 6 * ix a + 2)) (by omega)
      rw [e1] at hbc
      have hne : (f_toll A.1 a b).1 < 0 → (f_toll A.1 a b).2 = A.1 := by
        rw [hf]
        intro q
        exfalso
        obtain ⟨-, -, -, -, -, -, -, r, -⟩ := hV.1.1.2.1 _ hl
        exact rg_nneg r (by decide) q
      have hend : ∀ μ', (if A.1 (9 + 6 * ix a + 2) < 0 then μ' = (T, px_set (px_cpf I (m + 2) 0 151 A.1) (m + 1) (upd A.1 (9 + 6 * ix a + 2) b), J, R) else px_Qr T (px_set (px_cpf I (m + 2) 0 151 A.1) (m + 1) (upd A.1 (9 + 6 * ix a + 2) b)) J R m (h_push A.2.1.1 A.2.1.2 ((px_set (px_cpf I (m + 2) 0 151 A.1) (m + 1) (upd A.1 (9 + 6 * ix a + 2) b)) (m + 2))) none μ') → px_Qm T I J R m (.int (f_toll A.1 a b).1) (a_chg A (f_toll A.1 a b)) (some (.int (A.1 (9 + 6 * ix a + 2)))) μ' := by
        intro μ' hu
        have := chg_end (T := T) (J := J) (R := R) (u := some (.int (f_toll A.1 a b).1)) (μ' := μ') h hne ⟨rfl, by rw [hf]; exact hu⟩
        rw [hf] at this ⊢
        exact this
      refine px_aload_0 dX8_toll_0 ?_
      refine cd_X8_90 rfl ⟨⟨Nat.le_of_ble_eq_true rfl, Nat.le_of_ble_eq_true rfl⟩, Nat.le_of_ble_eq_true rfl, Nat.le_of_ble_eq_true rfl, Nat.le_of_ble_eq_true rfl⟩ (by first | assumption | exact mo_a hm | exact mo_r0 hm | exact mo_r1 hm | exact mo_r2 hm | exact mo_r4 hm | exact mo_r6 hm | exact mo_r8 hm | exact mo_a1 hm | exact mo_a2 hm | exact mo_a3 hm | exact mo_a4 hm | exact mo_a5 hm | exact mo_a6 hm) dX8_toll_1 (hp) ?_
      refine px_aload_0 dX8_toll_4 ?_
      refine px_iload_1 dX8_toll_5 ?_
      refine cd_X8_118 rfl ⟨⟨Nat.le_of_ble_eq_true rfl, Nat.le_of_ble_eq_true rfl⟩, Nat.le_of_ble_eq_true rfl, Nat.le_of_ble_eq_true rfl, Nat.le_of_ble_eq_true rfl⟩ (by first | assumption | exact mo_a hm | exact mo_r0 hm | exact mo_r1 hm | exact mo_r2 hm | exact mo_r4 hm | exact mo_r6 hm | exact mo_r8 hm | exact mo_a1 hm | exact mo_a2 hm | exact mo_a3 hm | exact mo_a4 hm | exact mo_a5 hm | exact mo_a6 hm) dX8_toll_6 (hi) ?_
      refine px_ifb_ne (tgt := 16) dX8_toll_9 (by decide) (fun h9 => ?_) (fun h9 => (by first | exact absurd (hr) h9 | exact absurd h9 (hr)))
      refine px_iload_2 dX8_toll_16 ?_
      refine px_iconst (0) dX8_toll_17 rfl ?_
      refine px_sipush (200) dX8_toll_18 rfl ?_
      refine cd_X8_29 rfl ⟨⟨Nat.le_of_ble_eq_true rfl, Nat.le_of_ble_eq_true rfl⟩, Nat.le_of_ble_eq_true rfl, Nat.le_of_ble_eq_true rfl, Nat.le_of_ble_eq_true rfl⟩ dX8_toll_21 (s_X8_in) ?_
      refine px_ifb_eq (tgt := 44) dX8_toll_24 (by decide) (fun h24 => (by first | exact absurd h24 (hb) | exact absurd (hb) h24)) (fun h24 => ?_)
      refine px_aload_0 dX8_toll_27 ?_
      refine px_aload_0 dX8_toll_28 ?_
      refine px_iload_1 dX8_toll_29 ?_
      refine px_iconst (2) dX8_toll_30 rfl ?_
      refine cd_X8_40 rfl ⟨⟨Nat.le_of_ble_eq_true rfl, Nat.le_of_ble_eq_true rfl⟩, Nat.le_of_ble_eq_true rfl, Nat.le_of_ble_eq_true rfl, Nat.le_of_ble_eq_true rfl⟩ dX8_toll_31 (s_X8_ofOneRoad (j := 2) ha) ?_
      refine px_iload_2 dX8_toll_34 ?_
      refine cd_X8_102 rfl ⟨⟨Nat.le_of_ble_eq_true rfl, Nat.le_of_ble_eq_true rfl⟩, Nat.le_of_ble_eq_true rfl, Nat.le_of_ble_eq_true rfl, Nat.le_of_ble_eq_true rfl⟩ (by first | assumption | exact mo_a hm | exact mo_r0 hm | exact mo_r1 hm | exact mo_r2 hm | exact mo_r4 hm | exact mo_r6 hm | exact mo_r8 hm | exact mo_a1 hm | exact mo_a2 hm | exact mo_a3 hm | exact mo_a4 hm | exact mo_a5 hm | exact mo_a6 hm) dX8_toll_35 (hbc) ?_
      refine cg_X8_105 rfl ⟨⟨Nat.le_of_ble_eq_true rfl, Nat.le_of_ble_eq_true rfl⟩, Nat.le_of_ble_eq_true rfl, Nat.le_of_ble_eq_true rfl, Nat.le_of_ble_eq_true rfl⟩ (by first | assumption | exact mo_a hm | exact mo_r0 hm | exact mo_r1 hm | exact mo_r2 hm | exact mo_r4 hm | exact mo_r6 hm | exact mo_r8 hm | exact mo_a1 hm | exact mo_a2 hm | exact mo_a3 hm | exact mo_a4 hm | exact mo_a5 hm | exact mo_a6 hm) dX8_toll_38 (s_X8_changed hm (hi_set h)) ?_
      rintro u μ' ⟨rfl, hu⟩
      refine px_goto (tgt := 46) dX8_toll_41 (by decide) ?_
      refine px_iret dX8_toll_46 ?_
      exact hend _ hu
    · have hf : f_toll A.1 a b = (-2, A.1) := by clear ha e1 hp hi hV h; grind [f_toll]
      refine px_aload_0 dX8_toll_0 ?_
      refine cd_X8_90 rfl ⟨⟨Nat.le_of_ble_eq_true rfl, Nat.le_of_ble_eq_true rfl⟩, Nat.le_of_ble_eq_true rfl, Nat.le_of_ble_eq_true rfl, Nat.le_of_ble_eq_true rfl⟩ (by first | assumption | exact mo_a hm | exact mo_r0 hm | exact mo_r1 hm | exact mo_r2 hm | exact mo_r4 hm | exact mo_r6 hm | exact mo_r8 hm | exact mo_a1 hm | exact mo_a2 hm | exact mo_a3 hm | exact mo_a4 hm | exact mo_a5 hm | exact mo_a6 hm) dX8_toll_1 (hp) ?_
      refine px_aload_0 dX8_toll_4 ?_
      refine px_iload_1 dX8_toll_5 ?_
      refine cd_X8_118 rfl ⟨⟨Nat.le_of_ble_eq_true rfl, Nat.le_of_ble_eq_true rfl⟩, Nat.le_of_ble_eq_true rfl, Nat.le_of_ble_eq_true rfl, Nat.le_of_ble_eq_true rfl⟩ (by first | assumption | exact mo_a hm | exact mo_r0 hm | exact mo_r1 hm | exact mo_r2 hm | exact mo_r4 hm | exact mo_r6 hm | exact mo_r8 hm | exact mo_a1 hm | exact mo_a2 hm | exact mo_a3 hm | exact mo_a4 hm | exact mo_a5 hm | exact mo_a6 hm) dX8_toll_6 (hi) ?_
      refine px_ifb_ne (tgt := 16) dX8_toll_9 (by decide) (fun h9 => ?_) (fun h9 => (by first | exact absurd (hr) h9 | exact absurd h9 (hr)))
      refine px_iload_2 dX8_toll_16 ?_
      refine px_iconst (0) dX8_toll_17 rfl ?_
      refine px_sipush (200) dX8_toll_18 rfl ?_
      refine cd_X8_29 rfl ⟨⟨Nat.le_of_ble_eq_true rfl, Nat.le_of_ble_eq_true rfl⟩, Nat.le_of_ble_eq_true rfl, Nat.le_of_ble_eq_true rfl, Nat.le_of_ble_eq_true rfl⟩ dX8_toll_21 (s_X8_in) ?_
      refine px_ifb_eq (tgt := 44) dX8_toll_24 (by decide) (fun h24 => ?_) (fun h24 => (by first | exact absurd (hb) h24 | exact absurd h24 (hb)))
      refine px_bipush (-2) dX8_toll_44 rfl ?_
      refine px_iret dX8_toll_46 ?_
      exact px_Qm_err h hf (by decide)
  · have hf : f_toll A.1 a b = (-1, A.1) := by clear e1 hp hi hV h; grind [f_toll]
    refine px_aload_0 dX8_toll_0 ?_
    refine cd_X8_90 rfl ⟨⟨Nat.le_of_ble_eq_true rfl, Nat.le_of_ble_eq_true rfl⟩, Nat.le_of_ble_eq_true rfl, Nat.le_of_ble_eq_true rfl, Nat.le_of_ble_eq_true rfl⟩ (by first | assumption | exact mo_a hm | exact mo_r0 hm | exact mo_r1 hm | exact mo_r2 hm | exact mo_r4 hm | exact mo_r6 hm | exact mo_r8 hm | exact mo_a1 hm | exact mo_a2 hm | exact mo_a3 hm | exact mo_a4 hm | exact mo_a5 hm | exact mo_a6 hm) dX8_toll_1 (hp) ?_
    refine px_aload_0 dX8_toll_4 ?_
    refine px_iload_1 dX8_toll_5 ?_
    refine cd_X8_118 rfl ⟨⟨Nat.le_of_ble_eq_true rfl, Nat.le_of_ble_eq_true rfl⟩, Nat.le_of_ble_eq_true rfl, Nat.le_of_ble_eq_true rfl, Nat.le_of_ble_eq_true rfl⟩ (by first | assumption | exact mo_a hm | exact mo_r0 hm | exact mo_r1 hm | exact mo_r2 hm | exact mo_r4 hm | exact mo_r6 hm | exact mo_r8 hm | exact mo_a1 hm | exact mo_a2 hm | exact mo_a3 hm | exact mo_a4 hm | exact mo_a5 hm | exact mo_a6 hm) dX8_toll_6 (hi) ?_
    refine px_ifb_ne (tgt := 16) dX8_toll_9 (by decide) (fun h9 => (by first | exact absurd h9 (hr) | exact absurd (hr) h9)) (fun h9 => ?_)
    refine px_iconst (-1) dX8_toll_12 rfl ?_
    refine px_goto (tgt := 46) dX8_toll_13 (by decide) ?_
    refine px_iret dX8_toll_46 ?_
    exact px_Qm_err h hf (by decide)
end MQ2

