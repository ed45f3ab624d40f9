/-! two objects, one behind the other; areAlike -/
section ALI
variable {l : Launch} {G : px_G} {T : px_T} {I I' I0 : px_I} {J : px_J} {R : px_R} {μ : px_M} {x y : Nat} {σ : px_s} {A B : px_a}
def px_S2 (T : px_T) (R : px_R) (x y : Nat) (A B : px_a) (μ : px_M) : Prop := ∃ (I : px_I) (J : px_J), μ = (T, I, J, R) ∧ px_CI I x A ∧ px_CI I y B
def px_QB (T : px_T) (R : px_R) (x y : Nat) (w : Value) (A B : px_a) : Option Value → px_M → Prop := fun v μ' => v = some w ∧ px_S2 T R x y A B μ'
theorem S2_x (hx : px_co G T R x) (hS : px_S2 T R x y A B μ) : px_at G μ.1 x 7 0 := by
  obtain ⟨I, J, rfl, -⟩ := hS
  exact co_a hx
theorem S2_y (hy : px_co G T R y) (hS : px_S2 T R x y A B μ) : px_at G μ.1 y 7 0 := by
  obtain ⟨I, J, rfl, -⟩ := hS
  exact co_a hy
theorem two_x {lv : Nat} {M : px_D} {As : List Value} {w : Value} {A' : px_a} (hd : x + 275 ≤ y) (hS : px_S2 T R x y A B μ) (hVB : px_AV B) (h : ∀ I0, px_S1 T R I0 x A μ → px_C l G lv 0 0 M As μ (px_QA T R I0 x w A')) : px_C l G lv 0 0 M As μ (px_QB T R x y w A' B) := by
  obtain ⟨I, J, rfl, hc, hb⟩ := hS
  refine px_C_mono (h I ⟨I, J, rfl, hc, fun _ _ => rfl⟩) ?_
  rintro v μ' ⟨rfl, I', J', rfl, hc', hf⟩
  exact ⟨rfl, I', J', rfl, hc', CI_out hb hVB (fun a a1 a2 => hf a (by omega))⟩
theorem two_y {lv : Nat} {M : px_D} {As : List Value} {w : Value} {B' : px_a} (hd : x + 275 ≤ y) (hS : px_S2 T R x y A B μ) (hVA : px_AV A) (h : ∀ I0, px_S1 T R I0 y B μ → px_C l G lv 0 0 M As μ (px_QA T R I0 y w B')) : px_C l G lv 0 0 M As μ (px_QB T R x y w A B') := by
  obtain ⟨I, J, rfl, hc, hb⟩ := hS
  refine px_C_mono (h I ⟨I, J, rfl, hb, fun _ _ => rfl⟩) ?_
  rintro v μ' ⟨rfl, I', J', rfl, hc', hf⟩
  exact ⟨rfl, I', J', rfl, CI_out hc hVA (fun a a1 a2 => hf a (by omega)), hc'⟩
theorem cnt_same (h : A.1 = B.1) {k : Nat} (hk : k < 16) : f_cnt A (nI k) = f_cnt B (nI k) := by
  have e16 : ¬ nI k = 16 := fun q => absurd ((nI_eq (a := k) (b := 16) (by omega) (by decide)).mp q) (by omega)
  have e17 : ¬ nI k = 17 := fun q => absurd ((nI_eq (a := k) (b := 17) (by omega) (by decide)).mp q) (by omega)
  simp only [f_cnt, h, e16, e17, if_false]
theorem s_L_areAlike (hx : px_co G T R x) (hy : px_co G T R y) (hG : px_tabs G) (hd : x + 275 ≤ y) (hS : px_S2 T R x y A B μ) (hVA : px_AV A) (hVB : px_AV B) (h : A.1 = B.1) : px_C l G 7 0 0 mL_areAlike [.ref x, .ref y] μ (px_QB T R x y (.int (if True then 1 else 0)) A B) := by
  refine px_met (M := mL_areAlike) ([some (.ref x), some (.ref y), none, none]) (by decide +kernel) rfl (Nat.le_of_ble_eq_true rfl) rfl ?_
  generalize hQ : px_QB T R x y (.int (if True then 1 else 0)) A B = Q
  have n14 := hVA.1.1.1.2.1
  have e8 : (9 : Int32) * A.1 8 = nI (9 * f_nr A.1) := by rw [hVA.1.1.1.1, show (9 : Int32) = nI 9 from rfl, pk_mul]
  have L4 : ∀ n k, k + n = 48 → ∀ μ, px_S2 T R x y A B μ → (px_W l G yL_areAlike cL_areAlike 4 (some .boolean) (px_rm 7 0 0) (px_Fn G Q 0 0) 145 [some (.ref x), some (.ref y), some (.int 1), some (.int (nI k))] [] 0 0 μ) := by
    intro n
    induction n with
    | zero =>
      intro k hk μ hS
      refine px_iload_3 dL_areAlike_145 ?_
      refine px_bipush (48) dL_areAlike_146 rfl ?_
      refine px_icmp_ge (tgt := 194) dL_areAlike_148 (by decide) (fun h148 => ?_) (fun h148 => (by first | exact absurd ((nI_le (a := 48) (b := k) (by omega) (by omega))) h148 | exact absurd h148 ((nI_le (a := 48) (b := k) (by omega) (by omega)))))
      refine px_iload_2 dL_areAlike_194 ?_
      refine px_zret dL_areAlike_195 (by first | rfl | exact px_nb _) ?_
      subst hQ; exact ⟨rfl, hS⟩
    | succ n ih =>
      intro k hk μ hS
      refine px_iload_3 dL_areAlike_145 ?_
      refine px_bipush (48) dL_areAlike_146 rfl ?_
      refine px_icmp_ge (tgt := 194) dL_areAlike_148 (by decide) (fun h148 => (by first | exact absurd h148 ((nI_ge (a := k) (b := 48) (by omega) (by omega))) | exact absurd ((nI_ge (a := k) (b := 48) (by omega) (by omega))) h148)) (fun h148 => ?_)
      refine px_iload_2 dL_areAlike_151 ?_
      refine px_if_eq (tgt := 186) dL_areAlike_152 (by decide) (fun h152 => (by first | exact absurd h152 ((by decide)) | exact absurd ((by decide)) h152)) (fun h152 => ?_)
      refine px_aload_0 dL_areAlike_155 ?_
      refine px_iload_3 dL_areAlike_156 ?_
      refine px_bipush (8) dL_areAlike_157 rfl ?_
      refine px_idiv dL_areAlike_159 (by decide) ?_
      refine px_iload_3 dL_areAlike_160 ?_
      refine px_bipush (8) dL_areAlike_161 rfl ?_
      refine px_irem dL_areAlike_163 (by decide) ?_
      refine cg_L_59 rfl ⟨⟨Nat.le_of_ble_eq_true rfl, Nat.le_of_ble_eq_true rfl⟩, Nat.le_of_ble_eq_true rfl, Nat.le_of_ble_eq_true rfl, Nat.le_of_ble_eq_true rfl⟩ (by first | assumption | exact S2_x hx hS | exact S2_y hy hS) dL_areAlike_164 (two_x hd hS hVB (fun I0 h => o_ofCart hx hG h hVA rfl)) ?_
      rintro _ μ1 ⟨rfl, hS⟩
      refine px_aload_1 dL_areAlike_167 ?_
      refine px_iload_3 dL_areAlike_168 ?_
      refine px_bipush (8) dL_areAlike_169 rfl ?_
      refine px_idiv dL_areAlike_171 (by decide) ?_
      refine px_iload_3 dL_areAlike_172 ?_
      refine px_bipush (8) dL_areAlike_173 rfl ?_
      refine px_irem dL_areAlike_175 (by decide) ?_
      refine cg_L_59 rfl ⟨⟨Nat.le_of_ble_eq_true rfl, Nat.le_of_ble_eq_true rfl⟩, Nat.le_of_ble_eq_true rfl, Nat.le_of_ble_eq_true rfl, Nat.le_of_ble_eq_true rfl⟩ (by first | assumption | exact S2_x hx hS | exact S2_y hy hS) dL_areAlike_176 (two_y hd hS hVA (fun I0 h => o_ofCart hy hG h hVB rfl)) ?_
      rintro _ μ2 ⟨rfl, hS⟩
      refine px_icmp_ne (tgt := 186) dL_areAlike_179 (by decide) (fun h179 => (by first | exact absurd h179 ((congrArg (fun s => f_oc s _ _) h)) | exact absurd ((congrArg (fun s => f_oc s _ _) h)) h179)) (fun h179 => ?_)
      refine px_iconst (1) dL_areAlike_182 rfl ?_
      refine px_goto (tgt := 187) dL_areAlike_183 (by decide) ?_
      refine px_istore_2 dL_areAlike_187 rfl ?_
      refine px_iinc_3 dL_areAlike_188 rfl ?_
      refine px_goto (tgt := 145) dL_areAlike_191 (by decide) ?_
      rw [inc_nI]; exact ih (k + 1) (by omega) _ hS
  have L3 : ∀ n k, k + n = 9 * f_nr A.1 → ∀ μ, px_S2 T R x y A B μ → (px_W l G yL_areAlike cL_areAlike 4 (some .boolean) (px_rm 7 0 0) (px_Fn G Q 0 0) 88 [some (.ref x), some (.ref y), some (.int 1), some (.int (nI k))] [] 0 0 μ) := by
    intro n
    induction n with
    | zero =>
      intro k hk μ hS
      refine px_iload_3 dL_areAlike_88 ?_
      refine px_bipush (9) dL_areAlike_89 rfl ?_
      refine px_aload_0 dL_areAlike_91 ?_
      refine px_iconst (0) dL_areAlike_92 rfl ?_
      refine cg_L_14 rfl ⟨⟨Nat.le_of_ble_eq_true rfl, Nat.le_of_ble_eq_true rfl⟩, Nat.le_of_ble_eq_true rfl, Nat.le_of_ble_eq_true rfl, Nat.le_of_ble_eq_true rfl⟩ (by first | assumption | exact S2_x hx hS | exact S2_y hy hS) dL_areAlike_93 (two_x hd hS hVB (fun I0 h => o_count hx hG h hVA cnt_0)) ?_
      rintro _ μ1 ⟨rfl, hS⟩
      refine px_imul dL_areAlike_96 ?_
      rw [e8]
      refine px_icmp_ge (tgt := 143) dL_areAlike_97 (by decide) (fun h97 => ?_) (fun h97 => (by first | exact absurd ((nI_le (a := 9 * f_nr A.1) (b := k) (by omega) (by omega))) h97 | exact absurd h97 ((nI_le (a := 9 * f_nr A.1) (b := k) (by omega) (by omega)))))
      refine px_iconst (0) dL_areAlike_143 rfl ?_
      refine px_istore_3 dL_areAlike_144 rfl ?_
      exact L4 48 0 rfl _ hS
    | succ n ih =>
      intro k hk μ hS
      refine px_iload_3 dL_areAlike_88 ?_
      refine px_bipush (9) dL_areAlike_89 rfl ?_
      refine px_aload_0 dL_areAlike_91 ?_
      refine px_iconst (0) dL_areAlike_92 rfl ?_
      refine cg_L_14 rfl ⟨⟨Nat.le_of_ble_eq_true rfl, Nat.le_of_ble_eq_true rfl⟩, Nat.le_of_ble_eq_true rfl, Nat.le_of_ble_eq_true rfl, Nat.le_of_ble_eq_true rfl⟩ (by first | assumption | exact S2_x hx hS | exact S2_y hy hS) dL_areAlike_93 (two_x hd hS hVB (fun I0 h => o_count hx hG h hVA cnt_0)) ?_
      rintro _ μ1 ⟨rfl, hS⟩
      refine px_imul dL_areAlike_96 ?_
      rw [e8]
      refine px_icmp_ge (tgt := 143) dL_areAlike_97 (by decide) (fun h97 => (by first | exact absurd h97 ((nI_ge (a := k) (b := 9 * f_nr A.1) (by omega) (by omega))) | exact absurd ((nI_ge (a := k) (b := 9 * f_nr A.1) (by omega) (by omega))) h97)) (fun h97 => ?_)
      refine px_iload_2 dL_areAlike_100 ?_
      refine px_if_eq (tgt := 135) dL_areAlike_101 (by decide) (fun h101 => (by first | exact absurd h101 ((by decide)) | exact absurd ((by decide)) h101)) (fun h101 => ?_)
      refine px_aload_0 dL_areAlike_104 ?_
      refine px_iload_3 dL_areAlike_105 ?_
      refine px_bipush (9) dL_areAlike_106 rfl ?_
      refine px_idiv dL_areAlike_108 (by decide) ?_
      refine px_iload_3 dL_areAlike_109 ?_
      refine px_bipush (9) dL_areAlike_110 rfl ?_
      refine px_irem dL_areAlike_112 (by decide) ?_
      refine cg_L_56 rfl ⟨⟨Nat.le_of_ble_eq_true rfl, Nat.le_of_ble_eq_true rfl⟩, Nat.le_of_ble_eq_true rfl, Nat.le_of_ble_eq_true rfl, Nat.le_of_ble_eq_true rfl⟩ (by first | assumption | exact S2_x hx hS | exact S2_y hy hS) dL_areAlike_113 (two_x hd hS hVB (fun I0 h => o_ofRoad hx hG h hVA rfl)) ?_
      rintro _ μ1 ⟨rfl, hS⟩
      refine px_aload_1 dL_areAlike_116 ?_
      refine px_iload_3 dL_areAlike_117 ?_
      refine px_bipush (9) dL_areAlike_118 rfl ?_
      refine px_idiv dL_areAlike_120 (by decide) ?_
      refine px_iload_3 dL_areAlike_121 ?_
      refine px_bipush (9) dL_areAlike_122 rfl ?_
      refine px_irem dL_areAlike_124 (by decide) ?_
      refine cg_L_56 rfl ⟨⟨Nat.le_of_ble_eq_true rfl, Nat.le_of_ble_eq_true rfl⟩, Nat.le_of_ble_eq_true rfl, Nat.le_of_ble_eq_true rfl, Nat.le_of_ble_eq_true rfl⟩ (by first | assumption | exact S2_x hx hS | exact S2_y hy hS) dL_areAlike_125 (two_y hd hS hVA (fun I0 h => o_ofRoad hy hG h hVB rfl)) ?_
      rintro _ μ2 ⟨rfl, hS⟩
      refine px_icmp_ne (tgt := 135) dL_areAlike_128 (by decide) (fun h128 => (by first | exact absurd h128 ((congrArg (fun s => f_or s _ _) h)) | exact absurd ((congrArg (fun s => f_or s _ _) h)) h128)) (fun h128 => ?_)
      refine px_iconst (1) dL_areAlike_131 rfl ?_
      refine px_goto (tgt := 136) dL_areAlike_132 (by decide) ?_
      refine px_istore_2 dL_areAlike_136 rfl ?_
      refine px_iinc_3 dL_areAlike_137 rfl ?_
      refine px_goto (tgt := 88) dL_areAlike_140 (by decide) ?_
      rw [inc_nI]; exact ih (k + 1) (by omega) _ hS
  have L2 : ∀ n k, k + n = 24 → ∀ μ, px_S2 T R x y A B μ → (px_W l G yL_areAlike cL_areAlike 4 (some .boolean) (px_rm 7 0 0) (px_Fn G Q 0 0) 41 [some (.ref x), some (.ref y), some (.int 1), some (.int (nI k))] [] 0 0 μ) := by
    intro n
    induction n with
    | zero =>
      intro k hk μ hS
      refine px_iload_3 dL_areAlike_41 ?_
      refine px_bipush (24) dL_areAlike_42 rfl ?_
      refine px_icmp_ge (tgt := 86) dL_areAlike_44 (by decide) (fun h44 => ?_) (fun h44 => (by first | exact absurd ((nI_le (a := 24) (b := k) (by omega) (by omega))) h44 | exact absurd h44 ((nI_le (a := 24) (b := k) (by omega) (by omega)))))
      refine px_iconst (0) dL_areAlike_86 rfl ?_
      refine px_istore_3 dL_areAlike_87 rfl ?_
      exact L3 _ 0 (Nat.zero_add _) _ hS
    | succ n ih =>
      intro k hk μ hS
      refine px_iload_3 dL_areAlike_41 ?_
      refine px_bipush (24) dL_areAlike_42 rfl ?_
      refine px_icmp_ge (tgt := 86) dL_areAlike_44 (by decide) (fun h44 => (by first | exact absurd h44 ((nI_ge (a := k) (b := 24) (by omega) (by omega))) | exact absurd ((nI_ge (a := k) (b := 24) (by omega) (by omega))) h44)) (fun h44 => ?_)
      refine px_iload_2 dL_areAlike_47 ?_
      refine px_if_eq (tgt := 78) dL_areAlike_48 (by decide) (fun h48 => (by first | exact absurd h48 ((by decide)) | exact absurd ((by decide)) h48)) (fun h48 => ?_)
      refine px_aload_0 dL_areAlike_51 ?_
      refine px_iload_3 dL_areAlike_52 ?_
      refine px_iconst (3) dL_areAlike_53 rfl ?_
      refine px_idiv dL_areAlike_54 (by decide) ?_
      refine px_iload_3 dL_areAlike_55 ?_
      refine px_iconst (3) dL_areAlike_56 rfl ?_
      refine px_irem dL_areAlike_57 (by decide) ?_
      refine cg_L_53 rfl ⟨⟨Nat.le_of_ble_eq_true rfl, Nat.le_of_ble_eq_true rfl⟩, Nat.le_of_ble_eq_true rfl, Nat.le_of_ble_eq_true rfl, Nat.le_of_ble_eq_true rfl⟩ (by first | assumption | exact S2_x hx hS | exact S2_y hy hS) dL_areAlike_58 (two_x hd hS hVB (fun I0 h => o_ofTown hx hG h hVA rfl)) ?_
      rintro _ μ1 ⟨rfl, hS⟩
      refine px_aload_1 dL_areAlike_61 ?_
      refine px_iload_3 dL_areAlike_62 ?_
      refine px_iconst (3) dL_areAlike_63 rfl ?_
      refine px_idiv dL_areAlike_64 (by decide) ?_
      refine px_iload_3 dL_areAlike_65 ?_
      refine px_iconst (3) dL_areAlike_66 rfl ?_
      refine px_irem dL_areAlike_67 (by decide) ?_
      refine cg_L_53 rfl ⟨⟨Nat.le_of_ble_eq_true rfl, Nat.le_of_ble_eq_true rfl⟩, Nat.le_of_ble_eq_true rfl, Nat.le_of_ble_eq_true rfl, Nat.le_of_ble_eq_true rfl⟩ (by first | assumption | exact S2_x hx hS | exact S2_y hy hS) dL_areAlike_68 (two_y hd hS hVA (fun I0 h => o_ofTown hy hG h hVB rfl)) ?_
      rintro _ μ2 ⟨rfl, hS⟩
      refine px_icmp_ne (tgt := 78) dL_areAlike_71 (by decide) (fun h71 => (by first | exact absurd h71 ((congrArg (fun s => f_ot s _ _) h)) | exact absurd ((congrArg (fun s => f_ot s _ _) h)) h71)) (fun h71 => ?_)
      refine px_iconst (1) dL_areAlike_74 rfl ?_
      refine px_goto (tgt := 79) dL_areAlike_75 (by decide) ?_
      refine px_istore_2 dL_areAlike_79 rfl ?_
      refine px_iinc_3 dL_areAlike_80 rfl ?_
      refine px_goto (tgt := 41) dL_areAlike_83 (by decide) ?_
      rw [inc_nI]; exact ih (k + 1) (by omega) _ hS
  have L1 : ∀ n k, k + n = 16 → ∀ μ, px_S2 T R x y A B μ → (px_W l G yL_areAlike cL_areAlike 4 (some .boolean) (px_rm 7 0 0) (px_Fn G Q 0 0) 4 [some (.ref x), some (.ref y), some (.int 1), some (.int (nI k))] [] 0 0 μ) := by
    intro n
    induction n with
    | zero =>
      intro k hk μ hS
      refine px_iload_3 dL_areAlike_4 ?_
      refine px_bipush (16) dL_areAlike_5 rfl ?_
      refine px_icmp_ge (tgt := 39) dL_areAlike_7 (by decide) (fun h7 => ?_) (fun h7 => (by first | exact absurd ((nI_le (a := 16) (b := k) (by omega) (by omega))) h7 | exact absurd h7 ((nI_le (a := 16) (b := k) (by omega) (by omega)))))
      refine px_iconst (0) dL_areAlike_39 rfl ?_
      refine px_istore_3 dL_areAlike_40 rfl ?_
      exact L2 24 0 rfl _ hS
    | succ n ih =>
      intro k hk μ hS
      refine px_iload_3 dL_areAlike_4 ?_
      refine px_bipush (16) dL_areAlike_5 rfl ?_
      refine px_icmp_ge (tgt := 39) dL_areAlike_7 (by decide) (fun h7 => (by first | exact absurd h7 ((nI_ge (a := k) (b := 16) (by omega) (by omega))) | exact absurd ((nI_ge (a := k) (b := 16) (by omega) (by omega))) h7)) (fun h7 => ?_)
      refine px_iload_2 dL_areAlike_10 ?_
      refine px_if_eq (tgt := 31) dL_areAlike_11 (by decide) (fun h11 => (by first | exact absurd h11 ((by decide)) | exact absurd ((by decide)) h11)) (fun h11 => ?_)
      refine px_aload_0 dL_areAlike_14 ?_
      refine px_iload_3 dL_areAlike_15 ?_
      refine cg_L_14 rfl ⟨⟨Nat.le_of_ble_eq_true rfl, Nat.le_of_ble_eq_true rfl⟩, Nat.le_of_ble_eq_true rfl, Nat.le_of_ble_eq_true rfl, Nat.le_of_ble_eq_true rfl⟩ (by first | assumption | exact S2_x hx hS | exact S2_y hy hS) dL_areAlike_16 (two_x hd hS hVB (fun I0 h => o_count hx hG h hVA rfl)) ?_
      rintro _ μ1 ⟨rfl, hS⟩
      refine px_aload_1 dL_areAlike_19 ?_
      refine px_iload_3 dL_areAlike_20 ?_
      refine cg_L_14 rfl ⟨⟨Nat.le_of_ble_eq_true rfl, Nat.le_of_ble_eq_true rfl⟩, Nat.le_of_ble_eq_true rfl, Nat.le_of_ble_eq_true rfl, Nat.le_of_ble_eq_true rfl⟩ (by first | assumption | exact S2_x hx hS | exact S2_y hy hS) dL_areAlike_21 (two_y hd hS hVA (fun I0 h => o_count hy hG h hVB rfl)) ?_
      rintro _ μ2 ⟨rfl, hS⟩
      refine px_icmp_ne (tgt := 31) dL_areAlike_24 (by decide) (fun h24 => (by first | exact absurd h24 ((cnt_same h (by omega))) | exact absurd ((cnt_same h (by omega))) h24)) (fun h24 => ?_)
      refine px_iconst (1) dL_areAlike_27 rfl ?_
      refine px_goto (tgt := 32) dL_areAlike_28 (by decide) ?_
      refine px_istore_2 dL_areAlike_32 rfl ?_
      refine px_iinc_3 dL_areAlike_33 rfl ?_
      refine px_goto (tgt := 4) dL_areAlike_36 (by decide) ?_
      rw [inc_nI]; exact ih (k + 1) (by omega) _ hS
  refine px_iconst (1) dL_areAlike_0 rfl ?_
  refine px_istore_2 dL_areAlike_1 rfl ?_
  refine px_iconst (0) dL_areAlike_2 rfl ?_
  refine px_istore_3 dL_areAlike_3 rfl ?_
  exact L1 16 0 rfl _ hS
end ALI

