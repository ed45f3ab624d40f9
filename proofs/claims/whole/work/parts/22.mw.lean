section MW
def f_pw : Nat → Int64
  | 0 => 1
  | n + 1 => 100 * f_pw n
/-- what a sack brings at the end k of road r by that road, W being what it brings with one road less -/
def f_by (σ : px_s) (W : Nat → Int64) (r k left h : Nat) : Int64 :=
  if h = 1 then (100 - (f_cr σ r).toInt64) * W (ix (σ (9 + 6 * r + (1 - k)))) - (f_cr σ r).toInt64 * (σ 142).toInt64 * f_pw (left - 1)
  else 100 * W (ix (σ (9 + 6 * r + (1 - k)))) - (σ (9 + 6 * r + 2)).toInt64 * f_pw left
def f_row (σ : px_s) (ov : Int32) (left : Nat) (W : Nat → Int64) : Nat → Nat → Int64
  | 0 => fun t => 100 * W t
  | i + 1 => fun t => if t = ix (σ (9 + 6 * (i / 4) + i / 2 % 2)) ∧ f_row σ ov left W i t < f_by σ W (i / 4) (i / 2 % 2) left (i % 2) ∧ (i % 2 = 1 → ov = 0) then f_by σ W (i / 4) (i / 2 % 2) left (i % 2) else f_row σ ov left W i t
def f_w (σ : px_s) (ov : Int32) : Nat → Nat → Int64
  | 0 => fun t => (σ t).toInt64
  | n + 1 => f_row σ ov (n + 1) (f_w σ ov n) (4 * f_nr σ)
variable {l : Launch} {G : px_G} {T : px_T} {I : px_I} {J : px_J} {R : px_R} {μ : px_M} {m : Nat} {σ : px_s}
theorem s_X8_power {z : Int32} {n : Nat} (e : z = nI n) (hn : n < 1000) : px_K l G 0 mX8_power ([.int z]) (μ) (some (.long (f_pw n))) (μ) := by
  subst e
  refine px_met (M := mX8_power) ([some (.int (nI n)), none, none, none]) (by decide +kernel) rfl (Nat.le_of_ble_eq_true rfl) rfl ?_
  generalize hQ : (fun v m_1 => v = some (Value.long (f_pw n)) ∧ m_1 = μ : Option Value → px_M → Prop) = Q
  have L : ∀ k i, i + k = n → (px_W l G yX8_power cX8_power 4 (some .long) (px_rm 0 0 0) (px_Fn G Q 0 0) 4 [some (.int (nI n)), some (.long (f_pw i)), none, some (.int (nI i))] [] 0 0 μ) := by
    intro k
    induction k with
    | zero =>
      intro i hi
      obtain rfl : i = n := by omega
      refine px_iload_3 dX8_power_4 ?_
      refine px_iload_0 dX8_power_5 ?_
      refine px_icmp_ge (tgt := 21) dX8_power_6 (by decide) (fun h6 => ?_) (fun h6 => (by first | exact absurd ((nI_le (Nat.le_refl _) (by omega))) h6 | exact absurd h6 ((nI_le (Nat.le_refl _) (by omega)))))
      refine px_lload_1 dX8_power_21 ?_
      refine px_lret dX8_power_22 ?_
      subst hQ; exact ⟨rfl, rfl⟩
    | succ k ih =>
      intro i hi
      refine px_iload_3 dX8_power_4 ?_
      refine px_iload_0 dX8_power_5 ?_
      refine px_icmp_ge (tgt := 21) dX8_power_6 (by decide) (fun h6 => (by first | exact absurd h6 ((nI_ge (by omega) (by omega))) | exact absurd ((nI_ge (by omega) (by omega))) h6)) (fun h6 => ?_)
      refine px_ldc2 ck_X8_68 dX8_power_9 ?_
      refine px_lload_1 dX8_power_12 ?_
      refine px_lmul dX8_power_13 ?_
      refine px_lstore_1 dX8_power_14 rfl ?_
      refine px_iinc_3 dX8_power_15 rfl ?_
      refine px_goto (tgt := 4) dX8_power_18 (by decide) ?_
      rw [inc_nI]; exact ih (i + 1) (by omega)
  refine px_lconst (1) dX8_power_0 rfl ?_
  refine px_lstore_1 dX8_power_1 rfl ?_
  refine px_iconst (0) dX8_power_2 rfl ?_
  refine px_istore_3 dX8_power_3 rfl ?_
  exact L _ 0 (Nat.zero_add _)
theorem wix {z : Int32} {left t : Nat} (e : z = nI left) {u : Int32} (eu : u = nI t) : (8 : Int32) * z + u = nI (8 * left + t) := by
  rw [e, eu, show (8 : Int32) * nI left = nI 8 * nI left from rfl, pk_mul, nI_add]
theorem s_X8_by {v u z b : Int32} {r k left h : Nat} {W : Nat → Int64} (hm : px_mo G T R m) (hV : px_V (I (m + 1))) (e : v = nI r) (hr : r < f_nr (I (m + 1))) (e2 : u = nI k) (hk : k < 2) (e3 : z = nI (left + 1)) (hl : left < 4) (e4 : b = nI h) (hh : h < 2)
    (hW : ∀ t, t < 8 → J (m + 6) (8 * left + t) = W t) : px_K l G 2 mX8_by ([.ref m, .int v, .int u, .int z, .int b]) ((T, I, J, R)) (some (.long (f_by (I (m + 1)) W r k (left + 1) h))) ((T, I, J, R)) := by
  have h14 := hV.1.2.1
  obtain ⟨hf, h1, h2⟩ := ends_of hV hr hk
  obtain ⟨x2, l2⟩ := ix_of_nI h2
  have e3' : z - 1 = nI left := by rw [e3, nI_pred]
  refine px_met (M := mX8_by) ([some (.ref m), some (.int v), some (.int u), some (.int z), some (.int b), none, none, none, none]) (by decide +kernel) rfl (Nat.le_of_ble_eq_true rfl) rfl ?_
  rcases (by omega : h = 0 ∨ h = 1) with rfl | rfl
  · have hb : b = 0 := e4
    have hf : f_by (I (m + 1)) W r k (left + 1) 0 = 100 * W (ix (I (m + 1) (9 + 6 * r + (1 - k)))) - (I (m + 1) (9 + 6 * r + 2)).toInt64 * f_pw (left + 1) := if_neg (by decide)
    rw [hf]
    refine px_aload_0 dX8_by_0 ?_
    refine gf_X8_25 rfl dX8_by_1 (by first | assumption | exact mo_a hm | exact mo_r0 hm | exact mo_r1 hm | exact mo_r2 hm | exact mo_r4 hm | exact mo_r6 hm | exact mo_r8 hm | exact mo_a1 hm | exact mo_a2 hm | exact mo_a3 hm | exact mo_a4 hm | exact mo_a5 hm | exact mo_a6 hm) (by first | assumption | exact mo_a hm | exact mo_r0 hm | exact mo_r1 hm | exact mo_r2 hm | exact mo_r4 hm | exact mo_r6 hm | exact mo_r8 hm | exact mo_a1 hm | exact mo_a2 hm | exact mo_a3 hm | exact mo_a4 hm | exact mo_a5 hm | exact mo_a6 hm) ?_
    refine px_bipush (8) dX8_by_4 rfl ?_
    refine px_iload_3 dX8_by_6 ?_
    refine px_iconst (1) dX8_by_7 rfl ?_
    refine px_isub dX8_by_8 ?_
    refine px_imul dX8_by_9 ?_
    refine px_aload_0 dX8_by_10 ?_
    refine px_iload_1 dX8_by_11 ?_
    refine px_iconst (1) dX8_by_12 rfl ?_
    refine px_iload_2 dX8_by_13 ?_
    refine px_isub dX8_by_14 ?_
    refine cd_X8_48 rfl ⟨⟨Nat.le_of_ble_eq_true rfl, Nat.le_of_ble_eq_true rfl⟩, Nat.le_of_ble_eq_true rfl, Nat.le_of_ble_eq_true rfl, Nat.le_of_ble_eq_true rfl⟩ (by first | assumption | exact mo_a hm | exact mo_r0 hm | exact mo_r1 hm | exact mo_r2 hm | exact mo_r4 hm | exact mo_r6 hm | exact mo_r8 hm | exact mo_a1 hm | exact mo_a2 hm | exact mo_a3 hm | exact mo_a4 hm | exact mo_a5 hm | exact mo_a6 hm) dX8_by_15 (s_X8_end hm e (by omega) (one_sub e2 hk) (by omega)) ?_
    refine px_iadd dX8_by_18 ?_
    refine px_laldN dX8_by_19 (by first | assumption | exact mo_a hm | exact mo_r0 hm | exact mo_r1 hm | exact mo_r2 hm | exact mo_r4 hm | exact mo_r6 hm | exact mo_r8 hm | exact mo_a1 hm | exact mo_a2 hm | exact mo_a3 hm | exact mo_a4 hm | exact mo_a5 hm | exact mo_a6 hm) (by exact wix e3' x2) (by omega) ?_
    rw [hW _ l2]
    refine px_lstore_5 dX8_by_20 rfl ?_
    refine px_aload_0 dX8_by_22 ?_
    refine px_iload_1 dX8_by_23 ?_
    refine cd_X8_51 rfl ⟨⟨Nat.le_of_ble_eq_true rfl, Nat.le_of_ble_eq_true rfl⟩, Nat.le_of_ble_eq_true rfl, Nat.le_of_ble_eq_true rfl, Nat.le_of_ble_eq_true rfl⟩ (by first | assumption | exact mo_a hm | exact mo_r0 hm | exact mo_r1 hm | exact mo_r2 hm | exact mo_r4 hm | exact mo_r6 hm | exact mo_r8 hm | exact mo_a1 hm | exact mo_a2 hm | exact mo_a3 hm | exact mo_a4 hm | exact mo_a5 hm | exact mo_a6 hm) dX8_by_24 (s_X8_chanceOf hm e (by omega)) ?_
    refine px_i2l dX8_by_27 ?_
    refine px_lstore_7 dX8_by_28 rfl ?_
    refine px_iload_4 dX8_by_30 ?_
    refine px_if_eq (tgt := 65) dX8_by_32 (by decide) (fun h32 => ?_) (fun h32 => (by first | exact absurd (hb) h32 | exact absurd h32 (hb)))
    refine px_ldc2 ck_X8_68 dX8_by_65 ?_
    refine px_lload_5 dX8_by_68 ?_
    refine px_lmul dX8_by_70 ?_
    refine px_aload_0 dX8_by_71 ?_
    refine gf_X8_7 rfl dX8_by_72 (by first | assumption | exact mo_a hm | exact mo_r0 hm | exact mo_r1 hm | exact mo_r2 hm | exact mo_r4 hm | exact mo_r6 hm | exact mo_r8 hm | exact mo_a1 hm | exact mo_a2 hm | exact mo_a3 hm | exact mo_a4 hm | exact mo_a5 hm | exact mo_a6 hm) (by first | assumption | exact mo_a hm | exact mo_r0 hm | exact mo_r1 hm | exact mo_r2 hm | exact mo_r4 hm | exact mo_r6 hm | exact mo_r8 hm | exact mo_a1 hm | exact mo_a2 hm | exact mo_a3 hm | exact mo_a4 hm | exact mo_a5 hm | exact mo_a6 hm) ?_
    refine px_iload_1 dX8_by_75 ?_
    refine px_iconst (2) dX8_by_76 rfl ?_
    refine cd_X8_40 rfl ⟨⟨Nat.le_of_ble_eq_true rfl, Nat.le_of_ble_eq_true rfl⟩, Nat.le_of_ble_eq_true rfl, Nat.le_of_ble_eq_true rfl, Nat.le_of_ble_eq_true rfl⟩ dX8_by_77 (s_X8_ofOneRoad (j := 2) e) ?_
    refine px_ialdN dX8_by_80 (by first | assumption | exact mo_a hm | exact mo_r0 hm | exact mo_r1 hm | exact mo_r2 hm | exact mo_r4 hm | exact mo_r6 hm | exact mo_r8 hm | exact mo_a1 hm | exact mo_a2 hm | exact mo_a3 hm | exact mo_a4 hm | exact mo_a5 hm | exact mo_a6 hm) (by first | rfl | exact ix_eq (by assumption)) (by first | decide | omega) ?_
    refine px_i2l dX8_by_81 ?_
    refine px_iload_3 dX8_by_82 ?_
    refine cd_X8_70 rfl ⟨⟨Nat.le_of_ble_eq_true rfl, Nat.le_of_ble_eq_true rfl⟩, Nat.le_of_ble_eq_true rfl, Nat.le_of_ble_eq_true rfl, Nat.le_of_ble_eq_true rfl⟩ dX8_by_83 (s_X8_power e3 (by omega)) ?_
    refine px_lmul dX8_by_86 ?_
    refine px_lsub dX8_by_87 ?_
    refine px_lret dX8_by_88 ?_
    exact ⟨rfl, rfl⟩
  · have hb : ¬ b = 0 := by rw [e4]; decide
    have hf : f_by (I (m + 1)) W r k (left + 1) 1 = (100 - (f_cr (I (m + 1)) r).toInt64) * W (ix (I (m + 1) (9 + 6 * r + (1 - k)))) - (f_cr (I (m + 1)) r).toInt64 * (I (m + 1) 142).toInt64 * f_pw left := if_pos rfl
    rw [hf]
    refine px_aload_0 dX8_by_0 ?_
    refine gf_X8_25 rfl dX8_by_1 (by first | assumption | exact mo_a hm | exact mo_r0 hm | exact mo_r1 hm | exact mo_r2 hm | exact mo_r4 hm | exact mo_r6 hm | exact mo_r8 hm | exact mo_a1 hm | exact mo_a2 hm | exact mo_a3 hm | exact mo_a4 hm | exact mo_a5 hm | exact mo_a6 hm) (by first | assumption | exact mo_a hm | exact mo_r0 hm | exact mo_r1 hm | exact mo_r2 hm | exact mo_r4 hm | exact mo_r6 hm | exact mo_r8 hm | exact mo_a1 hm | exact mo_a2 hm | exact mo_a3 hm | exact mo_a4 hm | exact mo_a5 hm | exact mo_a6 hm) ?_
    refine px_bipush (8) dX8_by_4 rfl ?_
    refine px_iload_3 dX8_by_6 ?_
    refine px_iconst (1) dX8_by_7 rfl ?_
    refine px_isub dX8_by_8 ?_
    refine px_imul dX8_by_9 ?_
    refine px_aload_0 dX8_by_10 ?_
    refine px_iload_1 dX8_by_11 ?_
    refine px_iconst (1) dX8_by_12 rfl ?_
    refine px_iload_2 dX8_by_13 ?_
    refine px_isub dX8_by_14 ?_
    refine cd_X8_48 rfl ⟨⟨Nat.le_of_ble_eq_true rfl, Nat.le_of_ble_eq_true rfl⟩, Nat.le_of_ble_eq_true rfl, Nat.le_of_ble_eq_true rfl, Nat.le_of_ble_eq_true rfl⟩ (by first | assumption | exact mo_a hm | exact mo_r0 hm | exact mo_r1 hm | exact mo_r2 hm | exact mo_r4 hm | exact mo_r6 hm | exact mo_r8 hm | exact mo_a1 hm | exact mo_a2 hm | exact mo_a3 hm | exact mo_a4 hm | exact mo_a5 hm | exact mo_a6 hm) dX8_by_15 (s_X8_end hm e (by omega) (one_sub e2 hk) (by omega)) ?_
    refine px_iadd dX8_by_18 ?_
    refine px_laldN dX8_by_19 (by first | assumption | exact mo_a hm | exact mo_r0 hm | exact mo_r1 hm | exact mo_r2 hm | exact mo_r4 hm | exact mo_r6 hm | exact mo_r8 hm | exact mo_a1 hm | exact mo_a2 hm | exact mo_a3 hm | exact mo_a4 hm | exact mo_a5 hm | exact mo_a6 hm) (by exact wix e3' x2) (by omega) ?_
    rw [hW _ l2]
    refine px_lstore_5 dX8_by_20 rfl ?_
    refine px_aload_0 dX8_by_22 ?_
    refine px_iload_1 dX8_by_23 ?_
    refine cd_X8_51 rfl ⟨⟨Nat.le_of_ble_eq_true rfl, Nat.le_of_ble_eq_true rfl⟩, Nat.le_of_ble_eq_true rfl, Nat.le_of_ble_eq_true rfl, Nat.le_of_ble_eq_true rfl⟩ (by first | assumption | exact mo_a hm | exact mo_r0 hm | exact mo_r1 hm | exact mo_r2 hm | exact mo_r4 hm | exact mo_r6 hm | exact mo_r8 hm | exact mo_a1 hm | exact mo_a2 hm | exact mo_a3 hm | exact mo_a4 hm | exact mo_a5 hm | exact mo_a6 hm) dX8_by_24 (s_X8_chanceOf hm e (by omega)) ?_
    refine px_i2l dX8_by_27 ?_
    refine px_lstore_7 dX8_by_28 rfl ?_
    refine px_iload_4 dX8_by_30 ?_
    refine px_if_eq (tgt := 65) dX8_by_32 (by decide) (fun h32 => (by first | exact absurd h32 (hb) | exact absurd (hb) h32)) (fun h32 => ?_)
    refine px_ldc2 ck_X8_68 dX8_by_35 ?_
    refine px_lload_7 dX8_by_38 ?_
    refine px_lsub dX8_by_40 ?_
    refine px_lload_5 dX8_by_41 ?_
    refine px_lmul dX8_by_43 ?_
    refine px_lload_7 dX8_by_44 ?_
    refine px_aload_0 dX8_by_46 ?_
    refine gf_X8_7 rfl dX8_by_47 (by first | assumption | exact mo_a hm | exact mo_r0 hm | exact mo_r1 hm | exact mo_r2 hm | exact mo_r4 hm | exact mo_r6 hm | exact mo_r8 hm | exact mo_a1 hm | exact mo_a2 hm | exact mo_a3 hm | exact mo_a4 hm | exact mo_a5 hm | exact mo_a6 hm) (by first | assumption | exact mo_a hm | exact mo_r0 hm | exact mo_r1 hm | exact mo_r2 hm | exact mo_r4 hm | exact mo_r6 hm | exact mo_r8 hm | exact mo_a1 hm | exact mo_a2 hm | exact mo_a3 hm | exact mo_a4 hm | exact mo_a5 hm | exact mo_a6 hm) ?_
    refine px_sipush (142) dX8_by_50 rfl ?_
    refine px_ialdN (j := 142) dX8_by_53 (by first | assumption | exact mo_a hm | exact mo_r0 hm | exact mo_r1 hm | exact mo_r2 hm | exact mo_r4 hm | exact mo_r6 hm | exact mo_r8 hm | exact mo_a1 hm | exact mo_a2 hm | exact mo_a3 hm | exact mo_a4 hm | exact mo_a5 hm | exact mo_a6 hm) (by first | rfl | exact ix_eq (by assumption)) (by first | decide | omega) ?_
    refine px_i2l dX8_by_54 ?_
    refine px_lmul dX8_by_55 ?_
    refine px_iload_3 dX8_by_56 ?_
    refine px_iconst (1) dX8_by_57 rfl ?_
    refine px_isub dX8_by_58 ?_
    refine cd_X8_70 rfl ⟨⟨Nat.le_of_ble_eq_true rfl, Nat.le_of_ble_eq_true rfl⟩, Nat.le_of_ble_eq_true rfl, Nat.le_of_ble_eq_true rfl, Nat.le_of_ble_eq_true rfl⟩ dX8_by_59 (s_X8_power e3' (by omega)) ?_
    refine px_lmul dX8_by_62 ?_
    refine px_lsub dX8_by_63 ?_
    refine px_lret dX8_by_64 ?_
    exact ⟨rfl, rfl⟩
/-- the rows below left are there, and i ends of row left -/
def px_wi (J : px_J) (m : Nat) (σ : px_s) (ov : Int32) (left : Nat) (V : Nat → Int64) (J' : px_J) : Prop :=
  (∀ a, a ≠ m + 6 → J' a = J a) ∧ (∀ q, q < left → ∀ t, t < 8 → J' (m + 6) (8 * q + t) = f_w σ ov q t) ∧ ∀ t, t < 8 → J' (m + 6) (8 * left + t) = V t
def px_Qw (T : px_T) (I : px_I) (J : px_J) (R : px_R) (m : Nat) (σ : px_s) (ov : Int32) (legs : Nat) : Option Value → px_M → Prop := fun v μ' => v = none ∧ ∃ J' : px_J, μ' = (T, I, J', R) ∧ (∀ a, a ≠ m + 6 → J' a = J a) ∧ ∀ q, q ≤ legs → ∀ t, t < 8 → J' (m + 6) (8 * q + t) = f_w σ ov q t
theorem wi_up {J' : px_J} {ov : Int32} {left t : Nat} {V : Nat → Int64} {x : Int64} (h : px_wi J m σ ov left V J') : px_wi J m σ ov left (fun k => if k = t then x else V k) (px_up J' (m + 6) (8 * left + t) x) := by
  obtain ⟨h1, h2, h3⟩ := h
  refine ⟨fun a ha => by rw [px_up_ne ha]; exact h1 a ha, fun q hq k hk => by rw [px_up_nj (by omega)]; exact h2 q hq k hk, fun k hk => ?_⟩
  dsimp only
  rw [px_up_at]
  by_cases e : k = t
  · rw [if_pos ⟨rfl, by omega⟩, if_pos e]
  · rw [if_neg (by omega), if_neg e]; exact h3 k hk
theorem wi_eq {J' : px_J} {ov : Int32} {left : Nat} {V V2 : Nat → Int64} (h : px_wi J m σ ov left V J') (e : ∀ t, t < 8 → V t = V2 t) : px_wi J m σ ov left V2 J' := ⟨h.1, h.2.1, fun t ht => (h.2.2 t ht).trans (e t ht)⟩
theorem s_X8_workOut {z ov : Int32} {legs : Nat} (hm : px_mo G T R m) (hV : px_V (I (m + 1))) (ez : z = nI legs) (hz : legs ≤ 4) : px_C l G 3 0 0 mX8_workOut [.ref m, .int z, .int ov] (T, I, J, R) (px_Qw T I J R m (I (m + 1)) ov legs) := by
  subst ez
  have hn := hV.1.1
  have h14 := hV.1.2.1
  have e8 : (4 : Int32) * I (m + 1) 8 = nI (4 * f_nr (I (m + 1))) := by rw [hn, show (4 : Int32) * nI (f_nr (I (m + 1))) = nI 4 * nI (f_nr (I (m + 1))) from rfl, pk_mul]
  refine px_met (M := mX8_workOut) ([some (.ref m), some (.int (nI legs)), some (.int ov), none, none, none, none, none, none, none]) (by decide +kernel) rfl (Nat.le_of_ble_eq_true rfl) rfl ?_
  generalize hQ : px_Qw T I J R m (I (m + 1)) ov legs = Q
  -- the first row
  have L0 : (∀ J', px_wi J m (I (m + 1)) ov 0 (f_w (I (m + 1)) ov 0) J' → (px_W l G yX8_workOut cX8_workOut 10 none (px_rm 3 0 0) (px_Fn G Q 0 0) 2 [some (.ref m), some (.int (nI legs)), some (.int ov), some (.int (nI 8)), none, none, none, none, none, none] [] 0 0 (T, I, J', R))) → ∀ n i, i + n = 8 → ∀ J' : px_J, (∀ a, a ≠ m + 6 → J' a = J a) → (∀ t, t < i → J' (m + 6) t = f_w (I (m + 1)) ov 0 t) → (px_W l G yX8_workOut cX8_workOut 10 none (px_rm 3 0 0) (px_Fn G Q 0 0) 2 [some (.ref m), some (.int (nI legs)), some (.int ov), some (.int (nI i)), none, none, none, none, none, none] [] 0 0 (T, I, J', R)) := by
    intro hend n
    induction n with
    | zero =>
      intro i hi J' g1 g2
      obtain rfl : i = 8 := by omega
      exact hend J' ⟨g1, fun q hq => absurd hq (by omega), fun t ht => by rw [Nat.mul_zero, Nat.zero_add]; exact g2 t ht⟩
    | succ n ih =>
      intro i hi J' g1 g2
      refine px_iload_3 dX8_workOut_2 ?_
      refine px_bipush (8) dX8_workOut_3 rfl ?_
      refine px_icmp_ge (tgt := 29) dX8_workOut_5 (by decide) (fun h5 => (by first | exact absurd h5 ((nI_ge (a := i) (b := 8) (by omega) (by omega))) | exact absurd ((nI_ge (a := i) (b := 8) (by omega) (by omega))) h5)) (fun h5 => ?_)
      refine px_aload_0 dX8_workOut_8 ?_
      refine gf_X8_25 rfl dX8_workOut_9 (by first | assumption | exact mo_a hm | exact mo_r0 hm | exact mo_r1 hm | exact mo_r2 hm | exact mo_r4 hm | exact mo_r6 hm | exact mo_r8 hm | exact mo_a1 hm | exact mo_a2 hm | exact mo_a3 hm | exact mo_a4 hm | exact mo_a5 hm | exact mo_a6 hm) (by first | assumption | exact mo_a hm | exact mo_r0 hm | exact mo_r1 hm | exact mo_r2 hm | exact mo_r4 hm | exact mo_r6 hm | exact mo_r8 hm | exact mo_a1 hm | exact mo_a2 hm | exact mo_a3 hm | exact mo_a4 hm | exact mo_a5 hm | exact mo_a6 hm) ?_
      refine px_iload_3 dX8_workOut_12 ?_
      refine px_aload_0 dX8_workOut_13 ?_
      refine gf_X8_7 rfl dX8_workOut_14 (by first | assumption | exact mo_a hm | exact mo_r0 hm | exact mo_r1 hm | exact mo_r2 hm | exact mo_r4 hm | exact mo_r6 hm | exact mo_r8 hm | exact mo_a1 hm | exact mo_a2 hm | exact mo_a3 hm | exact mo_a4 hm | exact mo_a5 hm | exact mo_a6 hm) (by first | assumption | exact mo_a hm | exact mo_r0 hm | exact mo_r1 hm | exact mo_r2 hm | exact mo_r4 hm | exact mo_r6 hm | exact mo_r8 hm | exact mo_a1 hm | exact mo_a2 hm | exact mo_a3 hm | exact mo_a4 hm | exact mo_a5 hm | exact mo_a6 hm) ?_
      refine px_iconst (0) dX8_workOut_17 rfl ?_
      refine px_iload_3 dX8_workOut_18 ?_
      refine px_iadd dX8_workOut_19 ?_
      rw [z_add]
      refine px_ialdN dX8_workOut_20 (by first | assumption | exact mo_a hm | exact mo_r0 hm | exact mo_r1 hm | exact mo_r2 hm | exact mo_r4 hm | exact mo_r6 hm | exact mo_r8 hm | exact mo_a1 hm | exact mo_a2 hm | exact mo_a3 hm | exact mo_a4 hm | exact mo_a5 hm | exact mo_a6 hm) (by first | rfl | exact ix_eq (by assumption)) (by first | decide | omega) ?_
      refine px_i2l dX8_workOut_21 ?_
      refine px_lastN dX8_workOut_22 (by first | assumption | exact mo_a hm | exact mo_r0 hm | exact mo_r1 hm | exact mo_r2 hm | exact mo_r4 hm | exact mo_r6 hm | exact mo_r8 hm | exact mo_a1 hm | exact mo_a2 hm | exact mo_a3 hm | exact mo_a4 hm | exact mo_a5 hm | exact mo_a6 hm) (by first | rfl | exact ix_eq (by assumption)) (by first | decide | omega) ?_
      refine px_iinc_3 dX8_workOut_23 rfl ?_
      refine px_goto (tgt := 2) dX8_workOut_26 (by decide) ?_
      rw [inc_nI]; refine ih (i + 1) (by omega) _ (fun a ha => by rw [px_up_ne ha]; exact g1 a ha) (fun t ht => ?_)
      rw [px_up_at]
      by_cases q : t = i
      · subst q; rw [if_pos ⟨rfl, rfl⟩]; rfl
      · rw [if_neg (by omega)]; exact g2 t (by omega)
  -- one row
  have LR : ∀ left, left < legs → ∀ (J' : px_J), px_wi J m (I (m + 1)) ov left (f_w (I (m + 1)) ov left) J' → ∀ o4 o5 o6 o7 o8 o9, (∀ (J2 : px_J), px_wi J m (I (m + 1)) ov (left + 1) (f_w (I (m + 1)) ov (left + 1)) J2 → ∀ o4 o5 o6 o7 o8 o9, (px_W l G yX8_workOut cX8_workOut 10 none (px_rm 3 0 0) (px_Fn G Q 0 0) 31 [some (.ref m), some (.int (nI legs)), some (.int ov), some (.int (nI (left + 2))), o4, o5, o6, o7, o8, o9] [] 0 0 (T, I, J2, R))) → (px_W l G yX8_workOut cX8_workOut 10 none (px_rm 3 0 0) (px_Fn G Q 0 0) 31 [some (.ref m), some (.int (nI legs)), some (.int ov), some (.int (nI (left + 1))), o4, o5, o6, o7, o8, o9] [] 0 0 (T, I, J', R)) := by
    intro left hleft J' hJ' o4 o5 o6 o7 o8 o9 K
    have e3 : nI (left + 1) - 1 = nI left := nI_pred left
    -- the ends
    have LE : ∀ n i, i + n = 4 * f_nr (I (m + 1)) → ∀ (J' : px_J), px_wi J m (I (m + 1)) ov (left + 1) (f_row (I (m + 1)) ov (left + 1) (f_w (I (m + 1)) ov left) i) J' → ∀ o5 o6 o7 o8 o9, (px_W l G yX8_workOut cX8_workOut 10 none (px_rm 3 0 0) (px_Fn G Q 0 0) 85 [some (.ref m), some (.int (nI legs)), some (.int ov), some (.int (nI (left + 1))), some (.int (nI i)), o5, o6, o7, o8, o9] [] 0 0 (T, I, J', R)) := by
      intro n
      induction n with
      | zero =>
        intro i hi J' hJ' o5 o6 o7 o8 o9
        obtain rfl : i = 4 * f_nr (I (m + 1)) := by omega
        refine px_iload_4 dX8_workOut_85 ?_
        refine px_iconst (4) dX8_workOut_87 rfl ?_
        refine px_aload_0 dX8_workOut_88 ?_
        refine gf_X8_7 rfl dX8_workOut_89 (by first | assumption | exact mo_a hm | exact mo_r0 hm | exact mo_r1 hm | exact mo_r2 hm | exact mo_r4 hm | exact mo_r6 hm | exact mo_r8 hm | exact mo_a1 hm | exact mo_a2 hm | exact mo_a3 hm | exact mo_a4 hm | exact mo_a5 hm | exact mo_a6 hm) (by first | assumption | exact mo_a hm | exact mo_r0 hm | exact mo_r1 hm | exact mo_r2 hm | exact mo_r4 hm | exact mo_r6 hm | exact mo_r8 hm | exact mo_a1 hm | exact mo_a2 hm | exact mo_a3 hm | exact mo_a4 hm | exact mo_a5 hm | exact mo_a6 hm) ?_
        refine px_bipush (8) dX8_workOut_92 rfl ?_
        refine px_ialdN (j := 8) dX8_workOut_94 (by first | assumption | exact mo_a hm | exact mo_r0 hm | exact mo_r1 hm | exact mo_r2 hm | exact mo_r4 hm | exact mo_r6 hm | exact mo_r8 hm | exact mo_a1 hm | exact mo_a2 hm | exact mo_a3 hm | exact mo_a4 hm | exact mo_a5 hm | exact mo_a6 hm) (by first | rfl | exact ix_eq (by assumption)) (by first | decide | omega) ?_
        refine px_imul dX8_workOut_95 ?_
        rw [e8]
        refine px_icmp_ge (tgt := 223) dX8_workOut_96 (by decide) (fun h96 => ?_) (fun h96 => (by first | exact absurd ((nI_le (Nat.le_refl _) (by omega))) h96 | exact absurd h96 ((nI_le (Nat.le_refl _) (by omega)))))
        refine px_iinc_3 dX8_workOut_223 rfl ?_
        refine px_goto (tgt := 31) dX8_workOut_226 (by decide) ?_
        rw [inc_nI]; exact K J' hJ' _ _ _ _ _ _
      | succ n ih =>
        intro i hi J' hJ' o5 o6 o7 o8 o9
        have hlt : ¬ nI (4 * f_nr (I (m + 1))) ≤ nI i := nI_ge (by omega) (by omega)
        have hr : i / 4 < f_nr (I (m + 1)) := by omega
        have hk : i / 2 % 2 < 2 := Nat.mod_lt _ (by decide)
        have e1 : nI i / 4 = nI (i / 4) := pk_div (d := 4) (by omega) (by decide) (by decide)
        have e2 : nI i / 2 - nI i / 2 / 2 * 2 = nI (i / 2 % 2) := by rw [show nI i / 2 = nI (i / 2) from pk_div (d := 2) (by omega) (by decide) (by decide)]; exact pk_rem (d := 2) (by omega) (by decide) (by decide)
        have e5 : nI i - nI i / 2 * 2 = nI (i % 2) := pk_rem (d := 2) (by omega) (by decide) (by decide)
        have hend := s_X8_end (l := l) (I := I) (J := J') (v := nI i / 4) (u := nI i / 2 - nI i / 2 / 2 * 2) hm e1 (by omega) e2 (by omega)
        obtain ⟨-, h1, -⟩ := ends_of hV hr hk
        obtain ⟨x1, l1⟩ := ix_of_nI h1
        have hpre : ∀ t, t < 8 → J' (m + 6) (8 * left + t) = f_w (I (m + 1)) ov left t := hJ'.2.1 left (by omega)
        have hcell : J' (m + 6) (8 * (left + 1) + ix (I (m + 1) (9 + 6 * (i / 4) + i / 2 % 2))) = f_row (I (m + 1)) ov (left + 1) (f_w (I (m + 1)) ov left) i (ix (I (m + 1) (9 + 6 * (i / 4) + i / 2 % 2))) := hJ'.2.2 _ l1
        have hidx := wix (z := nI (left + 1)) rfl x1
        -- what is stored
        have hst : ∀ x, x = (if f_row (I (m + 1)) ov (left + 1) (f_w (I (m + 1)) ov left) i (ix (I (m + 1) (9 + 6 * (i / 4) + i / 2 % 2))) < f_by (I (m + 1)) (f_w (I (m + 1)) ov left) (i / 4) (i / 2 % 2) (left + 1) (i % 2) ∧ (i % 2 = 1 → ov = 0) then f_by (I (m + 1)) (f_w (I (m + 1)) ov left) (i / 4) (i / 2 % 2) (left + 1) (i % 2) else f_row (I (m + 1)) ov (left + 1) (f_w (I (m + 1)) ov left) i (ix (I (m + 1) (9 + 6 * (i / 4) + i / 2 % 2)))) → px_wi J m (I (m + 1)) ov (left + 1) (f_row (I (m + 1)) ov (left + 1) (f_w (I (m + 1)) ov left) (i + 1)) (px_up J' (m + 6) (8 * (left + 1) + ix (I (m + 1) (9 + 6 * (i / 4) + i / 2 % 2))) x) := by
          intro x hx
          refine wi_eq (wi_up hJ') (fun t ht => ?_)
          subst hx
          rw [f_row]
          dsimp only
          by_cases q : t = ix (I (m + 1) (9 + 6 * (i / 4) + i / 2 % 2))
          · subst q
            rw [if_pos rfl]
            by_cases q2 : f_row (I (m + 1)) ov (left + 1) (f_w (I (m + 1)) ov left) i (ix (I (m + 1) (9 + 6 * (i / 4) + i / 2 % 2))) < f_by (I (m + 1)) (f_w (I (m + 1)) ov left) (i / 4) (i / 2 % 2) (left + 1) (i % 2) ∧ (i % 2 = 1 → ov = 0)
            · rw [if_pos q2, if_pos ⟨rfl, q2⟩]
            · rw [if_neg q2, if_neg (fun z => q2 z.2)]
          · rw [if_neg q, if_neg (fun z => q z.1)]
        by_cases hgt : f_row (I (m + 1)) ov (left + 1) (f_w (I (m + 1)) ov left) i (ix (I (m + 1) (9 + 6 * (i / 4) + i / 2 % 2))) < f_by (I (m + 1)) (f_w (I (m + 1)) ov left) (i / 4) (i / 2 % 2) (left + 1) (i % 2)
        · have hng := Int64.not_le.mpr hgt
          by_cases h1 : i % 2 = 1
          · have hby := s_X8_by (l := l) (J := J') (b := 1) (h := i % 2) (z := nI (left + 1)) hm hV e1 hr e2 hk rfl (by omega) (by rw [h1]; rfl) (by omega) hpre
            have b1 : nI i - nI i / 2 * 2 = 1 := by rw [e5, h1]; rfl
            by_cases h0 : ov = 0
            · skip
              refine px_iload_4 dX8_workOut_85 ?_
              refine px_iconst (4) dX8_workOut_87 rfl ?_
              refine px_aload_0 dX8_workOut_88 ?_
              refine gf_X8_7 rfl dX8_workOut_89 (by first | assumption | exact mo_a hm | exact mo_r0 hm | exact mo_r1 hm | exact mo_r2 hm | exact mo_r4 hm | exact mo_r6 hm | exact mo_r8 hm | exact mo_a1 hm | exact mo_a2 hm | exact mo_a3 hm | exact mo_a4 hm | exact mo_a5 hm | exact mo_a6 hm) (by first | assumption | exact mo_a hm | exact mo_r0 hm | exact mo_r1 hm | exact mo_r2 hm | exact mo_r4 hm | exact mo_r6 hm | exact mo_r8 hm | exact mo_a1 hm | exact mo_a2 hm | exact mo_a3 hm | exact mo_a4 hm | exact mo_a5 hm | exact mo_a6 hm) ?_
              refine px_bipush (8) dX8_workOut_92 rfl ?_
              refine px_ialdN (j := 8) dX8_workOut_94 (by first | assumption | exact mo_a hm | exact mo_r0 hm | exact mo_r1 hm | exact mo_r2 hm | exact mo_r4 hm | exact mo_r6 hm | exact mo_r8 hm | exact mo_a1 hm | exact mo_a2 hm | exact mo_a3 hm | exact mo_a4 hm | exact mo_a5 hm | exact mo_a6 hm) (by first | rfl | exact ix_eq (by assumption)) (by first | decide | omega) ?_
              refine px_imul dX8_workOut_95 ?_
              rw [e8]
              refine px_icmp_ge (tgt := 223) dX8_workOut_96 (by decide) (fun h96 => (by first | exact absurd h96 (hlt) | exact absurd (hlt) h96)) (fun h96 => ?_)
              refine px_iload_4 dX8_workOut_99 ?_
              refine px_iconst (2) dX8_workOut_101 rfl ?_
              refine px_irem dX8_workOut_102 (by decide) ?_
              refine px_iconst (1) dX8_workOut_103 rfl ?_
              refine px_icmp_ne (tgt := 111) dX8_workOut_104 (by decide) (fun h104 => (by first | exact absurd h104 (b1) | exact absurd (b1) h104)) (fun h104 => ?_)
              refine px_iconst (1) dX8_workOut_107 rfl ?_
              refine px_goto (tgt := 112) dX8_workOut_108 (by decide) ?_
              refine px_istore_5 dX8_workOut_112 rfl ?_
              refine px_aload_0 dX8_workOut_114 ?_
              refine px_iload_4 dX8_workOut_115 ?_
              refine px_iconst (4) dX8_workOut_117 rfl ?_
              refine px_idiv dX8_workOut_118 (by decide) ?_
              refine px_iload_4 dX8_workOut_119 ?_
              refine px_iconst (2) dX8_workOut_121 rfl ?_
              refine px_idiv dX8_workOut_122 (by decide) ?_
              refine px_iconst (2) dX8_workOut_123 rfl ?_
              refine px_irem dX8_workOut_124 (by decide) ?_
              refine cd_X8_48 rfl ⟨⟨Nat.le_of_ble_eq_true rfl, Nat.le_of_ble_eq_true rfl⟩, Nat.le_of_ble_eq_true rfl, Nat.le_of_ble_eq_true rfl, Nat.le_of_ble_eq_true rfl⟩ (by first | assumption | exact mo_a hm | exact mo_r0 hm | exact mo_r1 hm | exact mo_r2 hm | exact mo_r4 hm | exact mo_r6 hm | exact mo_r8 hm | exact mo_a1 hm | exact mo_a2 hm | exact mo_a3 hm | exact mo_a4 hm | exact mo_a5 hm | exact mo_a6 hm) dX8_workOut_125 (hend) ?_
              refine px_istore_6 dX8_workOut_128 rfl ?_
              refine px_aload_0 dX8_workOut_130 ?_
              refine px_iload_4 dX8_workOut_131 ?_
              refine px_iconst (4) dX8_workOut_133 rfl ?_
              refine px_idiv dX8_workOut_134 (by decide) ?_
              refine px_iload_4 dX8_workOut_135 ?_
              refine px_iconst (2) dX8_workOut_137 rfl ?_
              refine px_idiv dX8_workOut_138 (by decide) ?_
              refine px_iconst (2) dX8_workOut_139 rfl ?_
              refine px_irem dX8_workOut_140 (by decide) ?_
              refine px_iload_3 dX8_workOut_141 ?_
              refine px_iload_5 dX8_workOut_142 ?_
              refine cd_X8_74 rfl ⟨⟨Nat.le_of_ble_eq_true rfl, Nat.le_of_ble_eq_true rfl⟩, Nat.le_of_ble_eq_true rfl, Nat.le_of_ble_eq_true rfl, Nat.le_of_ble_eq_true rfl⟩ (by first | assumption | exact mo_a hm | exact mo_r0 hm | exact mo_r1 hm | exact mo_r2 hm | exact mo_r4 hm | exact mo_r6 hm | exact mo_r8 hm | exact mo_a1 hm | exact mo_a2 hm | exact mo_a3 hm | exact mo_a4 hm | exact mo_a5 hm | exact mo_a6 hm) dX8_workOut_144 (hby) ?_
              refine px_lstore_7 dX8_workOut_147 rfl ?_
              refine px_lload_7 dX8_workOut_149 ?_
              refine px_aload_0 dX8_workOut_151 ?_
              refine gf_X8_25 rfl dX8_workOut_152 (by first | assumption | exact mo_a hm | exact mo_r0 hm | exact mo_r1 hm | exact mo_r2 hm | exact mo_r4 hm | exact mo_r6 hm | exact mo_r8 hm | exact mo_a1 hm | exact mo_a2 hm | exact mo_a3 hm | exact mo_a4 hm | exact mo_a5 hm | exact mo_a6 hm) (by first | assumption | exact mo_a hm | exact mo_r0 hm | exact mo_r1 hm | exact mo_r2 hm | exact mo_r4 hm | exact mo_r6 hm | exact mo_r8 hm | exact mo_a1 hm | exact mo_a2 hm | exact mo_a3 hm | exact mo_a4 hm | exact mo_a5 hm | exact mo_a6 hm) ?_
              refine px_bipush (8) dX8_workOut_155 rfl ?_
              refine px_iload_3 dX8_workOut_157 ?_
              refine px_imul dX8_workOut_158 ?_
              refine px_iload_6 dX8_workOut_159 ?_
              refine px_iadd dX8_workOut_161 ?_
              refine px_laldN dX8_workOut_162 (by first | assumption | exact mo_a hm | exact mo_r0 hm | exact mo_r1 hm | exact mo_r2 hm | exact mo_r4 hm | exact mo_r6 hm | exact mo_r8 hm | exact mo_a1 hm | exact mo_a2 hm | exact mo_a3 hm | exact mo_a4 hm | exact mo_a5 hm | exact mo_a6 hm) (by exact hidx) (by omega) ?_
              rw [hcell]
              refine px_lcmp dX8_workOut_163 ?_
              refine px_lc_le (tgt := 180) dX8_workOut_164 (by decide) (fun h164 => (by first | exact absurd h164 (hng) | exact absurd (hng) h164)) (fun h164 => ?_)
              refine px_iload_5 dX8_workOut_167 ?_
              refine px_if_eq (tgt := 176) dX8_workOut_169 (by decide) (fun h169 => (by first | exact absurd h169 ((by decide)) | exact absurd ((by decide)) h169)) (fun h169 => ?_)
              refine px_iload_2 dX8_workOut_172 ?_
              refine px_if_ne (tgt := 180) dX8_workOut_173 (by decide) (fun h173 => (by first | exact absurd h173 (h0) | exact absurd (h0) h173)) (fun h173 => ?_)
              refine px_iconst (1) dX8_workOut_176 rfl ?_
              refine px_goto (tgt := 181) dX8_workOut_177 (by decide) ?_
              refine px_istore_9 dX8_workOut_181 rfl ?_
              refine px_aload_0 dX8_workOut_183 ?_
              refine gf_X8_25 rfl dX8_workOut_184 (by first | assumption | exact mo_a hm | exact mo_r0 hm | exact mo_r1 hm | exact mo_r2 hm | exact mo_r4 hm | exact mo_r6 hm | exact mo_r8 hm | exact mo_a1 hm | exact mo_a2 hm | exact mo_a3 hm | exact mo_a4 hm | exact mo_a5 hm | exact mo_a6 hm) (by first | assumption | exact mo_a hm | exact mo_r0 hm | exact mo_r1 hm | exact mo_r2 hm | exact mo_r4 hm | exact mo_r6 hm | exact mo_r8 hm | exact mo_a1 hm | exact mo_a2 hm | exact mo_a3 hm | exact mo_a4 hm | exact mo_a5 hm | exact mo_a6 hm) ?_
              refine px_bipush (8) dX8_workOut_187 rfl ?_
              refine px_iload_3 dX8_workOut_189 ?_
              refine px_imul dX8_workOut_190 ?_
              refine px_iload_6 dX8_workOut_191 ?_
              refine px_iadd dX8_workOut_193 ?_
              refine px_iload_9 dX8_workOut_194 ?_
              refine px_if_eq (tgt := 204) dX8_workOut_196 (by decide) (fun h196 => (by first | exact absurd h196 ((by decide)) | exact absurd ((by decide)) h196)) (fun h196 => ?_)
              refine px_lload_7 dX8_workOut_199 ?_
              refine px_goto (tgt := 216) dX8_workOut_201 (by decide) ?_
              refine px_lastN dX8_workOut_216 (by first | assumption | exact mo_a hm | exact mo_r0 hm | exact mo_r1 hm | exact mo_r2 hm | exact mo_r4 hm | exact mo_r6 hm | exact mo_r8 hm | exact mo_a1 hm | exact mo_a2 hm | exact mo_a3 hm | exact mo_a4 hm | exact mo_a5 hm | exact mo_a6 hm) (by exact hidx) (by omega) ?_
              refine px_iinc_4 dX8_workOut_217 rfl ?_
              refine px_goto (tgt := 85) dX8_workOut_220 (by decide) ?_
              rw [inc_nI]; exact ih (i + 1) (by omega) _ (hst _ (by rw [if_pos ⟨hgt, fun _ => h0⟩])) _ _ _ _ _
            · skip
              refine px_iload_4 dX8_workOut_85 ?_
              refine px_iconst (4) dX8_workOut_87 rfl ?_
              refine px_aload_0 dX8_workOut_88 ?_
              refine gf_X8_7 rfl dX8_workOut_89 (by first | assumption | exact mo_a hm | exact mo_r0 hm | exact mo_r1 hm | exact mo_r2 hm | exact mo_r4 hm | exact mo_r6 hm | exact mo_r8 hm | exact mo_a1 hm | exact mo_a2 hm | exact mo_a3 hm | exact mo_a4 hm | exact mo_a5 hm | exact mo_a6 hm) (by first | assumption | exact mo_a hm | exact mo_r0 hm | exact mo_r1 hm | exact mo_r2 hm | exact mo_r4 hm | exact mo_r6 hm | exact mo_r8 hm | exact mo_a1 hm | exact mo_a2 hm | exact mo_a3 hm | exact mo_a4 hm | exact mo_a5 hm | exact mo_a6 hm) ?_
              refine px_bipush (8) dX8_workOut_92 rfl ?_
              refine px_ialdN (j := 8) dX8_workOut_94 (by first | assumption | exact mo_a hm | exact mo_r0 hm | exact mo_r1 hm | exact mo_r2 hm | exact mo_r4 hm | exact mo_r6 hm | exact mo_r8 hm | exact mo_a1 hm | exact mo_a2 hm | exact mo_a3 hm | exact mo_a4 hm | exact mo_a5 hm | exact mo_a6 hm) (by first | rfl | exact ix_eq (by assumption)) (by first | decide | omega) ?_
              refine px_imul dX8_workOut_95 ?_
              rw [e8]
              refine px_icmp_ge (tgt := 223) dX8_workOut_96 (by decide) (fun h96 => (by first | exact absurd h96 (hlt) | exact absurd (hlt) h96)) (fun h96 => ?_)
              refine px_iload_4 dX8_workOut_99 ?_
              refine px_iconst (2) dX8_workOut_101 rfl ?_
              refine px_irem dX8_workOut_102 (by decide) ?_
              refine px_iconst (1) dX8_workOut_103 rfl ?_
              refine px_icmp_ne (tgt := 111) dX8_workOut_104 (by decide) (fun h104 => (by first | exact absurd h104 (b1) | exact absurd (b1) h104)) (fun h104 => ?_)
              refine px_iconst (1) dX8_workOut_107 rfl ?_
              refine px_goto (tgt := 112) dX8_workOut_108 (by decide) ?_
              refine px_istore_5 dX8_workOut_112 rfl ?_
              refine px_aload_0 dX8_workOut_114 ?_
              refine px_iload_4 dX8_workOut_115 ?_
              refine px_iconst (4) dX8_workOut_117 rfl ?_
              refine px_idiv dX8_workOut_118 (by decide) ?_
              refine px_iload_4 dX8_workOut_119 ?_
              refine px_iconst (2) dX8_workOut_121 rfl ?_
              refine px_idiv dX8_workOut_122 (by decide) ?_
              refine px_iconst (2) dX8_workOut_123 rfl ?_
              refine px_irem dX8_workOut_124 (by decide) ?_
              refine cd_X8_48 rfl ⟨⟨Nat.le_of_ble_eq_true rfl, Nat.le_of_ble_eq_true rfl⟩, Nat.le_of_ble_eq_true rfl, Nat.le_of_ble_eq_true rfl, Nat.le_of_ble_eq_true rfl⟩ (by first | assumption | exact mo_a hm | exact mo_r0 hm | exact mo_r1 hm | exact mo_r2 hm | exact mo_r4 hm | exact mo_r6 hm | exact mo_r8 hm | exact mo_a1 hm | exact mo_a2 hm | exact mo_a3 hm | exact mo_a4 hm | exact mo_a5 hm | exact mo_a6 hm) dX8_workOut_125 (hend) ?_
              refine px_istore_6 dX8_workOut_128 rfl ?_
              refine px_aload_0 dX8_workOut_130 ?_
              refine px_iload_4 dX8_workOut_131 ?_
              refine px_iconst (4) dX8_workOut_133 rfl ?_
              refine px_idiv dX8_workOut_134 (by decide) ?_
              refine px_iload_4 dX8_workOut_135 ?_
              refine px_iconst (2) dX8_workOut_137 rfl ?_
              refine px_idiv dX8_workOut_138 (by decide) ?_
              refine px_iconst (2) dX8_workOut_139 rfl ?_
              refine px_irem dX8_workOut_140 (by decide) ?_
              refine px_iload_3 dX8_workOut_141 ?_
              refine px_iload_5 dX8_workOut_142 ?_
              refine cd_X8_74 rfl ⟨⟨Nat.le_of_ble_eq_true rfl, Nat.le_of_ble_eq_true rfl⟩, Nat.le_of_ble_eq_true rfl, Nat.le_of_ble_eq_true rfl, Nat.le_of_ble_eq_true rfl⟩ (by first | assumption | exact mo_a hm | exact mo_r0 hm | exact mo_r1 hm | exact mo_r2 hm | exact mo_r4 hm | exact mo_r6 hm | exact mo_r8 hm | exact mo_a1 hm | exact mo_a2 hm | exact mo_a3 hm | exact mo_a4 hm | exact mo_a5 hm | exact mo_a6 hm) dX8_workOut_144 (hby) ?_
              refine px_lstore_7 dX8_workOut_147 rfl ?_
              refine px_lload_7 dX8_workOut_149 ?_
              refine px_aload_0 dX8_workOut_151 ?_
              refine gf_X8_25 rfl dX8_workOut_152 (by first | assumption | exact mo_a hm | exact mo_r0 hm | exact mo_r1 hm | exact mo_r2 hm | exact mo_r4 hm | exact mo_r6 hm | exact mo_r8 hm | exact mo_a1 hm | exact mo_a2 hm | exact mo_a3 hm | exact mo_a4 hm | exact mo_a5 hm | exact mo_a6 hm) (by first | assumption | exact mo_a hm | exact mo_r0 hm | exact mo_r1 hm | exact mo_r2 hm | exact mo_r4 hm | exact mo_r6 hm | exact mo_r8 hm | exact mo_a1 hm | exact mo_a2 hm | exact mo_a3 hm | exact mo_a4 hm | exact mo_a5 hm | exact mo_a6 hm) ?_
              refine px_bipush (8) dX8_workOut_155 rfl ?_
              refine px_iload_3 dX8_workOut_157 ?_
              refine px_imul dX8_workOut_158 ?_
              refine px_iload_6 dX8_workOut_159 ?_
              refine px_iadd dX8_workOut_161 ?_
              refine px_laldN dX8_workOut_162 (by first | assumption | exact mo_a hm | exact mo_r0 hm | exact mo_r1 hm | exact mo_r2 hm | exact mo_r4 hm | exact mo_r6 hm | exact mo_r8 hm | exact mo_a1 hm | exact mo_a2 hm | exact mo_a3 hm | exact mo_a4 hm | exact mo_a5 hm | exact mo_a6 hm) (by exact hidx) (by omega) ?_
              rw [hcell]
              refine px_lcmp dX8_workOut_163 ?_
              refine px_lc_le (tgt := 180) dX8_workOut_164 (by decide) (fun h164 => (by first | exact absurd h164 (hng) | exact absurd (hng) h164)) (fun h164 => ?_)
              refine px_iload_5 dX8_workOut_167 ?_
              refine px_if_eq (tgt := 176) dX8_workOut_169 (by decide) (fun h169 => (by first | exact absurd h169 ((by decide)) | exact absurd ((by decide)) h169)) (fun h169 => ?_)
              refine px_iload_2 dX8_workOut_172 ?_
              refine px_if_ne (tgt := 180) dX8_workOut_173 (by decide) (fun h173 => ?_) (fun h173 => (by first | exact absurd (h0) h173 | exact absurd h173 (h0)))
              refine px_iconst (0) dX8_workOut_180 rfl ?_
              refine px_istore_9 dX8_workOut_181 rfl ?_
              refine px_aload_0 dX8_workOut_183 ?_
              refine gf_X8_25 rfl dX8_workOut_184 (by first | assumption | exact mo_a hm | exact mo_r0 hm | exact mo_r1 hm | exact mo_r2 hm | exact mo_r4 hm | exact mo_r6 hm | exact mo_r8 hm | exact mo_a1 hm | exact mo_a2 hm | exact mo_a3 hm | exact mo_a4 hm | exact mo_a5 hm | exact mo_a6 hm) (by first | assumption | exact mo_a hm | exact mo_r0 hm | exact mo_r1 hm | exact mo_r2 hm | exact mo_r4 hm | exact mo_r6 hm | exact mo_r8 hm | exact mo_a1 hm | exact mo_a2 hm | exact mo_a3 hm | exact mo_a4 hm | exact mo_a5 hm | exact mo_a6 hm) ?_
              refine px_bipush (8) dX8_workOut_187 rfl ?_
              refine px_iload_3 dX8_workOut_189 ?_
              refine px_imul dX8_workOut_190 ?_
              refine px_iload_6 dX8_workOut_191 ?_
              refine px_iadd dX8_workOut_193 ?_
              refine px_iload_9 dX8_workOut_194 ?_
              refine px_if_eq (tgt := 204) dX8_workOut_196 (by decide) (fun h196 => ?_) (fun h196 => (by first | exact absurd (rfl) h196 | exact absurd h196 (rfl)))
              refine px_aload_0 dX8_workOut_204 ?_
              refine gf_X8_25 rfl dX8_workOut_205 (by first | assumption | exact mo_a hm | exact mo_r0 hm | exact mo_r1 hm | exact mo_r2 hm | exact mo_r4 hm | exact mo_r6 hm | exact mo_r8 hm | exact mo_a1 hm | exact mo_a2 hm | exact mo_a3 hm | exact mo_a4 hm | exact mo_a5 hm | exact mo_a6 hm) (by first | assumption | exact mo_a hm | exact mo_r0 hm | exact mo_r1 hm | exact mo_r2 hm | exact mo_r4 hm | exact mo_r6 hm | exact mo_r8 hm | exact mo_a1 hm | exact mo_a2 hm | exact mo_a3 hm | exact mo_a4 hm | exact mo_a5 hm | exact mo_a6 hm) ?_
              refine px_bipush (8) dX8_workOut_208 rfl ?_
              refine px_iload_3 dX8_workOut_210 ?_
              refine px_imul dX8_workOut_211 ?_
              refine px_iload_6 dX8_workOut_212 ?_
              refine px_iadd dX8_workOut_214 ?_
              refine px_laldN dX8_workOut_215 (by first | assumption | exact mo_a hm | exact mo_r0 hm | exact mo_r1 hm | exact mo_r2 hm | exact mo_r4 hm | exact mo_r6 hm | exact mo_r8 hm | exact mo_a1 hm | exact mo_a2 hm | exact mo_a3 hm | exact mo_a4 hm | exact mo_a5 hm | exact mo_a6 hm) (by exact hidx) (by omega) ?_
              rw [hcell]
              refine px_lastN dX8_workOut_216 (by first | assumption | exact mo_a hm | exact mo_r0 hm | exact mo_r1 hm | exact mo_r2 hm | exact mo_r4 hm | exact mo_r6 hm | exact mo_r8 hm | exact mo_a1 hm | exact mo_a2 hm | exact mo_a3 hm | exact mo_a4 hm | exact mo_a5 hm | exact mo_a6 hm) (by exact hidx) (by omega) ?_
              refine px_iinc_4 dX8_workOut_217 rfl ?_
              refine px_goto (tgt := 85) dX8_workOut_220 (by decide) ?_
              rw [inc_nI]; exact ih (i + 1) (by omega) _ (hst _ (by rw [if_neg (fun q => h0 (q.2 h1))])) _ _ _ _ _
          · have hby := s_X8_by (l := l) (J := J') (b := 0) (h := i % 2) (z := nI (left + 1)) hm hV e1 hr e2 hk rfl (by omega) (by rw [show i % 2 = 0 by omega]; rfl) (by omega) hpre
            have b1 : ¬ nI i - nI i / 2 * 2 = 1 := by rw [e5, show i % 2 = 0 by omega]; decide
            refine px_iload_4 dX8_workOut_85 ?_
            refine px_iconst (4) dX8_workOut_87 rfl ?_
            refine px_aload_0 dX8_workOut_88 ?_
            refine gf_X8_7 rfl dX8_workOut_89 (by first | assumption | exact mo_a hm | exact mo_r0 hm | exact mo_r1 hm | exact mo_r2 hm | exact mo_r4 hm | exact mo_r6 hm | exact mo_r8 hm | exact mo_a1 hm | exact mo_a2 hm | exact mo_a3 hm | exact mo_a4 hm | exact mo_a5 hm | exact mo_a6 hm) (by first | assumption | exact mo_a hm | exact mo_r0 hm | exact mo_r1 hm | exact mo_r2 hm | exact mo_r4 hm | exact mo_r6 hm | exact mo_r8 hm | exact mo_a1 hm | exact mo_a2 hm | exact mo_a3 hm | exact mo_a4 hm | exact mo_a5 hm | exact mo_a6 hm) ?_
            refine px_bipush (8) dX8_workOut_92 rfl ?_
            refine px_ialdN (j := 8) dX8_workOut_94 (by first | assumption | exact mo_a hm | exact mo_r0 hm | exact mo_r1 hm | exact mo_r2 hm | exact mo_r4 hm | exact mo_r6 hm | exact mo_r8 hm | exact mo_a1 hm | exact mo_a2 hm | exact mo_a3 hm | exact mo_a4 hm | exact mo_a5 hm | exact mo_a6 hm) (by first | rfl | exact ix_eq (by assumption)) (by first | decide | omega) ?_
            refine px_imul dX8_workOut_95 ?_
            rw [e8]
            refine px_icmp_ge (tgt := 223) dX8_workOut_96 (by decide) (fun h96 => (by first | exact absurd h96 (hlt) | exact absurd (hlt) h96)) (fun h96 => ?_)
            refine px_iload_4 dX8_workOut_99 ?_
            refine px_iconst (2) dX8_workOut_101 rfl ?_
            refine px_irem dX8_workOut_102 (by decide) ?_
            refine px_iconst (1) dX8_workOut_103 rfl ?_
            refine px_icmp_ne (tgt := 111) dX8_workOut_104 (by decide) (fun h104 => ?_) (fun h104 => (by first | exact absurd (b1) h104 | exact absurd h104 (b1)))
            refine px_iconst (0) dX8_workOut_111 rfl ?_
            refine px_istore_5 dX8_workOut_112 rfl ?_
            refine px_aload_0 dX8_workOut_114 ?_
            refine px_iload_4 dX8_workOut_115 ?_
            refine px_iconst (4) dX8_workOut_117 rfl ?_
            refine px_idiv dX8_workOut_118 (by decide) ?_
            refine px_iload_4 dX8_workOut_119 ?_
            refine px_iconst (2) dX8_workOut_121 rfl ?_
            refine px_idiv dX8_workOut_122 (by decide) ?_
            refine px_iconst (2) dX8_workOut_123 rfl ?_
            refine px_irem dX8_workOut_124 (by decide) ?_
            refine cd_X8_48 rfl ⟨⟨Nat.le_of_ble_eq_true rfl, Nat.le_of_ble_eq_true rfl⟩, Nat.le_of_ble_eq_true rfl, Nat.le_of_ble_eq_true rfl, Nat.le_of_ble_eq_true rfl⟩ (by first | assumption | exact mo_a hm | exact mo_r0 hm | exact mo_r1 hm | exact mo_r2 hm | exact mo_r4 hm | exact mo_r6 hm | exact mo_r8 hm | exact mo_a1 hm | exact mo_a2 hm | exact mo_a3 hm | exact mo_a4 hm | exact mo_a5 hm | exact mo_a6 hm) dX8_workOut_125 (hend) ?_
            refine px_istore_6 dX8_workOut_128 rfl ?_
            refine px_aload_0 dX8_workOut_130 ?_
            refine px_iload_4 dX8_workOut_131 ?_
            refine px_iconst (4) dX8_workOut_133 rfl ?_
            refine px_idiv dX8_workOut_134 (by decide) ?_
            refine px_iload_4 dX8_workOut_135 ?_
            refine px_iconst (2) dX8_workOut_137 rfl ?_
            refine px_idiv dX8_workOut_138 (by decide) ?_
            refine px_iconst (2) dX8_workOut_139 rfl ?_
            refine px_irem dX8_workOut_140 (by decide) ?_
            refine px_iload_3 dX8_workOut_141 ?_
            refine px_iload_5 dX8_workOut_142 ?_
            refine cd_X8_74 rfl ⟨⟨Nat.le_of_ble_eq_true rfl, Nat.le_of_ble_eq_true rfl⟩, Nat.le_of_ble_eq_true rfl, Nat.le_of_ble_eq_true rfl, Nat.le_of_ble_eq_true rfl⟩ (by first | assumption | exact mo_a hm | exact mo_r0 hm | exact mo_r1 hm | exact mo_r2 hm | exact mo_r4 hm | exact mo_r6 hm | exact mo_r8 hm | exact mo_a1 hm | exact mo_a2 hm | exact mo_a3 hm | exact mo_a4 hm | exact mo_a5 hm | exact mo_a6 hm) dX8_workOut_144 (hby) ?_
            refine px_lstore_7 dX8_workOut_147 rfl ?_
            refine px_lload_7 dX8_workOut_149 ?_
            refine px_aload_0 dX8_workOut_151 ?_
            refine gf_X8_25 rfl dX8_workOut_152 (by first | assumption | exact mo_a hm | exact mo_r0 hm | exact mo_r1 hm | exact mo_r2 hm | exact mo_r4 hm | exact mo_r6 hm | exact mo_r8 hm | exact mo_a1 hm | exact mo_a2 hm | exact mo_a3 hm | exact mo_a4 hm | exact mo_a5 hm | exact mo_a6 hm) (by first | assumption | exact mo_a hm | exact mo_r0 hm | exact mo_r1 hm | exact mo_r2 hm | exact mo_r4 hm | exact mo_r6 hm | exact mo_r8 hm | exact mo_a1 hm | exact mo_a2 hm | exact mo_a3 hm | exact mo_a4 hm | exact mo_a5 hm | exact mo_a6 hm) ?_
            refine px_bipush (8) dX8_workOut_155 rfl ?_
            refine px_iload_3 dX8_workOut_157 ?_
            refine px_imul dX8_workOut_158 ?_
            refine px_iload_6 dX8_workOut_159 ?_
            refine px_iadd dX8_workOut_161 ?_
            refine px_laldN dX8_workOut_162 (by first | assumption | exact mo_a hm | exact mo_r0 hm | exact mo_r1 hm | exact mo_r2 hm | exact mo_r4 hm | exact mo_r6 hm | exact mo_r8 hm | exact mo_a1 hm | exact mo_a2 hm | exact mo_a3 hm | exact mo_a4 hm | exact mo_a5 hm | exact mo_a6 hm) (by exact hidx) (by omega) ?_
            rw [hcell]
            refine px_lcmp dX8_workOut_163 ?_
            refine px_lc_le (tgt := 180) dX8_workOut_164 (by decide) (fun h164 => (by first | exact absurd h164 (hng) | exact absurd (hng) h164)) (fun h164 => ?_)
            refine px_iload_5 dX8_workOut_167 ?_
            refine px_if_eq (tgt := 176) dX8_workOut_169 (by decide) (fun h169 => ?_) (fun h169 => (by first | exact absurd (rfl) h169 | exact absurd h169 (rfl)))
            refine px_iconst (1) dX8_workOut_176 rfl ?_
            refine px_goto (tgt := 181) dX8_workOut_177 (by decide) ?_
            refine px_istore_9 dX8_workOut_181 rfl ?_
            refine px_aload_0 dX8_workOut_183 ?_
            refine gf_X8_25 rfl dX8_workOut_184 (by first | assumption | exact mo_a hm | exact mo_r0 hm | exact mo_r1 hm | exact mo_r2 hm | exact mo_r4 hm | exact mo_r6 hm | exact mo_r8 hm | exact mo_a1 hm | exact mo_a2 hm | exact mo_a3 hm | exact mo_a4 hm | exact mo_a5 hm | exact mo_a6 hm) (by first | assumption | exact mo_a hm | exact mo_r0 hm | exact mo_r1 hm | exact mo_r2 hm | exact mo_r4 hm | exact mo_r6 hm | exact mo_r8 hm | exact mo_a1 hm | exact mo_a2 hm | exact mo_a3 hm | exact mo_a4 hm | exact mo_a5 hm | exact mo_a6 hm) ?_
            refine px_bipush (8) dX8_workOut_187 rfl ?_
            refine px_iload_3 dX8_workOut_189 ?_
            refine px_imul dX8_workOut_190 ?_
            refine px_iload_6 dX8_workOut_191 ?_
            refine px_iadd dX8_workOut_193 ?_
            refine px_iload_9 dX8_workOut_194 ?_
            refine px_if_eq (tgt := 204) dX8_workOut_196 (by decide) (fun h196 => (by first | exact absurd h196 ((by decide)) | exact absurd ((by decide)) h196)) (fun h196 => ?_)
            refine px_lload_7 dX8_workOut_199 ?_
            refine px_goto (tgt := 216) dX8_workOut_201 (by decide) ?_
            refine px_lastN dX8_workOut_216 (by first | assumption | exact mo_a hm | exact mo_r0 hm | exact mo_r1 hm | exact mo_r2 hm | exact mo_r4 hm | exact mo_r6 hm | exact mo_r8 hm | exact mo_a1 hm | exact mo_a2 hm | exact mo_a3 hm | exact mo_a4 hm | exact mo_a5 hm | exact mo_a6 hm) (by exact hidx) (by omega) ?_
            refine px_iinc_4 dX8_workOut_217 rfl ?_
            refine px_goto (tgt := 85) dX8_workOut_220 (by decide) ?_
            rw [inc_nI]; exact ih (i + 1) (by omega) _ (hst _ (by rw [if_pos ⟨hgt, fun q => absurd q h1⟩])) _ _ _ _ _
        · have hng := Int64.not_lt.mp hgt
          by_cases h1 : i % 2 = 1
          · have hby := s_X8_by (l := l) (J := J') (b := 1) (h := i % 2) (z := nI (left + 1)) hm hV e1 hr e2 hk rfl (by omega) (by rw [h1]; rfl) (by omega) hpre
            have b1 : nI i - nI i / 2 * 2 = 1 := by rw [e5, h1]; rfl
            refine px_iload_4 dX8_workOut_85 ?_
            refine px_iconst (4) dX8_workOut_87 rfl ?_
            refine px_aload_0 dX8_workOut_88 ?_
            refine gf_X8_7 rfl dX8_workOut_89 (by first | assumption | exact mo_a hm | exact mo_r0 hm | exact mo_r1 hm | exact mo_r2 hm | exact mo_r4 hm | exact mo_r6 hm | exact mo_r8 hm | exact mo_a1 hm | exact mo_a2 hm | exact mo_a3 hm | exact mo_a4 hm | exact mo_a5 hm | exact mo_a6 hm) (by first | assumption | exact mo_a hm | exact mo_r0 hm | exact mo_r1 hm | exact mo_r2 hm | exact mo_r4 hm | exact mo_r6 hm | exact mo_r8 hm | exact mo_a1 hm | exact mo_a2 hm | exact mo_a3 hm | exact mo_a4 hm | exact mo_a5 hm | exact mo_a6 hm) ?_
            refine px_bipush (8) dX8_workOut_92 rfl ?_
            refine px_ialdN (j := 8) dX8_workOut_94 (by first | assumption | exact mo_a hm | exact mo_r0 hm | exact mo_r1 hm | exact mo_r2 hm | exact mo_r4 hm | exact mo_r6 hm | exact mo_r8 hm | exact mo_a1 hm | exact mo_a2 hm | exact mo_a3 hm | exact mo_a4 hm | exact mo_a5 hm | exact mo_a6 hm) (by first | rfl | exact ix_eq (by assumption)) (by first | decide | omega) ?_
            refine px_imul dX8_workOut_95 ?_
            rw [e8]
            refine px_icmp_ge (tgt := 223) dX8_workOut_96 (by decide) (fun h96 => (by first | exact absurd h96 (hlt) | exact absurd (hlt) h96)) (fun h96 => ?_)
            refine px_iload_4 dX8_workOut_99 ?_
            refine px_iconst (2) dX8_workOut_101 rfl ?_
            refine px_irem dX8_workOut_102 (by decide) ?_
            refine px_iconst (1) dX8_workOut_103 rfl ?_
            refine px_icmp_ne (tgt := 111) dX8_workOut_104 (by decide) (fun h104 => (by first | exact absurd h104 (b1) | exact absurd (b1) h104)) (fun h104 => ?_)
            refine px_iconst (1) dX8_workOut_107 rfl ?_
            refine px_goto (tgt := 112) dX8_workOut_108 (by decide) ?_
            refine px_istore_5 dX8_workOut_112 rfl ?_
            refine px_aload_0 dX8_workOut_114 ?_
            refine px_iload_4 dX8_workOut_115 ?_
            refine px_iconst (4) dX8_workOut_117 rfl ?_
            refine px_idiv dX8_workOut_118 (by decide) ?_
            refine px_iload_4 dX8_workOut_119 ?_
            refine px_iconst (2) dX8_workOut_121 rfl ?_
            refine px_idiv dX8_workOut_122 (by decide) ?_
            refine px_iconst (2) dX8_workOut_123 rfl ?_
            refine px_irem dX8_workOut_124 (by decide) ?_
            refine cd_X8_48 rfl ⟨⟨Nat.le_of_ble_eq_true rfl, Nat.le_of_ble_eq_true rfl⟩, Nat.le_of_ble_eq_true rfl, Nat.le_of_ble_eq_true rfl, Nat.le_of_ble_eq_true rfl⟩ (by first | assumption | exact mo_a hm | exact mo_r0 hm | exact mo_r1 hm | exact mo_r2 hm | exact mo_r4 hm | exact mo_r6 hm | exact mo_r8 hm | exact mo_a1 hm | exact mo_a2 hm | exact mo_a3 hm | exact mo_a4 hm | exact mo_a5 hm | exact mo_a6 hm) dX8_workOut_125 (hend) ?_
            refine px_istore_6 dX8_workOut_128 rfl ?_
            refine px_aload_0 dX8_workOut_130 ?_
            refine px_iload_4 dX8_workOut_131 ?_
            refine px_iconst (4) dX8_workOut_133 rfl ?_
            refine px_idiv dX8_workOut_134 (by decide) ?_
            refine px_iload_4 dX8_workOut_135 ?_
            refine px_iconst (2) dX8_workOut_137 rfl ?_
            refine px_idiv dX8_workOut_138 (by decide) ?_
            refine px_iconst (2) dX8_workOut_139 rfl ?_
            refine px_irem dX8_workOut_140 (by decide) ?_
            refine px_iload_3 dX8_workOut_141 ?_
            refine px_iload_5 dX8_workOut_142 ?_
            refine cd_X8_74 rfl ⟨⟨Nat.le_of_ble_eq_true rfl, Nat.le_of_ble_eq_true rfl⟩, Nat.le_of_ble_eq_true rfl, Nat.le_of_ble_eq_true rfl, Nat.le_of_ble_eq_true rfl⟩ (by first | assumption | exact mo_a hm | exact mo_r0 hm | exact mo_r1 hm | exact mo_r2 hm | exact mo_r4 hm | exact mo_r6 hm | exact mo_r8 hm | exact mo_a1 hm | exact mo_a2 hm | exact mo_a3 hm | exact mo_a4 hm | exact mo_a5 hm | exact mo_a6 hm) dX8_workOut_144 (hby) ?_
            refine px_lstore_7 dX8_workOut_147 rfl ?_
            refine px_lload_7 dX8_workOut_149 ?_
            refine px_aload_0 dX8_workOut_151 ?_
            refine gf_X8_25 rfl dX8_workOut_152 (by first | assumption | exact mo_a hm | exact mo_r0 hm | exact mo_r1 hm | exact mo_r2 hm | exact mo_r4 hm | exact mo_r6 hm | exact mo_r8 hm | exact mo_a1 hm | exact mo_a2 hm | exact mo_a3 hm | exact mo_a4 hm | exact mo_a5 hm | exact mo_a6 hm) (by first | assumption | exact mo_a hm | exact mo_r0 hm | exact mo_r1 hm | exact mo_r2 hm | exact mo_r4 hm | exact mo_r6 hm | exact mo_r8 hm | exact mo_a1 hm | exact mo_a2 hm | exact mo_a3 hm | exact mo_a4 hm | exact mo_a5 hm | exact mo_a6 hm) ?_
            refine px_bipush (8) dX8_workOut_155 rfl ?_
            refine px_iload_3 dX8_workOut_157 ?_
            refine px_imul dX8_workOut_158 ?_
            refine px_iload_6 dX8_workOut_159 ?_
            refine px_iadd dX8_workOut_161 ?_
            refine px_laldN dX8_workOut_162 (by first | assumption | exact mo_a hm | exact mo_r0 hm | exact mo_r1 hm | exact mo_r2 hm | exact mo_r4 hm | exact mo_r6 hm | exact mo_r8 hm | exact mo_a1 hm | exact mo_a2 hm | exact mo_a3 hm | exact mo_a4 hm | exact mo_a5 hm | exact mo_a6 hm) (by exact hidx) (by omega) ?_
            rw [hcell]
            refine px_lcmp dX8_workOut_163 ?_
            refine px_lc_le (tgt := 180) dX8_workOut_164 (by decide) (fun h164 => ?_) (fun h164 => (by first | exact absurd (hng) h164 | exact absurd h164 (hng)))
            refine px_iconst (0) dX8_workOut_180 rfl ?_
            refine px_istore_9 dX8_workOut_181 rfl ?_
            refine px_aload_0 dX8_workOut_183 ?_
            refine gf_X8_25 rfl dX8_workOut_184 (by first | assumption | exact mo_a hm | exact mo_r0 hm | exact mo_r1 hm | exact mo_r2 hm | exact mo_r4 hm | exact mo_r6 hm | exact mo_r8 hm | exact mo_a1 hm | exact mo_a2 hm | exact mo_a3 hm | exact mo_a4 hm | exact mo_a5 hm | exact mo_a6 hm) (by first | assumption | exact mo_a hm | exact mo_r0 hm | exact mo_r1 hm | exact mo_r2 hm | exact mo_r4 hm | exact mo_r6 hm | exact mo_r8 hm | exact mo_a1 hm | exact mo_a2 hm | exact mo_a3 hm | exact mo_a4 hm | exact mo_a5 hm | exact mo_a6 hm) ?_
            refine px_bipush (8) dX8_workOut_187 rfl ?_
            refine px_iload_3 dX8_workOut_189 ?_
            refine px_imul dX8_workOut_190 ?_
            refine px_iload_6 dX8_workOut_191 ?_
            refine px_iadd dX8_workOut_193 ?_
            refine px_iload_9 dX8_workOut_194 ?_
            refine px_if_eq (tgt := 204) dX8_workOut_196 (by decide) (fun h196 => ?_) (fun h196 => (by first | exact absurd (rfl) h196 | exact absurd h196 (rfl)))
            refine px_aload_0 dX8_workOut_204 ?_
            refine gf_X8_25 rfl dX8_workOut_205 (by first | assumption | exact mo_a hm | exact mo_r0 hm | exact mo_r1 hm | exact mo_r2 hm | exact mo_r4 hm | exact mo_r6 hm | exact mo_r8 hm | exact mo_a1 hm | exact mo_a2 hm | exact mo_a3 hm | exact mo_a4 hm | exact mo_a5 hm | exact mo_a6 hm) (by first | assumption | exact mo_a hm | exact mo_r0 hm | exact mo_r1 hm | exact mo_r2 hm | exact mo_r4 hm | exact mo_r6 hm | exact mo_r8 hm | exact mo_a1 hm | exact mo_a2 hm | exact mo_a3 hm | exact mo_a4 hm | exact mo_a5 hm | exact mo_a6 hm) ?_
            refine px_bipush (8) dX8_workOut_208 rfl ?_
            refine px_iload_3 dX8_workOut_210 ?_
            refine px_imul dX8_workOut_211 ?_
            refine px_iload_6 dX8_workOut_212 ?_
            refine px_iadd dX8_workOut_214 ?_
            refine px_laldN dX8_workOut_215 (by first | assumption | exact mo_a hm | exact mo_r0 hm | exact mo_r1 hm | exact mo_r2 hm | exact mo_r4 hm | exact mo_r6 hm | exact mo_r8 hm | exact mo_a1 hm | exact mo_a2 hm | exact mo_a3 hm | exact mo_a4 hm | exact mo_a5 hm | exact mo_a6 hm) (by exact hidx) (by omega) ?_
            rw [hcell]
            refine px_lastN dX8_workOut_216 (by first | assumption | exact mo_a hm | exact mo_r0 hm | exact mo_r1 hm | exact mo_r2 hm | exact mo_r4 hm | exact mo_r6 hm | exact mo_r8 hm | exact mo_a1 hm | exact mo_a2 hm | exact mo_a3 hm | exact mo_a4 hm | exact mo_a5 hm | exact mo_a6 hm) (by exact hidx) (by omega) ?_
            refine px_iinc_4 dX8_workOut_217 rfl ?_
            refine px_goto (tgt := 85) dX8_workOut_220 (by decide) ?_
            rw [inc_nI]; exact ih (i + 1) (by omega) _ (hst _ (by rw [if_neg (fun q => hgt q.1)])) _ _ _ _ _
          · have hby := s_X8_by (l := l) (J := J') (b := 0) (h := i % 2) (z := nI (left + 1)) hm hV e1 hr e2 hk rfl (by omega) (by rw [show i % 2 = 0 by omega]; rfl) (by omega) hpre
            have b1 : ¬ nI i - nI i / 2 * 2 = 1 := by rw [e5, show i % 2 = 0 by omega]; decide
            refine px_iload_4 dX8_workOut_85 ?_
            refine px_iconst (4) dX8_workOut_87 rfl ?_
            refine px_aload_0 dX8_workOut_88 ?_
            refine gf_X8_7 rfl dX8_workOut_89 (by first | assumption | exact mo_a hm | exact mo_r0 hm | exact mo_r1 hm | exact mo_r2 hm | exact mo_r4 hm | exact mo_r6 hm | exact mo_r8 hm | exact mo_a1 hm | exact mo_a2 hm | exact mo_a3 hm | exact mo_a4 hm | exact mo_a5 hm | exact mo_a6 hm) (by first | assumption | exact mo_a hm | exact mo_r0 hm | exact mo_r1 hm | exact mo_r2 hm | exact mo_r4 hm | exact mo_r6 hm | exact mo_r8 hm | exact mo_a1 hm | exact mo_a2 hm | exact mo_a3 hm | exact mo_a4 hm | exact mo_a5 hm | exact mo_a6 hm) ?_
            refine px_bipush (8) dX8_workOut_92 rfl ?_
            refine px_ialdN (j := 8) dX8_workOut_94 (by first | assumption | exact mo_a hm | exact mo_r0 hm | exact mo_r1 hm | exact mo_r2 hm | exact mo_r4 hm | exact mo_r6 hm | exact mo_r8 hm | exact mo_a1 hm | exact mo_a2 hm | exact mo_a3 hm | exact mo_a4 hm | exact mo_a5 hm | exact mo_a6 hm) (by first | rfl | exact ix_eq (by assumption)) (by first | decide | omega) ?_
            refine px_imul dX8_workOut_95 ?_
            rw [e8]
            refine px_icmp_ge (tgt := 223) dX8_workOut_96 (by decide) (fun h96 => (by first | exact absurd h96 (hlt) | exact absurd (hlt) h96)) (fun h96 => ?_)
            refine px_iload_4 dX8_workOut_99 ?_
            refine px_iconst (2) dX8_workOut_101 rfl ?_
            refine px_irem dX8_workOut_102 (by decide) ?_
            refine px_iconst (1) dX8_workOut_103 rfl ?_
            refine px_icmp_ne (tgt := 111) dX8_workOut_104 (by decide) (fun h104 => ?_) (fun h104 => (by first | exact absurd (b1) h104 | exact absurd h104 (b1)))
            refine px_iconst (0) dX8_workOut_111 rfl ?_
            refine px_istore_5 dX8_workOut_112 rfl ?_
            refine px_aload_0 dX8_workOut_114 ?_
            refine px_iload_4 dX8_workOut_115 ?_
            refine px_iconst (4) dX8_workOut_117 rfl ?_
            refine px_idiv dX8_workOut_118 (by decide) ?_
            refine px_iload_4 dX8_workOut_119 ?_
            refine px_iconst (2) dX8_workOut_121 rfl ?_
            refine px_idiv dX8_workOut_122 (by decide) ?_
            refine px_iconst (2) dX8_workOut_123 rfl ?_
            refine px_irem dX8_workOut_124 (by decide) ?_
            refine cd_X8_48 rfl ⟨⟨Nat.le_of_ble_eq_true rfl, Nat.le_of_ble_eq_true rfl⟩, Nat.le_of_ble_eq_true rfl, Nat.le_of_ble_eq_true rfl, Nat.le_of_ble_eq_true rfl⟩ (by first | assumption | exact mo_a hm | exact mo_r0 hm | exact mo_r1 hm | exact mo_r2 hm | exact mo_r4 hm | exact mo_r6 hm | exact mo_r8 hm | exact mo_a1 hm | exact mo_a2 hm | exact mo_a3 hm | exact mo_a4 hm | exact mo_a5 hm | exact mo_a6 hm) dX8_workOut_125 (hend) ?_
            refine px_istore_6 dX8_workOut_128 rfl ?_
            refine px_aload_0 dX8_workOut_130 ?_
            refine px_iload_4 dX8_workOut_131 ?_
            refine px_iconst (4) dX8_workOut_133 rfl ?_
            refine px_idiv dX8_workOut_134 (by decide) ?_
            refine px_iload_4 dX8_workOut_135 ?_
            refine px_iconst (2) dX8_workOut_137 rfl ?_
            refine px_idiv dX8_workOut_138 (by decide) ?_
            refine px_iconst (2) dX8_workOut_139 rfl ?_
            refine px_irem dX8_workOut_140 (by decide) ?_
            refine px_iload_3 dX8_workOut_141 ?_
            refine px_iload_5 dX8_workOut_142 ?_
            refine cd_X8_74 rfl ⟨⟨Nat.le_of_ble_eq_true rfl, Nat.le_of_ble_eq_true rfl⟩, Nat.le_of_ble_eq_true rfl, Nat.le_of_ble_eq_true rfl, Nat.le_of_ble_eq_true rfl⟩ (by first | assumption | exact mo_a hm | exact mo_r0 hm | exact mo_r1 hm | exact mo_r2 hm | exact mo_r4 hm | exact mo_r6 hm | exact mo_r8 hm | exact mo_a1 hm | exact mo_a2 hm | exact mo_a3 hm | exact mo_a4 hm | exact mo_a5 hm | exact mo_a6 hm) dX8_workOut_144 (hby) ?_
            refine px_lstore_7 dX8_workOut_147 rfl ?_
            refine px_lload_7 dX8_workOut_149 ?_
            refine px_aload_0 dX8_workOut_151 ?_
            refine gf_X8_25 rfl dX8_workOut_152 (by first | assumption | exact mo_a hm | exact mo_r0 hm | exact mo_r1 hm | exact mo_r2 hm | exact mo_r4 hm | exact mo_r6 hm | exact mo_r8 hm | exact mo_a1 hm | exact mo_a2 hm | exact mo_a3 hm | exact mo_a4 hm | exact mo_a5 hm | exact mo_a6 hm) (by first | assumption | exact mo_a hm | exact mo_r0 hm | exact mo_r1 hm | exact mo_r2 hm | exact mo_r4 hm | exact mo_r6 hm | exact mo_r8 hm | exact mo_a1 hm | exact mo_a2 hm | exact mo_a3 hm | exact mo_a4 hm | exact mo_a5 hm | exact mo_a6 hm) ?_
            refine px_bipush (8) dX8_workOut_155 rfl ?_
            refine px_iload_3 dX8_workOut_157 ?_
            refine px_imul dX8_workOut_158 ?_
            refine px_iload_6 dX8_workOut_159 ?_
            refine px_iadd dX8_workOut_161 ?_
            refine px_laldN dX8_workOut_162 (by first | assumption | exact mo_a hm | exact mo_r0 hm | exact mo_r1 hm | exact mo_r2 hm | exact mo_r4 hm | exact mo_r6 hm | exact mo_r8 hm | exact mo_a1 hm | exact mo_a2 hm | exact mo_a3 hm | exact mo_a4 hm | exact mo_a5 hm | exact mo_a6 hm) (by exact hidx) (by omega) ?_
            rw [hcell]
            refine px_lcmp dX8_workOut_163 ?_
            refine px_lc_le (tgt := 180) dX8_workOut_164 (by decide) (fun h164 => ?_) (fun h164 => (by first | exact absurd (hng) h164 | exact absurd h164 (hng)))
            refine px_iconst (0) dX8_workOut_180 rfl ?_
            refine px_istore_9 dX8_workOut_181 rfl ?_
            refine px_aload_0 dX8_workOut_183 ?_
            refine gf_X8_25 rfl dX8_workOut_184 (by first | assumption | exact mo_a hm | exact mo_r0 hm | exact mo_r1 hm | exact mo_r2 hm | exact mo_r4 hm | exact mo_r6 hm | exact mo_r8 hm | exact mo_a1 hm | exact mo_a2 hm | exact mo_a3 hm | exact mo_a4 hm | exact mo_a5 hm | exact mo_a6 hm) (by first | assumption | exact mo_a hm | exact mo_r0 hm | exact mo_r1 hm | exact mo_r2 hm | exact mo_r4 hm | exact mo_r6 hm | exact mo_r8 hm | exact mo_a1 hm | exact mo_a2 hm | exact mo_a3 hm | exact mo_a4 hm | exact mo_a5 hm | exact mo_a6 hm) ?_
            refine px_bipush (8) dX8_workOut_187 rfl ?_
            refine px_iload_3 dX8_workOut_189 ?_
            refine px_imul dX8_workOut_190 ?_
            refine px_iload_6 dX8_workOut_191 ?_
            refine px_iadd dX8_workOut_193 ?_
            refine px_iload_9 dX8_workOut_194 ?_
            refine px_if_eq (tgt := 204) dX8_workOut_196 (by decide) (fun h196 => ?_) (fun h196 => (by first | exact absurd (rfl) h196 | exact absurd h196 (rfl)))
            refine px_aload_0 dX8_workOut_204 ?_
            refine gf_X8_25 rfl dX8_workOut_205 (by first | assumption | exact mo_a hm | exact mo_r0 hm | exact mo_r1 hm | exact mo_r2 hm | exact mo_r4 hm | exact mo_r6 hm | exact mo_r8 hm | exact mo_a1 hm | exact mo_a2 hm | exact mo_a3 hm | exact mo_a4 hm | exact mo_a5 hm | exact mo_a6 hm) (by first | assumption | exact mo_a hm | exact mo_r0 hm | exact mo_r1 hm | exact mo_r2 hm | exact mo_r4 hm | exact mo_r6 hm | exact mo_r8 hm | exact mo_a1 hm | exact mo_a2 hm | exact mo_a3 hm | exact mo_a4 hm | exact mo_a5 hm | exact mo_a6 hm) ?_
            refine px_bipush (8) dX8_workOut_208 rfl ?_
            refine px_iload_3 dX8_workOut_210 ?_
            refine px_imul dX8_workOut_211 ?_
            refine px_iload_6 dX8_workOut_212 ?_
            refine px_iadd dX8_workOut_214 ?_
            refine px_laldN dX8_workOut_215 (by first | assumption | exact mo_a hm | exact mo_r0 hm | exact mo_r1 hm | exact mo_r2 hm | exact mo_r4 hm | exact mo_r6 hm | exact mo_r8 hm | exact mo_a1 hm | exact mo_a2 hm | exact mo_a3 hm | exact mo_a4 hm | exact mo_a5 hm | exact mo_a6 hm) (by exact hidx) (by omega) ?_
            rw [hcell]
            refine px_lastN dX8_workOut_216 (by first | assumption | exact mo_a hm | exact mo_r0 hm | exact mo_r1 hm | exact mo_r2 hm | exact mo_r4 hm | exact mo_r6 hm | exact mo_r8 hm | exact mo_a1 hm | exact mo_a2 hm | exact mo_a3 hm | exact mo_a4 hm | exact mo_a5 hm | exact mo_a6 hm) (by exact hidx) (by omega) ?_
            refine px_iinc_4 dX8_workOut_217 rfl ?_
            refine px_goto (tgt := 85) dX8_workOut_220 (by decide) ?_
            rw [inc_nI]; exact ih (i + 1) (by omega) _ (hst _ (by rw [if_neg (fun q => hgt q.1)])) _ _ _ _ _
    -- waiting
    have LW : ∀ n i, i + n = 8 → ∀ (J' : px_J), (∀ a, a ≠ m + 6 → J' a = J a) → (∀ q, q < left + 1 → ∀ t, t < 8 → J' (m + 6) (8 * q + t) = f_w (I (m + 1)) ov q t) → (∀ t, t < i → J' (m + 6) (8 * (left + 1) + t) = 100 * f_w (I (m + 1)) ov left t) → ∀ o5 o6 o7 o8 o9, (px_W l G yX8_workOut cX8_workOut 10 none (px_rm 3 0 0) (px_Fn G Q 0 0) 39 [some (.ref m), some (.int (nI legs)), some (.int ov), some (.int (nI (left + 1))), some (.int (nI i)), o5, o6, o7, o8, o9] [] 0 0 (T, I, J', R)) := by
      intro n
      induction n with
      | zero =>
        intro i hi J' g1 g2 g3 o5 o6 o7 o8 o9
        obtain rfl : i = 8 := by omega
        refine px_iload_4 dX8_workOut_39 ?_
        refine px_bipush (8) dX8_workOut_41 rfl ?_
        refine px_icmp_ge (tgt := 82) dX8_workOut_43 (by decide) (fun h43 => ?_) (fun h43 => (by first | exact absurd ((nI_le (a := 8) (b := 8) (by omega) (by omega))) h43 | exact absurd h43 ((nI_le (a := 8) (b := 8) (by omega) (by omega)))))
        refine px_iconst (0) dX8_workOut_82 rfl ?_
        refine px_istore_4 dX8_workOut_83 rfl ?_
        exact LE _ 0 (Nat.zero_add _) J' ⟨g1, g2, g3⟩ _ _ _ _ _
      | succ n ih =>
        intro i hi J' g1 g2 g3 o5 o6 o7 o8 o9
        refine px_iload_4 dX8_workOut_39 ?_
        refine px_bipush (8) dX8_workOut_41 rfl ?_
        refine px_icmp_ge (tgt := 82) dX8_workOut_43 (by decide) (fun h43 => (by first | exact absurd h43 ((nI_ge (a := i) (b := 8) (by omega) (by omega))) | exact absurd ((nI_ge (a := i) (b := 8) (by omega) (by omega))) h43)) (fun h43 => ?_)
        refine px_aload_0 dX8_workOut_46 ?_
        refine gf_X8_25 rfl dX8_workOut_47 (by first | assumption | exact mo_a hm | exact mo_r0 hm | exact mo_r1 hm | exact mo_r2 hm | exact mo_r4 hm | exact mo_r6 hm | exact mo_r8 hm | exact mo_a1 hm | exact mo_a2 hm | exact mo_a3 hm | exact mo_a4 hm | exact mo_a5 hm | exact mo_a6 hm) (by first | assumption | exact mo_a hm | exact mo_r0 hm | exact mo_r1 hm | exact mo_r2 hm | exact mo_r4 hm | exact mo_r6 hm | exact mo_r8 hm | exact mo_a1 hm | exact mo_a2 hm | exact mo_a3 hm | exact mo_a4 hm | exact mo_a5 hm | exact mo_a6 hm) ?_
        refine px_bipush (8) dX8_workOut_50 rfl ?_
        refine px_iload_3 dX8_workOut_52 ?_
        refine px_imul dX8_workOut_53 ?_
        refine px_iload_4 dX8_workOut_54 ?_
        refine px_iadd dX8_workOut_56 ?_
        refine px_ldc2 ck_X8_68 dX8_workOut_57 ?_
        refine px_aload_0 dX8_workOut_60 ?_
        refine gf_X8_25 rfl dX8_workOut_61 (by first | assumption | exact mo_a hm | exact mo_r0 hm | exact mo_r1 hm | exact mo_r2 hm | exact mo_r4 hm | exact mo_r6 hm | exact mo_r8 hm | exact mo_a1 hm | exact mo_a2 hm | exact mo_a3 hm | exact mo_a4 hm | exact mo_a5 hm | exact mo_a6 hm) (by first | assumption | exact mo_a hm | exact mo_r0 hm | exact mo_r1 hm | exact mo_r2 hm | exact mo_r4 hm | exact mo_r6 hm | exact mo_r8 hm | exact mo_a1 hm | exact mo_a2 hm | exact mo_a3 hm | exact mo_a4 hm | exact mo_a5 hm | exact mo_a6 hm) ?_
        refine px_bipush (8) dX8_workOut_64 rfl ?_
        refine px_iload_3 dX8_workOut_66 ?_
        refine px_iconst (1) dX8_workOut_67 rfl ?_
        refine px_isub dX8_workOut_68 ?_
        refine px_imul dX8_workOut_69 ?_
        refine px_iload_4 dX8_workOut_70 ?_
        refine px_iadd dX8_workOut_72 ?_
        refine px_laldN dX8_workOut_73 (by first | assumption | exact mo_a hm | exact mo_r0 hm | exact mo_r1 hm | exact mo_r2 hm | exact mo_r4 hm | exact mo_r6 hm | exact mo_r8 hm | exact mo_a1 hm | exact mo_a2 hm | exact mo_a3 hm | exact mo_a4 hm | exact mo_a5 hm | exact mo_a6 hm) (by exact wix e3 rfl) (by omega) ?_
        rw [g2 left (by omega) i (by omega)]
        refine px_lmul dX8_workOut_74 ?_
        refine px_lastN dX8_workOut_75 (by first | assumption | exact mo_a hm | exact mo_r0 hm | exact mo_r1 hm | exact mo_r2 hm | exact mo_r4 hm | exact mo_r6 hm | exact mo_r8 hm | exact mo_a1 hm | exact mo_a2 hm | exact mo_a3 hm | exact mo_a4 hm | exact mo_a5 hm | exact mo_a6 hm) (by exact wix rfl rfl) (by omega) ?_
        refine px_iinc_4 dX8_workOut_76 rfl ?_
        refine px_goto (tgt := 39) dX8_workOut_79 (by decide) ?_
        rw [inc_nI]; refine ih (i + 1) (by omega) _ (fun a ha => by rw [px_up_ne ha]; exact g1 a ha) (fun q hq t ht => by rw [px_up_nj (by omega)]; exact g2 q hq t ht) (fun t ht => ?_) _ _ _ _ _
        rw [px_up_at]
        by_cases q : t = i
        · subst q; rw [if_pos ⟨rfl, rfl⟩]
        · rw [if_neg (by omega)]; exact g3 t (by omega)
    refine px_iload_3 dX8_workOut_31 ?_
    refine px_iload_1 dX8_workOut_32 ?_
    refine px_icmp_gt (tgt := 229) dX8_workOut_33 (by decide) (fun h33 => (by first | exact absurd h33 ((Int32.not_lt.mpr (nI_le (a := left + 1) (b := legs) (by omega) (by omega)))) | exact absurd ((Int32.not_lt.mpr (nI_le (a := left + 1) (b := legs) (by omega) (by omega)))) h33)) (fun h33 => ?_)
    refine px_iconst (0) dX8_workOut_36 rfl ?_
    refine px_istore_4 dX8_workOut_37 rfl ?_
    exact LW _ 0 (Nat.zero_add _) J' hJ'.1 (fun q hq t ht => by rcases (by omega : q < left ∨ q = left) with z | rfl; exact hJ'.2.1 q z t ht; exact hJ'.2.2 t ht) (fun t ht => absurd ht (by omega)) _ _ _ _ _
  -- all rows
  have LA : ∀ n left, left + n = legs → ∀ (J' : px_J), px_wi J m (I (m + 1)) ov left (f_w (I (m + 1)) ov left) J' → ∀ o4 o5 o6 o7 o8 o9, (px_W l G yX8_workOut cX8_workOut 10 none (px_rm 3 0 0) (px_Fn G Q 0 0) 31 [some (.ref m), some (.int (nI legs)), some (.int ov), some (.int (nI (left + 1))), o4, o5, o6, o7, o8, o9] [] 0 0 (T, I, J', R)) := by
    intro n
    induction n with
    | zero =>
      intro left hl J' hJ' o4 o5 o6 o7 o8 o9
      obtain rfl : left = legs := by omega
      refine px_iload_3 dX8_workOut_31 ?_
      refine px_iload_1 dX8_workOut_32 ?_
      refine px_icmp_gt (tgt := 229) dX8_workOut_33 (by decide) (fun h33 => ?_) (fun h33 => (by first | exact absurd ((nI_lt (a := left) (b := left + 1) (by omega) (by omega))) h33 | exact absurd h33 ((nI_lt (a := left) (b := left + 1) (by omega) (by omega)))))
      refine px_vret dX8_workOut_229 ?_
      subst hQ; exact ⟨rfl, J', rfl, hJ'.1, fun q hq t ht => by rcases (by omega : q < left ∨ q = left) with z | rfl; exact hJ'.2.1 q z t ht; exact hJ'.2.2 t ht⟩
    | succ n ih =>
      intro left hl J' hJ' o4 o5 o6 o7 o8 o9
      exact LR left (by omega) J' hJ' _ _ _ _ _ _ (fun J2 h2 o4 o5 o6 o7 o8 o9 => ih (left + 1) (by omega) J2 h2 _ _ _ _ _ _)
  refine px_iconst (0) dX8_workOut_0 rfl ?_
  refine px_istore_3 dX8_workOut_1 rfl ?_
  skip
  refine L0 (fun J' hJ' => ?_) 8 0 (by decide) J (fun a ha => rfl) (fun t ht => absurd ht (by omega))
  refine px_iload_3 dX8_workOut_2 ?_
  refine px_bipush (8) dX8_workOut_3 rfl ?_
  refine px_icmp_ge (tgt := 29) dX8_workOut_5 (by decide) (fun h5 => ?_) (fun h5 => (by first | exact absurd ((nI_le (a := 8) (b := 8) (by omega) (by omega))) h5 | exact absurd h5 ((nI_le (a := 8) (b := 8) (by omega) (by omega)))))
  refine px_iconst (1) dX8_workOut_29 rfl ?_
  refine px_istore_3 dX8_workOut_30 rfl ?_
  exact LA legs 0 (Nat.zero_add _) J' hJ' _ _ _ _ _ _
end MW

