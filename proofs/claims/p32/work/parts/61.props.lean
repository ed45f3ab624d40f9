/-! what the answers are, of every state that comes about: bits of sets, what a sack brings, honest prices -/
section PPR
variable {σ : px_s} {W W0 W1 : Nat → Int64}
theorem shl14 : ∀ e : Fin 14, (1 : Int32) <<< (nI e.val &&& 31) = nI (2 ^ e.val) ∧ ((nI e.val &&& 31).toBitVec.smod 32).toNat = e.val := by decide
theorem mk_nI (p : Nat → Bool) (n : Nat) (hn : n ≤ 14) : ∃ M, M < 2 ^ n ∧ f_mk p n = nI M ∧ ∀ t, t < n → M.testBit t = p t := by
  induction n with
  | zero => exact ⟨0, by decide, rfl, fun t ht => absurd ht (Nat.not_lt_zero t)⟩
  | succ n ih =>
    obtain ⟨M, hM, e, hb⟩ := ih (by omega)
    have h14 : 2 ^ n ≤ 2 ^ 14 := Nat.pow_le_pow_right (by decide) (by omega)
    have hs : 2 ^ n < 2 ^ (n + 1) := Nat.pow_lt_pow_right (by decide) (by omega)
    rw [f_mk, e]
    by_cases hp : p n = true
    · rw [if_pos hp, (shl14 ⟨n, by omega⟩).1]
      have h4 : M ||| 2 ^ n < 2 ^ (n + 1) := Nat.or_lt_two_pow (by omega) hs
      have ho : nI M ||| nI (2 ^ n) = nI (M ||| 2 ^ n) := by
        apply Int32.toBitVec_inj.mp
        apply BitVec.eq_of_toNat_eq
        rw [Int32.toBitVec_or, BitVec.toNat_or]
        have h15 : 2 ^ (n + 1) ≤ 2 ^ 14 := Nat.pow_le_pow_right (by decide) (by omega)
        rw [pk_tn (by omega), pk_tn (by omega), pk_tn (by omega)]
      refine ⟨M ||| 2 ^ n, h4, ho, fun t ht => ?_⟩
      rw [Nat.testBit_or, Nat.testBit_two_pow]
      by_cases z : t = n
      · subst z; simp [hp]
      · rw [hb t (by omega), decide_eq_false (fun y => z y.symm), Bool.or_false]
    · rw [if_neg hp, Int32.or_zero]
      refine ⟨M, by omega, rfl, fun t ht => ?_⟩
      by_cases z : t = n
      · subst z
        rw [Nat.testBit_lt_two_pow hM]
        exact (Bool.eq_false_iff.mpr hp).symm
      · exact hb t (by omega)
theorem mk_bit {p : Nat → Bool} {n t : Nat} (hn : n ≤ 14) (ht : t < n) (hp : p t = true) : (f_mk p n >>> (nI t &&& 31)) &&& 1 = 1 := by
  obtain ⟨M, hM, e, hb⟩ := mk_nI p n hn
  have h14 : 2 ^ n ≤ 2 ^ 14 := Nat.pow_le_pow_right (by decide) hn
  have hd := Nat.div_le_self M (2 ^ t)
  rw [e, pk_shrN (by omega) _ t (shl14 ⟨t, by omega⟩).2, pk_andN (by omega) 1 (by decide)]
  have h1 := hb t ht
  rw [hp, Nat.testBit_eq_decide_div_mod_eq, decide_eq_true_eq] at h1
  rw [show (2 : Nat) ^ 1 = 2 from rfl, h1]
  rfl
theorem ca_bit (hV : px_V σ) {c : Nat} (hc : c < f_nc σ) : (f_ca σ (σ (94 + 8 * c + 0)) >>> (nI c &&& 31)) &&& 1 = 1 :=
  mk_bit (by have := hV.1.2.2.2; omega) hc (decide_eq_true rfl)
theorem ra_bit (hV : px_V σ) {r k : Nat} (hr : r < f_nr σ) (hk : k < 2) : (f_ra σ (σ (9 + 6 * r + k)) >>> (nI r &&& 31)) &&& 1 = 1 := by
  refine mk_bit hV.1.2.1 hr (decide_eq_true ?_)
  rcases (by omega : k = 0 ∨ k = 1) with rfl | rfl
  · exact Or.inl rfl
  · exact Or.inr rfl
/-! what a sack brings -/
theorem row_any (ov : Int32) (left e n : Nat) : 100 * W e ≤ f_row σ ov left W n e := by
  induction n with
  | zero => exact Int64.le_refl _
  | succ n ih =>
    rw [row_s]
    split
    · rename_i q; exact i64_le (i64_tr ih q.2.1)
    · exact ih
theorem w_grow (ov : Int32) (l t : Nat) : 100 * f_w σ ov l t ≤ f_w σ ov (l + 1) t := row_any ov (l + 1) t (4 * f_nr σ)
theorem w_0 (ov : Int32) (t : Nat) : f_w σ ov 0 t = (σ t).toInt64 := rfl
theorem i64_bm {z : Int} (h1 : -9223372036854775808 ≤ z) (h2 : z < 9223372036854775808) : z.bmod (2 ^ 64) = z := by
  rw [Int.bmod_eq_of_le] <;> omega
theorem i64_mul {x y : Int64} (h1 : -9223372036854775808 ≤ x.toInt * y.toInt) (h2 : x.toInt * y.toInt < 9223372036854775808) : (x * y).toInt = x.toInt * y.toInt := by
  rw [Int64.toInt_mul]; exact i64_bm h1 h2
theorem i64_sub {x y : Int64} (h1 : -9223372036854775808 ≤ x.toInt - y.toInt) (h2 : x.toInt - y.toInt < 9223372036854775808) : (x - y).toInt = x.toInt - y.toInt := by
  rw [Int64.toInt_sub]; exact i64_bm h1 h2
def z_pw : Nat → Int
  | 0 => 1
  | n + 1 => 100 * z_pw n
theorem pw_int : ∀ n : Fin 5, (f_pw n.val).toInt = z_pw n.val ∧ 1 ≤ z_pw n.val ∧ z_pw n.val ≤ 100000000 := by decide
/-- what is given of a road: its numbers -/
theorem road_num (hV : px_V σ) {r k : Nat} (hr : r < f_nr σ) (hk : k < 2) : (∃ c f t : Int, (f_cr σ r).toInt64.toInt = c ∧ (σ 142).toInt64.toInt = f ∧ (σ (9 + 6 * r + 2)).toInt64.toInt = t ∧ 0 ≤ c ∧ c ≤ 90 ∧ 0 ≤ f ∧ f ≤ 500 ∧ 0 ≤ t ∧ t ≤ 200 ∧ c = ix (f_cr σ r) ∧ f = ix (σ 142) ∧ t = ix (σ (9 + 6 * r + 2))) ∧ ix (σ (9 + 6 * r + k)) < 8 := by
  obtain ⟨-, -, -, -, -, -, -, ht, -⟩ := hV.2.1 r hr
  obtain ⟨et, -, bt⟩ := rg_ix (a := 0) (b := 200) (by decide) (by decide) ht
  obtain ⟨ef, -, bf⟩ := rg_ix (a := 0) (b := 500) (by decide) (by decide) hV.2.2.2.2.2.2.1
  have h90 := cr_le (σ := σ) r
  have ec := cr_nI hV hr
  refine ⟨⟨ix (f_cr σ r), ix (σ 142), ix (σ (9 + 6 * r + 2)), ?_, ?_, ?_, by omega, by omega, by omega, by omega, by omega, by omega, rfl, rfl, rfl⟩, (ix_of_nI (ends_of hV hr hk).2.1).2⟩
  · rw [Int32.toInt_toInt64]; conv => lhs; rw [ec]
    exact nI_ti (by omega)
  · rw [Int32.toInt_toInt64]; conv => lhs; rw [ef]
    exact nI_ti (by omega)
  · rw [Int32.toInt_toInt64]; conv => lhs; rw [et]
    exact nI_ti (by omega)
/-- the worths of one row lie between: none is negative, none more than a price's thousandfold -/
def w_bd (W : Nat → Int64) (l : Nat) : Prop := ∀ t, t < 8 → z_pw l ≤ (W t).toInt ∧ (W t).toInt ≤ 999 * z_pw l
theorem by_int (hV : px_V σ) {r k l : Nat} (hr : r < f_nr σ) (hk : k < 2) (hl : l < 4) (hW : w_bd W l) : ∃ c f t v : Int, (0 ≤ c ∧ c ≤ 90 ∧ 0 ≤ f ∧ f ≤ 500 ∧ 0 ≤ t ∧ t ≤ 200) ∧ (c = ix (f_cr σ r) ∧ f = ix (σ 142) ∧ t = ix (σ (9 + 6 * r + 2))) ∧ v = (W (ix (σ (9 + 6 * r + (1 - k))))).toInt ∧ (f_by σ W r k (l + 1) 0).toInt = 100 * v - t * (100 * z_pw l) ∧ (f_by σ W r k (l + 1) 1).toInt = (100 - c) * v - c * f * z_pw l := by
  obtain ⟨⟨c, f, t, e1, e2, e3, c0, c1, f0, f1, t0, t1, i1, i2, i3⟩, -⟩ := road_num hV hr hk
  have h8 := (road_num hV hr (show 1 - k < 2 by omega)).2
  obtain ⟨b1, b2⟩ := hW _ h8
  obtain ⟨p1, p2, p3⟩ := pw_int ⟨l, by omega⟩
  obtain ⟨q1, q2, q3⟩ := pw_int ⟨l + 1, by omega⟩
  dsimp only at p1 p2 p3 q1 q2 q3
  have p3' : z_pw l ≤ 1000000 := by
    have : z_pw (l + 1) = 100 * z_pw l := rfl
    omega
  generalize hv : (W (ix (σ (9 + 6 * r + (1 - k))))).toInt = v at *
  refine ⟨c, f, t, v, ⟨c0, c1, f0, f1, t0, t1⟩, ⟨i1, i2, i3⟩, rfl, ?_, ?_⟩
  · unfold f_by
    rw [if_neg (by decide)]
    have hz : z_pw (l + 1) = 100 * z_pw l := rfl
    have m1 : (100 * W (ix (σ (9 + 6 * r + (1 - k))))).toInt = 100 * v := by
      rw [i64_mul] <;> rw [show (100 : Int64).toInt = 100 from rfl, hv]
      · omega
      · omega
    have tb : 0 ≤ t * (100 * z_pw l) := Int.mul_nonneg t0 (by omega)
    have tc : t * (100 * z_pw l) ≤ 200 * 100000000 := Int.mul_le_mul t1 (by omega) (by omega) (by decide)
    have m2 : ((σ (9 + 6 * r + 2)).toInt64 * f_pw (l + 1)).toInt = t * (100 * z_pw l) := by
      rw [i64_mul] <;> rw [e3, q1, hz]
      · omega
      · omega
    rw [i64_sub] <;> rw [m1, m2]
    · omega
    · omega
  · unfold f_by
    rw [if_pos rfl, Nat.add_sub_cancel]
    have m1 : (100 - (f_cr σ r).toInt64).toInt = 100 - c := by
      rw [i64_sub] <;> rw [show (100 : Int64).toInt = 100 from rfl, e1]
      · omega
      · omega
    have va : 0 ≤ (100 - c) * v := Int.mul_nonneg (by omega) (by omega)
    have vb : (100 - c) * v ≤ 100 * 999000000 := Int.mul_le_mul (by omega) (by omega) (by omega) (by decide)
    have m2 : ((100 - (f_cr σ r).toInt64) * W (ix (σ (9 + 6 * r + (1 - k))))).toInt = (100 - c) * v := by
      rw [i64_mul] <;> rw [m1, hv]
      · omega
      · omega
    have ca : 0 ≤ c * f := Int.mul_nonneg c0 f0
    have cb : c * f ≤ 90 * 500 := Int.mul_le_mul c1 f1 f0 (by decide)
    have m3 : ((f_cr σ r).toInt64 * (σ 142).toInt64).toInt = c * f := by
      rw [i64_mul] <;> rw [e1, e2]
      · omega
      · omega
    have da : 0 ≤ c * f * z_pw l := Int.mul_nonneg ca (by omega)
    have db : c * f * z_pw l ≤ 45000 * 1000000 := Int.mul_le_mul cb p3' (by omega) (by decide)
    have m4 : ((f_cr σ r).toInt64 * (σ 142).toInt64 * f_pw l).toInt = c * f * z_pw l := by
      rw [i64_mul] <;> rw [m3, p1]
      · omega
      · omega
    rw [i64_sub] <;> rw [m2, m4]
    · omega
    · omega
theorem row_bd (hV : px_V σ) {ov : Int32} {l : Nat} (hl : l < 4) (hW : w_bd W l) : ∀ n, n ≤ 4 * f_nr σ → w_bd (f_row σ ov (l + 1) W n) (l + 1) := by
  intro n
  obtain ⟨p1, p2, p3⟩ := pw_int ⟨l, by omega⟩
  obtain ⟨q1, q2, q3⟩ := pw_int ⟨l + 1, by omega⟩
  dsimp only at p1 p2 p3 q1 q2 q3
  have hz : z_pw (l + 1) = 100 * z_pw l := rfl
  have m1 : ∀ t, t < 8 → (100 * W t).toInt = 100 * (W t).toInt := by
    intro t ht
    have := hW t ht
    rw [i64_mul] <;> rw [show (100 : Int64).toInt = 100 from rfl]
    · omega
    · omega
  induction n with
  | zero =>
    intro _ t ht
    have := hW t ht
    show z_pw (l + 1) ≤ (100 * W t).toInt ∧ (100 * W t).toInt ≤ _
    rw [m1 t ht]
    omega
  | succ n ih =>
    intro hn t ht
    have h0 := ih (by omega) t ht
    rw [row_s]
    split
    · rename_i q
      obtain ⟨c, f, tt, v, ⟨c0, c1, f0, f1, t0, t1⟩, -, ev, e0, e1⟩ := by_int hV (r := n / 4) (k := n / 2 % 2) (by omega) (by omega) hl hW
      have h8 := (road_num hV (r := n / 4) (k := 1 - n / 2 % 2) (by omega) (by omega)).2
      have hv := hW _ h8
      rw [← ev] at hv
      have hlt := q.2.1
      rw [Int64.lt_iff_toInt_lt] at hlt
      have tb : 0 ≤ tt * (100 * z_pw l) := Int.mul_nonneg t0 (by omega)
      have ca : 0 ≤ c * f := Int.mul_nonneg c0 f0
      have da : 0 ≤ c * f * z_pw l := Int.mul_nonneg ca (by omega)
      have vb : (100 - c) * v ≤ 100 * v := Int.mul_le_mul_of_nonneg_right (by omega) (by omega)
      rcases (by omega : n % 2 = 0 ∨ n % 2 = 1) with z | z <;> rw [z] at hlt ⊢
      · rw [e0] at hlt ⊢; omega
      · rw [e1] at hlt ⊢; omega
    · exact h0
theorem w_bnd (hV : px_V σ) (ov : Int32) : ∀ l, l ≤ 4 → w_bd (f_w σ ov l) l := by
  intro l
  induction l with
  | zero =>
    intro _ t ht
    obtain ⟨e, b1, b2⟩ := pr_le hV ht
    show (1 : Int) ≤ (σ t).toInt64.toInt ∧ (σ t).toInt64.toInt ≤ 999 * (1 : Int)
    rw [Int32.toInt_toInt64, e, nI_ti (by omega)]
    omega
  | succ l ih => intro hl; exact row_bd hV (by omega) (ih (by omega)) _ (Nat.le_refl _)
theorem row_le (hV : px_V σ) {l : Nat} (hl : l < 4) (h0 : w_bd W0 l) (h1 : w_bd W1 l) (hw : ∀ t, t < 8 → (W1 t).toInt ≤ (W0 t).toInt) (t : Nat) (ht : t < 8) : ∀ n, n ≤ 4 * f_nr σ → (f_row σ 1 (l + 1) W1 n t).toInt ≤ (f_row σ 0 (l + 1) W0 n t).toInt := by
  intro n
  have m1 : ∀ W : Nat → Int64, w_bd W l → (100 * W t).toInt = 100 * (W t).toInt := by
    intro W hW
    have := hW t ht
    obtain ⟨p1, p2, p3⟩ := pw_int ⟨l, by omega⟩
    dsimp only at p1 p2 p3
    rw [i64_mul] <;> rw [show (100 : Int64).toInt = 100 from rfl]
    · omega
    · omega
  induction n with
  | zero =>
    intro _
    show (100 * W1 t).toInt ≤ (100 * W0 t).toInt
    rw [m1 _ h0, m1 _ h1]
    have := hw t ht
    omega
  | succ n ih =>
    intro hn
    have hi := ih (by omega)
    have up : (f_row σ 0 (l + 1) W0 n t).toInt ≤ (f_row σ 0 (l + 1) W0 (n + 1) t).toInt := by
      rw [row_s]
      split
      · rename_i q
        have := q.2.1
        rw [Int64.lt_iff_toInt_lt] at this
        omega
      · exact Int.le_refl _
    rw [row_s (ov := 1)]
    split
    · rename_i q
      have hz : n % 2 = 0 := by
        rcases (by omega : n % 2 = 0 ∨ n % 2 = 1) with z | z
        · exact z
        · exact absurd (q.2.2 z) (by decide)
      obtain ⟨c, f, tt, v, -, ⟨i1, i2, i3⟩, ev, e0, -⟩ := by_int hV (r := n / 4) (k := n / 2 % 2) (by omega) (by omega) hl h0
      obtain ⟨c', f', tt', v', -, ⟨j1, j2, j3⟩, ev', e0', -⟩ := by_int hV (r := n / 4) (k := n / 2 % 2) (by omega) (by omega) hl h1
      have h8 := (road_num hV (r := n / 4) (k := 1 - n / 2 % 2) (by omega) (by omega)).2
      have hv := hw _ h8
      rw [← ev, ← ev'] at hv
      have et : tt' = tt := by omega
      rw [hz, e0', et]
      have mx : (f_by σ W0 (n / 4) (n / 2 % 2) (l + 1) 0).toInt ≤ (f_row σ 0 (l + 1) W0 (n + 1) t).toInt := by
        rw [row_s, hz]
        split
        · exact Int.le_refl _
        · rename_i y
          have y1 : ¬ f_row σ 0 (l + 1) W0 n t < f_by σ W0 (n / 4) (n / 2 % 2) (l + 1) 0 := fun y1 => y ⟨q.1, y1, fun _ => rfl⟩
          rw [Int64.lt_iff_toInt_lt] at y1
          omega
      rw [e0] at mx
      omega
    · omega
theorem w_open (hV : px_V σ) : ∀ l, l ≤ 4 → ∀ t, t < 8 → f_w σ 1 l t ≤ f_w σ 0 l t := by
  intro l
  induction l with
  | zero => intro _ t ht; exact Int64.le_refl _
  | succ l ih =>
    intro hl t ht
    rw [Int64.le_iff_toInt_le]
    exact row_le hV (by omega) (w_bnd hV 0 l (by omega)) (w_bnd hV 1 l (by omega)) (fun t ht => Int64.le_iff_toInt_le.mp (ih (by omega) t ht)) t ht _ (Nat.le_refl _)
theorem row_hon {l : Nat} (h : ∀ r k hh, r < f_nr σ → k < 2 → hh < 2 → f_by σ W r k l hh ≤ 100 * W (ix (σ (9 + 6 * r + k)))) (t : Nat) : ∀ n, n ≤ 4 * f_nr σ → f_row σ 0 l W n t = 100 * W t := by
  intro n
  induction n with
  | zero => intro _; rfl
  | succ n ih =>
    intro hn
    have hi := ih (by omega)
    rw [row_s]
    split
    · rename_i q
      have h2 := h (n / 4) (n / 2 % 2) (n % 2) (by omega) (by omega) (by omega)
      rw [hi, q.1] at q
      rw [Int64.le_iff_toInt_le] at h2
      have := q.2.1
      rw [Int64.lt_iff_toInt_lt] at this
      omega
    · exact hi
/-- honest is: as the numbers say -/
theorem pr_self (hV : px_V σ) : f_pr σ (fun t => ix (σ t)) = σ := by
  funext k
  by_cases h : k < 8
  · rw [pr_lo h]; exact (pr_le hV h).1.symm
  · exact pr_hi (by omega)
theorem hon_num (hV : px_V σ) {q : Nat} (hq : q < 2 * f_nr σ) : f_hon σ (q / 2) (q % 2) ↔ ix (σ (n_b σ q)) ≤ n_F σ q (ix (σ (n_a σ q))) := by
  have h := hon_pr hV (P := fun t => ix (σ t)) (fun t ht => (pr_le hV ht).2) hq
  rw [pr_self hV] at h
  exact h
theorem ah_all {n : Nat} (h : f_ah σ n = 1) : ∀ r, r < n → f_hon σ r 0 ∧ f_hon σ r 1 := fun r hr =>
  Classical.byContradiction (fun q => absurd (f_ah0 n hr q) (by rw [h]; decide))
theorem ah_01 (n : Nat) : f_ah σ n = 0 ∨ f_ah σ n = 1 := by
  by_cases h : ∀ r, r < n → f_hon σ r 0 ∧ f_hon σ r 1
  · exact Or.inr (f_ah1 n h)
  · obtain ⟨r, hr⟩ := Classical.not_forall.mp h
    obtain ⟨hr, h2⟩ := Classical.not_imp.mp hr
    exact Or.inl (f_ah0 n hr h2)
theorem hon_by (hV : px_V σ) {l r k hh : Nat} (hl : l < 4) (hr : r < f_nr σ) (hk : k < 2) (hh2 : hh < 2) (hW : w_bd W l) (hp : ∀ t, t < 8 → (W t).toInt = z_pw l * (ix (σ t) : Int)) (h : f_hon σ r k) : f_by σ W r k (l + 1) hh ≤ 100 * W (ix (σ (9 + 6 * r + k))) := by
  have hq := (hon_num hV (q := 2 * r + k) (by omega)).mp (by rw [show (2 * r + k) / 2 = r by omega, show (2 * r + k) % 2 = k by omega]; exact h)
  unfold n_F n_a n_b at hq
  rw [show (2 * r + k) / 2 = r by omega, show (2 * r + k) % 2 = k by omega] at hq
  obtain ⟨c, f, t, v, ⟨c0, c1, f0, f1, t0, t1⟩, ⟨i1, i2, i3⟩, ev, e0, e1⟩ := by_int hV hr hk hl hW
  have a8 := (road_num hV hr hk).2
  have b8 := (road_num hV hr (show 1 - k < 2 by omega)).2
  rw [hp _ b8] at ev
  obtain ⟨p1, p2, p3⟩ := pw_int ⟨l, by omega⟩
  dsimp only at p1 p2 p3
  have ha := hW _ a8
  have m1 : (100 * W (ix (σ (9 + 6 * r + k)))).toInt = 100 * (W (ix (σ (9 + 6 * r + k)))).toInt := by
    rw [i64_mul] <;> rw [show (100 : Int64).toInt = 100 from rfl]
    · omega
    · omega
  rw [Int64.le_iff_toInt_le, m1, hp _ a8]
  generalize ix (σ (ix (σ (9 + 6 * r + k)))) = pa at *
  generalize ix (σ (ix (σ (9 + 6 * r + (1 - k))))) = pb at *
  generalize ix (f_cr σ r) = cn at *
  generalize ix (σ 142) = fn at *
  generalize ix (σ (9 + 6 * r + 2)) = tn at *
  generalize z_pw l = P at *
  have h1 : pb ≤ pa + tn := Nat.le_trans hq (Nat.min_le_left _ _)
  have h2 : pb * (100 - cn) ≤ 100 * pa + cn * fn := (Nat.le_div_iff_mul_le (by omega)).mp (Nat.le_trans hq (Nat.min_le_right _ _))
  rcases (by omega : hh = 0 ∨ hh = 1) with rfl | rfl
  · rw [e0, ev, i3]
    have := Int.mul_le_mul_of_nonneg_left (show (pb : Int) ≤ pa + tn by omega) (show 0 ≤ P by omega)
    rw [Int.mul_add] at this
    have e : (tn : Int) * (100 * P) = 100 * (P * tn) := by grind
    rw [e]
    omega
  · rw [e1, ev, i1, i2]
    have h2' : (pb : Int) * (100 - cn) ≤ 100 * pa + cn * fn := by
      have h3 : ((pb * (100 - cn) : Nat) : Int) ≤ ((100 * pa + cn * fn : Nat) : Int) := Int.ofNat_le.mpr h2
      rw [Int.natCast_mul, Int.natCast_add, Int.natCast_mul, Int.natCast_mul, Int.natCast_sub (by omega)] at h3
      exact h3
    have := Int.mul_le_mul_of_nonneg_left h2' (show 0 ≤ P by omega)
    have a1 : (100 - (cn : Int)) * (P * pb) = P * (pb * (100 - cn)) := by grind
    have a2 : (cn : Int) * fn * P = P * (cn * fn) := by grind
    have a3 : (100 : Int) * (P * pa) = P * (100 * pa) := by grind
    rw [Int.mul_add] at this
    rw [a1, a2, a3]
    omega
theorem w_hon (hV : px_V σ) (h : f_ah σ (f_nr σ) = 1) : ∀ l, l ≤ 4 → ∀ t, t < 8 → (f_w σ 0 l t).toInt = z_pw l * (ix (σ t) : Int) := by
  intro l
  induction l with
  | zero =>
    intro _ t ht
    obtain ⟨e, b1, b2⟩ := pr_le hV ht
    show (σ t).toInt64.toInt = 1 * _
    rw [Int32.toInt_toInt64, Int.one_mul]
    conv => lhs; rw [e]
    exact nI_ti (by omega)
  | succ l ih =>
    intro hl t ht
    have hb := w_bnd hV 0 l (by omega)
    have hrow := row_hon (σ := σ) (W := f_w σ 0 l) (l := l + 1) (fun r k hh hr hk hh2 => hon_by hV (by omega) hr hk hh2 hb (fun t ht => ih (by omega) t ht) (by
      have h2 := ah_all h r hr
      rcases (by omega : k = 0 ∨ k = 1) with rfl | rfl
      · exact h2.1
      · exact h2.2)) t (4 * f_nr σ) (Nat.le_refl _)
    show (f_row σ 0 (l + 1) (f_w σ 0 l) (4 * f_nr σ) t).toInt = 100 * z_pw l * _
    have hb2 := hb t ht
    obtain ⟨p1, p2, p3⟩ := pw_int ⟨l, by omega⟩
    dsimp only at p1 p2 p3
    rw [hrow, i64_mul, ih (by omega) t ht, show (100 : Int64).toInt = 100 from rfl, Int.mul_assoc] <;> rw [show (100 : Int64).toInt = 100 from rfl]
    · omega
    · omega
theorem w_hon64 (hV : px_V σ) (h : f_ah σ (f_nr σ) = 1) {l t : Nat} (hl : l ≤ 4) (ht : t < 8) : f_w σ 0 l t = f_pw l * (σ t).toInt64 := by
  obtain ⟨e, b1, b2⟩ := pr_le hV ht
  obtain ⟨p1, p2, p3⟩ := pw_int ⟨l, by omega⟩
  dsimp only at p1 p2 p3
  have e2 : (σ t).toInt64.toInt = (ix (σ t) : Int) := by
    rw [Int32.toInt_toInt64]
    conv => lhs; rw [e]
    exact nI_ti (by omega)
  have hb := w_bnd hV 0 l hl t ht
  have hw := w_hon hV h l hl t ht
  apply Int64.toInt_inj.mp
  rw [i64_mul] <;> rw [p1, e2]
  · exact hw
  · omega
  · omega
end PPR

