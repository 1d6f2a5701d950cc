/-! NUMBERS -/
theorem tm_add {a b : Int32} (h1 : -2147483648 ≤ a.toInt + b.toInt) (h2 : a.toInt + b.toInt < 2147483648) : (a + b).toInt = a.toInt + b.toInt := by
  rw [Int32.toInt_add]
  exact Int.bmod_eq_of_le (by omega) (by omega)
theorem tm_sub {a b : Int32} (h1 : -2147483648 ≤ a.toInt - b.toInt) (h2 : a.toInt - b.toInt < 2147483648) : (a - b).toInt = a.toInt - b.toInt := by
  rw [Int32.toInt_sub]
  exact Int.bmod_eq_of_le (by omega) (by omega)
theorem tm_lt {a b : Int32} : a < b ↔ a.toInt < b.toInt := Int32.lt_iff_toInt_lt
theorem tm_le {a b : Int32} : a ≤ b ↔ a.toInt ≤ b.toInt := Int32.le_iff_toInt_le
theorem tm_nle {a b : Int32} (h : a < b) : ¬ b ≤ a := fun q => by rw [tm_lt] at h; rw [tm_le] at q; omega
theorem tm_nlt {a b : Int32} (h : a ≤ b) : ¬ b < a := fun q => by rw [tm_le] at h; rw [tm_lt] at q; omega
theorem tm_ge {a b : Int32} (h : ¬ a < b) : b ≤ a := by rw [tm_lt] at h; rw [tm_le]; omega
theorem tm_gt {a b : Int32} (h : ¬ a ≤ b) : b < a := by rw [tm_le] at h; rw [tm_lt]; omega
theorem tm_nat {x : Int32} {N : Nat} (h0 : 0 ≤ x.toInt) (h1 : x.toInt ≤ N) (hN : N < 2 ^ 31) : ∃ k : Nat, k ≤ N ∧ x = nI k := ⟨x.toInt.toNat, by omega, Int32.toInt_inj.mp (by rw [nI_toInt (by omega)]; omega)⟩
theorem tm_bd (x : Int32) : -2147483648 ≤ x.toInt ∧ x.toInt < 2147483648 := ⟨x.le_toInt, x.toInt_lt⟩
theorem tp_nIj {a b : Nat} (h : nI a = nI b) (ha : a < 2 ^ 31) (hb : b < 2 ^ 31) : a = b := by
  have h2 := congrArg Int32.toNatClampNeg h
  rwa [nI_clamp ha, nI_clamp hb] at h2
/-- a + b - c and a - c + b -/
theorem tm_abc (a b c : Int32) : a + b - c = a - c + b := by
  rw [Int32.sub_eq_add_neg, Int32.sub_eq_add_neg, Int32.add_assoc, Int32.add_assoc, Int32.add_comm b]
/-- five facts within their ranges -/
def tm_fx (V : Nat → Int32) : Prop := (V 0 = nI 1 ∨ V 0 = nI 2) ∧ (∃ k, k ≤ 9 ∧ V 1 = nI k) ∧ (∃ k, k ≤ 1000000 ∧ V 2 = nI k) ∧ (∃ k, k ≤ 1000000 ∧ V 3 = nI k) ∧ (∃ k, k ≤ 10000000 ∧ V 4 = nI k)
theorem tm_ranges {V : Nat → Int32} (h : ∀ f, f < 5 → ¬ V f < tp_vl f ∧ V f ≤ tp_vm f) : tm_fx V := by
  have key : ∀ f N : Nat, f < 5 → (tp_vm f).toInt = N → N < 2 ^ 31 → (0 ≤ (tp_vl f).toInt) → ∃ k, k ≤ N ∧ V f = nI k := fun f N hf hN h31 h0 => by
    obtain ⟨h1, h2⟩ := h f hf
    rw [tm_lt] at h1
    rw [tm_le] at h2
    exact tm_nat (by omega) (by omega) h31
  refine ⟨?_, key 1 9 (by decide) (by decide) (by decide) (by decide), key 2 1000000 (by decide) (by decide) (by decide) (by decide), key 3 1000000 (by decide) (by decide) (by decide) (by decide), key 4 10000000 (by decide) (by decide) (by decide) (by decide)⟩
  obtain ⟨k, hk, e⟩ := key 0 2 (by decide) (by decide) (by decide) (by decide)
  have h1 := (h 0 (by decide)).1
  rw [e] at h1 ⊢
  rcases (show k = 0 ∨ k = 1 ∨ k = 2 by omega) with rfl | rfl | rfl
  · exact absurd (by decide : nI 0 < tp_vl 0) h1
  · exact Or.inl rfl
  · exact Or.inr rfl
theorem tm_over {k d : Nat} (hk : k ≤ 10000000) (hd : d ≤ 1000000) : tp_pos (nI k - nI d) = nI (k - d) := by
  have h1 : (nI k - nI d).toInt = (k : Int) - d := pk_sub_toInt (by omega) (by omega)
  have c0 : (0 : Int32).toInt = 0 := rfl
  unfold tp_pos
  by_cases h : k ≤ d
  · rw [if_neg (fun q => by rw [tm_lt, h1] at q; omega), show k - d = 0 by omega]
    rfl
  · rw [if_pos (by rw [tm_lt, h1]; omega), pk_sub (by omega)]
section TN
variable {I : Nat → Nat → Int32} {b m : Nat}
theorem tn_min60 {k : Nat} (h : k ≤ 1000000) : (if (60000 : Int32) < nI k then 60000 else nI k) = nI (min 60000 k) ∧ (if nI k ≤ (60000 : Int32) then nI k else 60000) = nI (min 60000 k) := by
  have p1 : (60000 : Int32) < nI k ↔ 60000 < k := nI_ltI (a := 60000) (by decide) (by omega)
  have p2 : nI k ≤ (60000 : Int32) ↔ k ≤ 60000 := nI_leI (b := 60000) (by omega) (by decide)
  refine ⟨?_, ?_⟩
  · by_cases h1 : 60000 < k
    · rw [if_pos (p1.mpr h1), Nat.min_eq_left (by omega)]
      rfl
    · rw [if_neg (fun q => h1 (p1.mp q)), Nat.min_eq_right (by omega)]
  · by_cases h1 : k ≤ 60000
    · rw [if_pos (p2.mpr h1), Nat.min_eq_right (by omega)]
    · rw [if_neg (fun q => h1 (p2.mp q)), Nat.min_eq_left (by omega)]
      rfl
/-- the need, as the law reckons it -/
theorem tn_need (h : tm_fx (fun f => I (b + 2 + f) m)) : 18000 + 12000 * I (b + 2 + 0) m + 8000 * I (b + 2 + 1) m + (if I (b + 2 + 2) m ≤ 60000 then I (b + 2 + 2) m else 60000) = tp_need I b m ∧ ∃ k : Nat, 30000 ≤ k ∧ k ≤ 174000 ∧ tp_need I b m = nI k := by
  obtain ⟨h0, ⟨c, hc, e1⟩, ⟨r, hr, e2⟩, -, -⟩ := h
  dsimp only at h0 e1 e2
  unfold tp_need
  rw [e1, e2, (tn_min60 hr).1, (tn_min60 hr).2, show nI c * 8000 = nI (c * 8000) from pk_mul c 8000, show 8000 * nI c = nI (8000 * c) from pk_mul 8000 c, show 30000 + nI (c * 8000) = nI (30000 + c * 8000) from nI_add 30000 _]
  rcases h0 with h0 | h0
  · rw [h0, if_pos (show nI 1 ≤ 1 by decide), show 12000 * nI 1 = nI 12000 by decide, show 18000 + nI 12000 = nI 30000 by decide, nI_add, nI_add, nI_add]
    refine ⟨congrArg nI (by omega), 30000 + c * 8000 + min 60000 r, by omega, by omega, rfl⟩
  · rw [h0, if_neg (show ¬ nI 2 ≤ 1 by decide), show 12000 * nI 2 = nI 24000 by decide, show 18000 + nI 24000 = nI 42000 by decide, show nI (30000 + c * 8000) + 12000 = nI (30000 + c * 8000 + 12000) from nI_add _ 12000, nI_add, nI_add, nI_add]
    refine ⟨congrArg nI (by omega), 30000 + c * 8000 + 12000 + min 60000 r, by omega, by omega, rfl⟩
/-- the taper -/
theorem tn_taper (h : tm_fx (fun f => I (b + 2 + f) m)) : ∃ s k : Nat, s ≤ 1000000 ∧ k ≤ 600000 ∧ I (b + 2 + 3) m = nI s ∧ tp_taper I b m = nI k ∧ k = (s - 20000) * 60 / 100 := by
  obtain ⟨-, -, -, ⟨s, hs, e⟩, -⟩ := h
  dsimp only at e
  refine ⟨s, (s - 20000) * 60 / 100, hs, by omega, e, ?_, rfl⟩
  unfold tp_taper
  rw [e, show tp_pos (nI s - 20000) = nI (s - 20000) from tm_over (d := 20000) (by omega) (by decide), show nI (s - 20000) * 60 = nI ((s - 20000) * 60) from pk_mul _ 60]
  exact pk_div (by omega) (by decide) (by decide)
theorem tn_taper0 (h : tm_fx (fun f => I (b + 2 + f) m)) (c : ¬ 20000 ≤ I (b + 2 + 3) m) : 0 = tp_taper I b m := by
  obtain ⟨s, k, hs, hk, e, e2, e3⟩ := tn_taper h
  rw [e] at c
  rw [e2]
  have c1 : ¬ 20000 ≤ s := fun q => c (nI_le (a := 20000) q (by omega))
  rw [e3, show (s - 20000) * 60 / 100 = 0 by omega]
  rfl
theorem tn_lmul (a b : Nat) : lN a * lN b = lN (a * b) := (Int64.ofNat_mul a b).symm
theorem tn_lsub {a b : Nat} (h : b ≤ a) : lN a - lN b = lN (a - b) := by
  have e : lN a = lN (a - b) + lN b := by
    rw [show lN (a - b) + lN b = lN (a - b + b) from (Int64.ofNat_add _ _).symm, Nat.sub_add_cancel h]
  rw [e, Int64.add_sub_cancel]
theorem tn_l2i {n : Nat} (h : n < 2 ^ 31) : (lN n).toInt32 = nI n := by
  rw [← nI_l h]
  exact Int32.toInt32_toInt64 _
theorem tn_taper1 (h : tm_fx (fun f => I (b + 2 + f) m)) (c : 20000 ≤ I (b + 2 + 3) m) : (((I (b + 2 + 3) m).toInt64 - 20000) * 3 / 5).toInt32 = tp_taper I b m := by
  obtain ⟨s, k, hs, hk, e, e2, e3⟩ := tn_taper h
  rw [e] at c ⊢
  rw [e2]
  have c1 : 20000 ≤ s := (nI_leI (a := 20000) (by decide) (by omega)).mp c
  rw [nI_l (by omega), show lN s - 20000 = lN (s - 20000) from tn_lsub (b := 20000) c1, show lN (s - 20000) * 3 = lN ((s - 20000) * 3) from tn_lmul _ 3, show lN ((s - 20000) * 3) / 5 = lN ((s - 20000) * 3 / 5) from pk_lDiv (b := 5) (by omega) (by decide) (by decide), tn_l2i (by omega)]
  exact congrArg nI (by omega)
/-- the tariff -/
theorem tn_tariff (h : tm_fx (fun f => I (b + 2 + f) m)) : ∃ s : Nat, s ≤ 10000000 ∧ I (b + 2 + 4) m = nI s ∧ tp_tariff I b m = nI (500 * ((s - 600000 + 24999) / 25000)) := by
  obtain ⟨-, -, -, -, ⟨s, hs, e⟩⟩ := h
  dsimp only at e
  refine ⟨s, hs, e, ?_⟩
  unfold tp_tariff
  rw [e, show tp_pos (nI s - 600000) = nI (s - 600000) from tm_over (d := 600000) (by omega) (by decide), show nI (s - 600000) + 25000 = nI (s - 600000 + 25000) from nI_add _ 25000, show nI (s - 600000 + 25000) - 1 = nI (s - 600000 + 25000 - 1) from pk_sub (b := 1) (by omega), show nI (s - 600000 + 25000 - 1) / 25000 = nI ((s - 600000 + 25000 - 1) / 25000) from pk_div (d := 25000) (by omega) (by decide) (by decide), show nI ((s - 600000 + 25000 - 1) / 25000) * 500 = nI ((s - 600000 + 25000 - 1) / 25000 * 500) from pk_mul _ 500]
  exact congrArg nI (by rw [show s - 600000 + 25000 - 1 = s - 600000 + 24999 by omega]; omega)
/-- what is due, within its bounds -/
theorem tn_due (h : tm_fx (fun f => I (b + 2 + f) m)) : ∃ k : Nat, k ≤ 174000 ∧ tp_due I b m = nI k := by
  obtain ⟨-, k1, h1, h2, e1⟩ := tn_need h
  obtain ⟨s2, k2, -, hk2, -, e2, -⟩ := tn_taper h
  obtain ⟨s3, hs3, -, e3⟩ := tn_tariff h
  unfold tp_due
  rw [e1, e2, e3]
  generalize hk3 : 500 * ((s3 - 600000 + 24999) / 25000) = k3
  have hk3 : k3 ≤ 200000 := by omega
  have d1 : (nI k1 - nI k2).toInt = (k1 : Int) - k2 := pk_sub_toInt (by omega) (by omega)
  have d2 : (nI k1 - nI k2 - nI k3).toInt = (k1 : Int) - k2 - k3 := by
    rw [tm_sub (by rw [d1, nI_toInt (by omega)]; omega) (by rw [d1, nI_toInt (by omega)]; omega), d1, nI_toInt (by omega)]
  have c500 : (500 : Int32).toInt = 500 := rfl
  by_cases c1 : I (b + 2 + 4) m ≤ 1600000
  · rw [if_pos c1]
    by_cases c2 : 500 ≤ nI k1 - nI k2 - nI k3
    · rw [if_pos c2]
      rw [tm_le] at c2
      exact tm_nat (by omega) (by omega) (by decide)
    · rw [if_neg c2]
      exact ⟨0, by decide, rfl⟩
  · rw [if_neg c1]
    exact ⟨0, by decide, rfl⟩
end TN
/-! THE LAW'S LIST OF CHANGES -/
def tl_its (I : Nat → Nat → Int32) (h f m k : Nat) : Int32 := if I 3 k - I 3 k / 16 * 16 = nI (8 * h + f) then (if nI m < I 3 k / 16 then 0 else 1) else 0
def tl_v0 (f : Nat) : Int32 := if nI f = 0 then 1 else 0
def tl_scan (I : Nat → Nat → Int32) (h f m : Nat) : Nat → Int32 × Int32
  | 0 => (tl_v0 f, -1)
  | t + 1 => (if tl_its I h f m t = 0 then (tl_scan I h f m t).1 else if I 3 t / 16 < (tl_scan I h f m t).2 then (tl_scan I h f m t).1 else I 4 t, if tl_its I h f m t = 0 then (tl_scan I h f m t).2 else if I 3 t / 16 ≤ (tl_scan I h f m t).2 then (tl_scan I h f m t).2 else I 3 t / 16)
def tp_z (x : Int32) : Int32 := if x = -1 then 0 else x
/-- a change told: its household g, its fact f, the month r that it counts from -/
def tq_row (I : Nat → Nat → Int32) (j g f r : Nat) : Prop := g < 2 ∧ f < 5 ∧ r ≤ 48 ∧ I 3 j = nI (16 * r + 8 * g + f) ∧ ¬ I 4 j < tp_vl f ∧ I 4 j ≤ tp_vm f
/-- the facts of household h -/
def tq_F (I : Nat → Nat → Int32) (h c : Nat) : Prop := (h < 2 ∧ c ≤ 64 ∧ I 2 2 = nI c) ∧ (∀ j, j < c → ∃ g f r, tq_row I j g f r) ∧ ∀ f, f < 5 → ∀ m, m < 48 → I (9 + 15 * h + 2 + f) m = (tl_scan I h f m c).1 ∧ I (9 + 15 * h + 8 + f) m = tp_z (tl_scan I h f m c).2
/-- its reckoning: the month e is the current one, a its first -/
def tq_B (I : Nat → Nat → Int32) (h e a : Nat) : Prop := (h < 2 ∧ a ≤ e ∧ e ≤ 48 ∧ I 2 0 = nI e ∧ I 2 (4 + h) = nI a) ∧
  (∀ m, m < 48 → I (9 + 15 * h + 13) m = I (5 + h) m ∧ I (9 + 15 * h + 14) m = I (7 + h) m ∧ 0 ≤ (I (5 + h) m).toInt ∧ (I (5 + h) m).toInt ≤ 174000) ∧
  I (9 + 15 * h) 6 = I 2 (6 + h) ∧ I (9 + 15 * h) 7 = I 2 (8 + h) ∧ I (9 + 15 * h) 8 = I 2 (10 + h) ∧ (I 2 (10 + h) = 0 ∨ I 2 (10 + h) = 1) ∧ 0 ≤ (I 2 (6 + h)).toInt ∧ (I 2 (6 + h)).toInt ≤ (e : Int) * 8352000
theorem tq_its {I : Nat → Nat → Int32} {j g f r h f0 m : Nat} (R : tq_row I j g f r) (hh : h < 2) (hf : f0 < 5) (hm : m < 48) : (tl_its I h f0 m j = if g = h ∧ f = f0 ∧ r ≤ m then 1 else 0) ∧ I 3 j / 16 = nI r := by
  obtain ⟨r1, r2, r3, r4, -, -⟩ := R
  have e1 : I 3 j / 16 = nI ((16 * r + 8 * g + f) / 16) := by
    rw [r4]
    exact pk_div (d := 16) (by omega) (by decide) (by decide)
  have e2 : I 3 j - I 3 j / 16 * 16 = nI ((16 * r + 8 * g + f) % 16) := by
    rw [r4]
    exact pk_rem (d := 16) (by omega) (by decide) (by decide)
  have e3 : (16 * r + 8 * g + f) / 16 = r := by omega
  have e4 : (16 * r + 8 * g + f) % 16 = 8 * g + f := by omega
  rw [e4] at e2
  rw [e3] at e1
  refine ⟨?_, e1⟩
  unfold tl_its
  rw [e2, e1]
  by_cases q : nI (8 * g + f) = nI (8 * h + f0)
  · have q2 := tp_nIj q (by omega) (by omega)
    rw [if_pos q]
    by_cases q3 : r ≤ m
    · rw [if_neg (nI_nlt q3 (by omega)), if_pos ⟨by omega, by omega, q3⟩]
    · rw [if_pos (nI_lt (by omega) (by omega)), if_neg (fun z => q3 z.2.2)]
  · rw [if_neg q, if_neg (fun z => q (by rw [z.1, z.2.1]))]
theorem tq_range {I : Nat → Nat → Int32} {h f m c : Nat} (hh : h < 2) (hf : f < 5) (hm : m < 48) (hr : ∀ j, j < c → ∃ g f r, tq_row I j g f r) : ∀ t, t ≤ c → ¬ (tl_scan I h f m t).1 < tp_vl f ∧ (tl_scan I h f m t).1 ≤ tp_vm f
  | 0, _ => by
    show ¬ tl_v0 f < tp_vl f ∧ tl_v0 f ≤ tp_vm f
    rcases (show f = 0 ∨ f = 1 ∨ f = 2 ∨ f = 3 ∨ f = 4 by omega) with rfl | rfl | rfl | rfl | rfl <;> decide
  | t + 1, ht => by
    have ih := tq_range (I := I) hh hf hm hr t (by omega)
    obtain ⟨g, f2, r, R⟩ := hr t (by omega)
    obtain ⟨e1, -⟩ := tq_its R hh hf hm
    unfold tl_scan
    dsimp only
    by_cases q : tl_its I h f m t = 0
    · rw [if_pos q]
      exact ih
    · rw [if_neg q]
      rw [e1] at q
      have q2 : g = h ∧ f2 = f ∧ r ≤ m := Decidable.byContradiction (fun z => q (if_neg z))
      by_cases q3 : I 3 t / 16 < (tl_scan I h f m t).2
      · rw [if_pos q3]
        exact ih
      · rw [if_neg q3, ← q2.2.1]
        exact R.2.2.2.2
theorem tq_fx {I : Nat → Nat → Int32} {h c m : Nat} (R : tq_F I h c) (hm : m < 48) : tm_fx (fun f => I (9 + 15 * h + 2 + f) m) := tm_ranges (fun f hf => by
  show ¬ I (9 + 15 * h + 2 + f) m < _ ∧ I (9 + 15 * h + 2 + f) m ≤ _
  rw [(R.2.2 f hf m hm).1]
  exact tq_range R.1.1 hf hm R.2.1 c (Nat.le_refl _))
/-! THE RECKONING OF A MONTH -/
theorem tq_dueN {I : Nat → Nat → Int32} {h c m : Nat} (R : tq_F I h c) (hm : m < 48) : ∃ k : Nat, k ≤ 174000 ∧ tp_due I (9 + 15 * h) m = nI k := tn_due (tq_fx R hm)
theorem tq_sum {I : Nat → Nat → Int32} {h c e a : Nat} (R : tq_F I h c) (B : tq_B I h e a) {x : Nat} : ∀ k : Nat, x + k ≤ 48 → -(174000 * (k : Int)) ≤ (tp_sum (fun m => tp_due I (9 + 15 * h) m - I (9 + 15 * h + 13) m) x k).toInt ∧ (tp_sum (fun m => tp_due I (9 + 15 * h) m - I (9 + 15 * h + 13) m) x k).toInt ≤ 174000 * (k : Int)
  | 0, _ => by
    show _ ≤ (0 : Int32).toInt ∧ (0 : Int32).toInt ≤ _
    have : (0 : Int32).toInt = 0 := rfl
    omega
  | k + 1, hk => by
    obtain ⟨i1, i2⟩ := tq_sum R B (x := x) k (by omega)
    obtain ⟨d, hd, ed⟩ := tq_dueN R (m := x + k) (by omega)
    obtain ⟨b0, -, b1, b2⟩ := B.2.1 (x + k) (by omega)
    have t1 : (tp_due I (9 + 15 * h) (x + k)).toInt = d := by rw [ed, nI_toInt (by omega)]
    have t2 : (tp_due I (9 + 15 * h) (x + k) - I (9 + 15 * h + 13) (x + k)).toInt = d - (I (5 + h) (x + k)).toInt := by
      rw [b0, tm_sub (by omega) (by omega), t1]
    show _ ≤ (tp_sum _ x k + (tp_due I (9 + 15 * h) (x + k) - I (9 + 15 * h + 13) (x + k))).toInt ∧ (tp_sum _ x k + (tp_due I (9 + 15 * h) (x + k) - I (9 + 15 * h + 13) (x + k))).toInt ≤ _
    rw [tm_add (by omega) (by omega), t2]
    omega
theorem tq_open {I : Nat → Nat → Int32} {h c e a : Nat} (R : tq_F I h c) (B : tq_B I h e a) : -8352000 ≤ (tp_open I (9 + 15 * h) a e).toInt ∧ (tp_open I (9 + 15 * h) a e).toInt ≤ 8352000 := by
  unfold tp_open
  obtain ⟨-, b1, b2, -, -⟩ := B.1
  obtain ⟨h1, h2⟩ := tq_sum R B (x := a) (e - a) (by omega)
  omega
theorem tm_posI (x : Int32) : (tp_pos x).toInt = if 0 < x.toInt then x.toInt else 0 := by
  have c0 : (0 : Int32).toInt = 0 := rfl
  unfold tp_pos
  by_cases h : 0 < x
  · rw [if_pos h, if_pos (by rw [tm_lt] at h; omega)]
  · rw [if_neg h, if_neg (by rw [tm_lt] at h; omega)]
    rfl
theorem tm_minI (x y : Int32) : (tp_min x y).toInt = if y.toInt < x.toInt then y.toInt else x.toInt := by
  unfold tp_min
  by_cases h : y < x
  · rw [if_pos h, if_pos (tm_lt.mp h)]
  · rw [if_neg h, if_neg (fun q => h (tm_lt.mpr q))]
/-- the debt then, the arrears -/
theorem tn_owed {D X : Int32} (h1 : 0 ≤ D.toInt) (h2 : D.toInt ≤ 410000000) (h3 : -8352000 ≤ X.toInt) (h4 : X.toInt ≤ 8352000) :
    (X ≤ 0 → D - X = tp_pos (D - X)) ∧ (0 ≤ D - X → D - X = tp_pos (D - X)) ∧ (¬ 0 ≤ D - X → 0 = tp_pos (D - X)) ∧ 0 ≤ (tp_pos (D - X)).toInt ∧ (tp_pos (D - X)).toInt ≤ D.toInt + 8352000 := by
  have c0 : (0 : Int32).toInt = 0 := rfl
  have d1 : (D - X).toInt = D.toInt - X.toInt := tm_sub (by omega) (by omega)
  have q1 := tm_posI (D - X)
  rw [d1] at q1
  refine ⟨fun q => Int32.toInt_inj.mp ?_, fun q => Int32.toInt_inj.mp ?_, fun q => Int32.toInt_inj.mp ?_, by rw [q1]; split <;> omega, by rw [q1]; split <;> omega⟩
  · rw [tm_le] at q
    rw [q1, d1]
    split <;> omega
  · rw [tm_le] at q
    rw [q1, d1]
    split <;> omega
  · rw [tm_le] at q
    rw [q1]
    split <;> omega
theorem tn_arr {D X : Int32} (h1 : 0 ≤ D.toInt) (h2 : D.toInt ≤ 410000000) (h3 : -8352000 ≤ X.toInt) (h4 : X.toInt ≤ 8352000) :
    (X ≤ D → 0 = tp_pos (X - D)) ∧ (X ≤ 0 → 0 = tp_pos (X - D)) ∧ (¬ X ≤ D → X - D = tp_pos (X - D)) := by
  have c0 : (0 : Int32).toInt = 0 := rfl
  have d1 : (X - D).toInt = X.toInt - D.toInt := tm_sub (by omega) (by omega)
  have q1 := tm_posI (X - D)
  rw [d1] at q1
  refine ⟨fun q => Int32.toInt_inj.mp ?_, fun q => Int32.toInt_inj.mp ?_, fun q => Int32.toInt_inj.mp ?_⟩
  · rw [tm_le] at q
    rw [q1]
    split <;> omega
  · rw [tm_le] at q
    rw [q1]
    split <;> omega
  · rw [tm_le] at q
    rw [q1, d1]
    split <;> omega
/-- what is recovered, as the law reckons it -/
def tl_s1 (x M : Int32) : Int32 := if M ≤ x then M else x
def tl_s2 (x M room : Int32) : Int32 := if tl_s1 x M ≤ room then tl_s1 x M else room
theorem tn_15 {k : Nat} (hk : k ≤ 174000) : nI k * 3 / 20 = nI k * 15 / 100 ∧ 0 ≤ (nI k * 15 / 100).toInt := by
  rw [show nI k * 3 = nI (k * 3) from pk_mul k 3, show nI k * 15 = nI (k * 15) from pk_mul k 15, show nI (k * 3) / 20 = nI (k * 3 / 20) from pk_div (d := 20) (by omega) (by decide) (by decide), show nI (k * 15) / 100 = nI (k * 15 / 100) from pk_div (d := 100) (by omega) (by decide) (by decide), nI_toInt (by omega)]
  exact ⟨congrArg nI (by omega), by omega⟩
theorem tn_rec {N d room : Int32} (h1 : 0 ≤ N.toInt) (h2 : 0 ≤ d.toInt) : (0 ≤ tl_s2 N d room → tl_s2 N d room = tp_min N (tp_min d (tp_pos room))) ∧ (¬ 0 ≤ tl_s2 N d room → 0 = tp_min N (tp_min d (tp_pos room))) ∧ 0 ≤ (tp_min N (tp_min d (tp_pos room))).toInt ∧ (tp_min N (tp_min d (tp_pos room))).toInt ≤ N.toInt := by
  have c0 : (0 : Int32).toInt = 0 := rfl
  have q0 : (tl_s1 N d).toInt = if d.toInt ≤ N.toInt then d.toInt else N.toInt := by
    unfold tl_s1
    by_cases h : d ≤ N
    · rw [if_pos h, if_pos (tm_le.mp h)]
    · rw [if_neg h, if_neg (fun q => h (tm_le.mpr q))]
  have q1 : (tl_s2 N d room).toInt = if (tl_s1 N d).toInt ≤ room.toInt then (tl_s1 N d).toInt else room.toInt := by
    unfold tl_s2
    by_cases h : tl_s1 N d ≤ room
    · rw [if_pos h, if_pos (tm_le.mp h)]
    · rw [if_neg h, if_neg (fun q => h (tm_le.mpr q))]
  have q2 := tm_minI N (tp_min d (tp_pos room))
  have q3 := tm_minI d (tp_pos room)
  have q4 := tm_posI room
  generalize (tl_s1 N d).toInt = S1 at q0 q1
  generalize (tp_pos room).toInt = P at q3 q4
  generalize hM : (tp_min d (tp_pos room)).toInt = M at q2 q3
  refine ⟨fun q => Int32.toInt_inj.mp ?_, fun q => Int32.toInt_inj.mp ?_, ?_, ?_⟩
  · rw [tm_le, q1] at q
    rw [q1, q2]
    (repeat' split at *) <;> omega
  · rw [tm_le, q1] at q
    rw [q2]
    (repeat' split at *) <;> omega
  · rw [q2]
    (repeat' split at *) <;> omega
  · rw [q2]
    (repeat' split at *) <;> omega
