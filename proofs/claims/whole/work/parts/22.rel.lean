/-! NUMBERS: the class's and the model's sums are the same -/
theorem tm_add {a b : Int32} (h1 : -2147483648 ≤ a.toInt + b.toInt) (h2 : a.toInt + b.toInt < 2147483648) : (a + b).toInt = a.toInt + b.toInt := by
  rw [Int32.toInt_add]
  exact Int.bmod_eq_of_le (by omega) (by omega)
theorem tm_sub {a b : Int32} (h1 : -2147483648 ≤ a.toInt - b.toInt) (h2 : a.toInt - b.toInt < 2147483648) : (a - b).toInt = a.toInt - b.toInt := by
  rw [Int32.toInt_sub]
  exact Int.bmod_eq_of_le (by omega) (by omega)
theorem tm_lt {a b : Int32} : a < b ↔ a.toInt < b.toInt := Int32.lt_iff_toInt_lt
theorem tm_le {a b : Int32} : a ≤ b ↔ a.toInt ≤ b.toInt := Int32.le_iff_toInt_le
theorem tm_nat {x : Int32} {N : Nat} (h0 : 0 ≤ x.toInt) (h1 : x.toInt ≤ N) (hN : N < 2 ^ 31) : ∃ k : Nat, k ≤ N ∧ x = nI k := ⟨x.toInt.toNat, by omega, Int32.toInt_inj.mp (by rw [nI_toInt (by omega)]; omega)⟩
theorem tm_bd (x : Int32) : -2147483648 ≤ x.toInt ∧ x.toInt < 2147483648 := ⟨x.le_toInt, x.toInt_lt⟩
/-- five facts within their ranges -/
def tm_fx (V : Nat → Int32) : Prop := (V 0 = nI 1 ∨ V 0 = nI 2) ∧ (∃ k, k ≤ 9 ∧ V 1 = nI k) ∧ (∃ k, k ≤ 1000000 ∧ V 2 = nI k) ∧ (∃ k, k ≤ 1000000 ∧ V 3 = nI k) ∧ (∃ k, k ≤ 10000000 ∧ V 4 = nI k)
theorem tm_ranges {V : Nat → Int32} (h : ∀ f, f < 5 → ¬ V f < tp_vl f ∧ V f ≤ tp_vm f) : tm_fx V := by
  have key : ∀ f N : Nat, f < 5 → (tp_vm f).toInt = N → N < 2 ^ 31 → (0 ≤ (tp_vl f).toInt) → ∃ k, k ≤ N ∧ V f = nI k := fun f N hf hN h31 h0 => by
    obtain ⟨h1, h2⟩ := h f hf
    rw [tm_lt] at h1
    rw [tm_le] at h2
    exact tm_nat (by omega) (by omega) h31
  refine ⟨?_, key 1 9 (by decide) (by decide) (by decide) (by decide), key 2 1000000 (by decide) (by decide) (by decide) (by decide), key 3 1000000 (by decide) (by decide) (by decide) (by decide), key 4 10000000 (by decide) (by decide) (by decide) (by decide)⟩
  obtain ⟨k, hk, e⟩ := key 0 2 (by decide) (by decide) (by decide) (by decide)
  have h1 := (h 0 (by decide)).1
  rw [e] at h1 ⊢
  rcases (show k = 0 ∨ k = 1 ∨ k = 2 by omega) with rfl | rfl | rfl
  · exact absurd (by decide : nI 0 < tp_vl 0) h1
  · exact Or.inl rfl
  · exact Or.inr rfl
theorem tm_min60 {k : Nat} (h : k ≤ 1000000) : (if (60000 : Int32) < nI k then 60000 else nI k) = nI (min 60000 k) ∧ (if (60000 : Int32) ≤ nI k then 60000 else nI k) = nI (min 60000 k) := by
  have p1 : (60000 : Int32) < nI k ↔ 60000 < k := nI_ltI (a := 60000) (by decide) (by omega)
  have p2 : (60000 : Int32) ≤ nI k ↔ 60000 ≤ k := nI_leI (a := 60000) (by decide) (by omega)
  refine ⟨?_, ?_⟩
  · by_cases h1 : 60000 < k
    · rw [if_pos (p1.mpr h1), Nat.min_eq_left (by omega)]
      rfl
    · rw [if_neg (fun q => h1 (p1.mp q)), Nat.min_eq_right (by omega)]
  · by_cases h1 : 60000 ≤ k
    · rw [if_pos (p2.mpr h1), Nat.min_eq_left (by omega)]
      rfl
    · rw [if_neg (fun q => h1 (p2.mp q)), Nat.min_eq_right (by omega)]
/-- the need -/
theorem tm_need {V : Nat → Int32} (h : tm_fx V) : ∃ k : Nat, 30000 ≤ k ∧ k ≤ 174000 ∧ (if V 0 ≤ 1 then 30000 + V 1 * 8000 else 30000 + V 1 * 8000 + 12000) + (if 60000 < V 2 then 60000 else V 2) = nI k ∧ 30000 + (if V 0 = 2 then 12000 else 0) + 8000 * V 1 + (if 60000 ≤ V 2 then 60000 else V 2) = nI k := by
  obtain ⟨h0, ⟨c, hc, e1⟩, ⟨r, hr, e2⟩, -, -⟩ := h
  rw [e1, e2, (tm_min60 hr).1, (tm_min60 hr).2, show nI c * 8000 = nI (c * 8000) from pk_mul c 8000, show 8000 * nI c = nI (8000 * c) from pk_mul 8000 c, show 30000 + nI (c * 8000) = nI (30000 + c * 8000) from nI_add 30000 _]
  rcases h0 with h0 | h0
  · rw [h0, if_pos (show nI 1 ≤ 1 by decide), if_neg (show ¬ nI 1 = 2 by decide)]
    refine ⟨30000 + c * 8000 + min 60000 r, by omega, by omega, nI_add _ _, ?_⟩
    rw [show (30000 + 0 : Int32) = nI 30000 by decide, nI_add, nI_add]
    exact congrArg nI (by omega)
  · rw [h0, if_neg (show ¬ nI 2 ≤ 1 by decide), if_pos (show nI 2 = 2 by decide)]
    refine ⟨42000 + c * 8000 + min 60000 r, by omega, by omega, ?_, ?_⟩
    · rw [show nI (30000 + c * 8000) + 12000 = nI (30000 + c * 8000 + 12000) from nI_add _ 12000, nI_add]
      exact congrArg nI (by omega)
    · rw [show (30000 + 12000 : Int32) = nI 42000 by decide, nI_add, nI_add]
      exact congrArg nI (by omega)
theorem tm_over {k d : Nat} (hk : k ≤ 10000000) (hd : d ≤ 1000000) : tp_pos (nI k - nI d) = nI (k - d) ∧ (nI k - nI d ≤ 0 ↔ k ≤ d) := by
  have h1 : (nI k - nI d).toInt = (k : Int) - d := pk_sub_toInt (by omega) (by omega)
  have h2 : nI k - nI d ≤ 0 ↔ k ≤ d := by
    rw [tm_le, h1, show (0 : Int32).toInt = 0 from rfl]
    omega
  refine ⟨?_, h2⟩
  unfold tp_pos
  by_cases h : k ≤ d
  · rw [if_neg (fun q => by rw [tm_lt, h1] at q; have : (0 : Int32).toInt = 0 := rfl; omega), show k - d = 0 by omega]
    rfl
  · rw [if_pos (by rw [tm_lt, h1]; have : (0 : Int32).toInt = 0 := rfl; omega), pk_sub (by omega)]
/-- the taper -/
theorem tm_taper {V : Nat → Int32} (h : tm_fx V) : ∃ k : Nat, k ≤ 600000 ∧ tp_pos (V 3 - 20000) * 60 / 100 = nI k ∧ (if V 3 - 20000 ≤ 0 then 0 else (V 3 - 20000) * 60 / 100) = nI k := by
  obtain ⟨-, -, -, ⟨s, hs, e⟩, -⟩ := h
  obtain ⟨a1, a2⟩ : tp_pos (nI s - nI 20000) = nI (s - 20000) ∧ (nI s - (20000 : Int32) ≤ 0 ↔ s ≤ 20000) := tm_over (k := s) (d := 20000) (by omega) (by decide)
  have key : nI (s - 20000) * 60 / 100 = nI ((s - 20000) * 60 / 100) := by
    rw [show nI (s - 20000) * 60 = nI ((s - 20000) * 60) from pk_mul _ 60]
    exact pk_div (by omega) (by decide) (by decide)
  refine ⟨(s - 20000) * 60 / 100, by omega, ?_, ?_⟩
  · rw [e, show tp_pos (nI s - 20000) = nI (s - 20000) from a1, key]
  · rw [e]
    by_cases h : s ≤ 20000
    · rw [if_pos (a2.mpr h), show (s - 20000) * 60 / 100 = 0 by omega]
      rfl
    · rw [if_neg (fun q => h (a2.mp q)), show nI s - 20000 = nI (s - 20000) from pk_sub (b := 20000) (by omega), key]
/-- the tariff -/
theorem tm_tariff {V : Nat → Int32} (h : tm_fx V) : ∃ k : Nat, k ≤ 200000 ∧ (tp_pos (V 4 - 600000) + 25000 - 1) / 25000 * 500 = nI k ∧ (if V 4 - 600000 ≤ 0 then 0 else (V 4 - 600000 + 24999) / 25000 * 500) = nI k := by
  obtain ⟨-, -, -, -, ⟨s, hs, e⟩⟩ := h
  obtain ⟨a1, a2⟩ : tp_pos (nI s - nI 600000) = nI (s - 600000) ∧ (nI s - (600000 : Int32) ≤ 0 ↔ s ≤ 600000) := tm_over (k := s) (d := 600000) (by omega) (by decide)
  have key : nI (s - 600000 + 24999) / 25000 * 500 = nI ((s - 600000 + 24999) / 25000 * 500) := by
    rw [show nI (s - 600000 + 24999) / 25000 = nI ((s - 600000 + 24999) / 25000) from pk_div (by omega) (by decide) (by decide)]
    exact pk_mul _ 500
  refine ⟨(s - 600000 + 24999) / 25000 * 500, by omega, ?_, ?_⟩
  · rw [e, show tp_pos (nI s - 600000) = nI (s - 600000) from a1, show nI (s - 600000) + 25000 = nI (s - 600000 + 25000) from nI_add _ 25000, show nI (s - 600000 + 25000) - 1 = nI (s - 600000 + 25000 - 1) from pk_sub (b := 1) (by omega), show s - 600000 + 25000 - 1 = s - 600000 + 24999 by omega, key]
  · rw [e]
    by_cases h : s ≤ 600000
    · rw [if_pos (a2.mpr h), show (s - 600000 + 24999) / 25000 * 500 = 0 by omega]
      rfl
    · rw [if_neg (fun q => h (a2.mp q)), show nI s - 600000 = nI (s - 600000) from pk_sub (b := 600000) (by omega), show nI (s - 600000) + 24999 = nI (s - 600000 + 24999) from nI_add _ 24999, key]
/-! THE RELATION -/
def tp_z (x : Int32) : Int32 := if x = -1 then 0 else x
def tp_relH (I : Nat → Nat → Int32) (e h a c : Nat) : Prop :=
  (a ≤ e ∧ c ≤ 100 ∧ I (14 + 15 * h) 3 = nI a ∧ I 3 h = nI a ∧ I (14 + 15 * h) 2 = nI c ∧ I 4 h = nI c) ∧
  (∀ f, f < 5 → ∀ m, m < 48 → I (14 + 15 * h + 2 + f) m = (tp_scan I (nI f) (nI m) (100 * h) c).1 ∧ I (14 + 15 * h + 8 + f) m = tp_z (tp_scan I (nI f) (nI m) (100 * h) c).2) ∧
  (∀ j, j < c → ∃ f r : Nat, f < 5 ∧ r ≤ 48 ∧ I 5 (100 * h + j) = nI f ∧ I 6 (100 * h + j) = nI r ∧ ¬ I 7 (100 * h + j) < tp_vl f ∧ I 7 (100 * h + j) ≤ tp_vm f) ∧
  (∀ m, m < 48 → I (14 + 15 * h + 13) m = I 8 (48 * h + m) ∧ I (14 + 15 * h + 14) m = I 9 (48 * h + m) ∧ 0 ≤ (I 8 (48 * h + m)).toInt ∧ (I 8 (48 * h + m)).toInt ≤ 174000) ∧
  (I (14 + 15 * h) 6 = I 10 h ∧ I (14 + 15 * h) 7 = I 11 h ∧ I (14 + 15 * h) 8 = I 12 h ∧ (I 12 h = 0 ∨ I 12 h = 1) ∧ 0 ≤ (I 10 h).toInt ∧ (I 10 h).toInt ≤ (e : Int) * 8352000)
/-- the model's places of a household that isn't there yet -/
def tp_fh (I : Nat → Nat → Int32) (h : Nat) : Prop := I 4 h = 0 ∧ I 10 h = 0 ∧ I 11 h = 0 ∧ I 12 h = 0 ∧ ∀ m, m < 48 → I 8 (48 * h + m) = 0 ∧ I 9 (48 * h + m) = 0
theorem tp_fh_cong {I J : Nat → Nat → Int32} {h : Nat} (R : tp_fh I h) (h4 : J 4 h = I 4 h) (h10 : J 10 h = I 10 h) (h11 : J 11 h = I 11 h) (h12 : J 12 h = I 12 h) (h8 : ∀ m, m < 48 → J 8 (48 * h + m) = I 8 (48 * h + m) ∧ J 9 (48 * h + m) = I 9 (48 * h + m)) : tp_fh J h := by
  refine ⟨h4.trans R.1, h10.trans R.2.1, h11.trans R.2.2.1, h12.trans R.2.2.2.1, fun m hm => ?_⟩
  rw [(h8 m hm).1, (h8 m hm).2]
  exact R.2.2.2.2 m hm
def tp_rel (n : Nat) (I : Nat → Nat → Int32) : Prop :=
  n ≤ 6 ∧ I 0 1 = nI n ∧ I 2 2 = nI n ∧ ∃ (e : Nat) (aF cF : Nat → Nat), e ≤ 48 ∧ I 0 2 = nI e ∧ I 2 1 = nI e ∧ (∀ h, n ≤ h → h < 6 → tp_fh I h) ∧ ∀ h, h < n → tp_relH I e h (aF h) (cF h)
theorem tp_scan_range {I : Nat → Nat → Int32} {f b c : Nat} {m : Int32} (hf : f < 5) (hr : ∀ j, j < c → ∃ f r : Nat, f < 5 ∧ r ≤ 48 ∧ I 5 (b + j) = nI f ∧ I 6 (b + j) = nI r ∧ ¬ I 7 (b + j) < tp_vl f ∧ I 7 (b + j) ≤ tp_vm f) : ∀ t, t ≤ c → ¬ (tp_scan I (nI f) m b t).1 < tp_vl f ∧ (tp_scan I (nI f) m b t).1 ≤ tp_vm f
  | 0, _ => by
    show ¬ tp_low (nI f) < tp_vl f ∧ tp_low (nI f) ≤ tp_vm f
    rcases (show f = 0 ∨ f = 1 ∨ f = 2 ∨ f = 3 ∨ f = 4 by omega) with rfl | rfl | rfl | rfl | rfl <;> decide
  | t + 1, ht => by
    have ih := tp_scan_range (m := m) hf hr t (by omega)
    unfold tp_scan
    dsimp only
    by_cases h : tp_cnt I (nI f) m (tp_scan I (nI f) m b t).2 (b + t) = 0
    · rw [if_pos h]
      exact ih
    · rw [if_neg h]
      obtain ⟨f2, r, hf2, -, e5, -, e7⟩ := hr t (by omega)
      have : I 5 (b + t) = nI f := by
        refine Decidable.byContradiction (fun q => h ?_)
        unfold tp_cnt
        rw [if_neg q]
      obtain rfl : f2 = f := tp_nIj (e5.symm.trans this) (by omega) (by omega)
      exact e7
section TPRel
variable {I : Nat → Nat → Int32} {e h a c : Nat} (R : tp_relH I e h a c)
theorem tr_C (R : tp_relH I e h a c) : tp_C I h := ⟨c, R.1.2.1, R.1.2.2.2.2.2⟩
theorem tr_mf (R : tp_relH I e h a c) {f m : Int32} : tp_mfact I h f m = (tp_scan I f m (100 * h) c).1 := by
  unfold tp_mfact
  rw [R.1.2.2.2.2.2, nI_clamp (by have := R.1.2.1; omega)]
theorem tr_f (R : tp_relH I e h a c) {f m : Nat} (hf : f < 5) (hm : m < 48) : I (14 + 15 * h + 2 + f) m = tp_mfact I h (nI f) (nI m) := by
  rw [tr_mf R]
  exact (R.2.1 f hf m hm).1
theorem tr_fx (R : tp_relH I e h a c) {m : Int32} : tm_fx (fun f => tp_mfact I h (nI f) m) := tm_ranges (fun f hf => by
  show ¬ tp_mfact I h (nI f) m < _ ∧ tp_mfact I h (nI f) m ≤ _
  rw [tr_mf R]
  exact tp_scan_range hf R.2.2.1 c (Nat.le_refl _))
theorem tr_need (R : tp_relH I e h a c) {m : Nat} (hm : m < 48) : tp_need I (14 + 15 * h) m = tp_mneed I h (nI m) ∧ ∃ k : Nat, k ≤ 174000 ∧ tp_mneed I h (nI m) = nI k := by
  obtain ⟨k, k1, k2, e1, e2⟩ := tm_need (tr_fx R (m := nI m))
  refine ⟨?_, k, k2, e2⟩
  unfold tp_need
  rw [tr_f R (by decide) hm, tr_f R (by decide) hm, tr_f R (by decide) hm]
  exact e1.trans e2.symm
theorem tr_taper (R : tp_relH I e h a c) {m : Nat} (hm : m < 48) : tp_taper I (14 + 15 * h) m = tp_mtaper I h (nI m) ∧ ∃ k : Nat, k ≤ 600000 ∧ tp_mtaper I h (nI m) = nI k := by
  obtain ⟨k, k1, e1, e2⟩ := tm_taper (tr_fx R (m := nI m))
  refine ⟨?_, k, k1, e2⟩
  unfold tp_taper
  rw [tr_f R (by decide) hm]
  exact e1.trans e2.symm
theorem tr_tariff (R : tp_relH I e h a c) {m : Nat} (hm : m < 48) : tp_tariff I (14 + 15 * h) m = tp_mtariff I h (nI m) ∧ ∃ k : Nat, k ≤ 200000 ∧ tp_mtariff I h (nI m) = nI k := by
  obtain ⟨k, k1, e1, e2⟩ := tm_tariff (tr_fx R (m := nI m))
  refine ⟨?_, k, k1, e2⟩
  unfold tp_tariff
  rw [tr_f R (by decide) hm]
  exact e1.trans e2.symm
theorem tr_due (R : tp_relH I e h a c) {m : Nat} (hm : m < 48) : tp_due I (14 + 15 * h) m = tp_mdue I h (nI m) ∧ ∃ k : Nat, k ≤ 174000 ∧ tp_mdue I h (nI m) = nI k := by
  obtain ⟨e1, k1, hk1, f1⟩ := tr_need R hm
  obtain ⟨e2, k2, hk2, f2⟩ := tr_taper R hm
  obtain ⟨e3, k3, hk3, f3⟩ := tr_tariff R hm
  have e4 := tr_f R (f := 4) (by decide) hm
  unfold tp_due tp_mdue
  rw [e1, e2, e3, e4, f1, f2, f3]
  have d1 : (nI k1 - nI k2).toInt = (k1 : Int) - k2 := pk_sub_toInt (by omega) (by omega)
  have d2 : (nI k1 - nI k2 - nI k3).toInt = (k1 : Int) - k2 - k3 := by
    rw [tm_sub (by rw [d1, nI_toInt (by omega)]; omega) (by rw [d1, nI_toInt (by omega)]; omega), d1, nI_toInt (by omega)]
  have c500 : (500 : Int32).toInt = 500 := rfl
  have e5 : tp_mfact I h (nI 4) (nI m) = tp_mfact I h 4 (nI m) := rfl
  rw [e5]
  by_cases h1 : nI k1 - nI k2 - nI k3 < 500
  · rw [if_pos h1, if_neg (show ¬ (500 : Int32) ≤ nI k1 - nI k2 - nI k3 from fun q => by rw [tm_lt] at h1; rw [tm_le] at q; omega), ite_self]
    exact ⟨rfl, 0, by decide, rfl⟩
  · rw [if_neg h1, if_pos (show (500 : Int32) ≤ nI k1 - nI k2 - nI k3 from by rw [tm_lt] at h1; rw [tm_le]; omega)]
    refine ⟨rfl, ?_⟩
    rw [tm_lt] at h1
    by_cases h2 : tp_mfact I h 4 (nI m) ≤ 1600000
    · rw [if_pos h2]
      exact tm_nat (by omega) (by omega) (by decide)
    · rw [if_neg h2]
      exact ⟨0, by decide, rfl⟩
theorem tr_sum (R : tp_relH I e h a c) {x : Nat} : ∀ k : Nat, x + k ≤ 48 → -(174000 * (k : Int)) ≤ (tp_sum (fun m => tp_mdue I h (nI m) - I 8 (48 * h + m)) x k).toInt ∧ (tp_sum (fun m => tp_mdue I h (nI m) - I 8 (48 * h + m)) x k).toInt ≤ 174000 * (k : Int)
  | 0, _ => by
    show _ ≤ (0 : Int32).toInt ∧ (0 : Int32).toInt ≤ _
    have : (0 : Int32).toInt = 0 := rfl
    omega
  | k + 1, hk => by
    obtain ⟨i1, i2⟩ := tr_sum R (x := x) k (by omega)
    obtain ⟨-, d, hd, ed⟩ := tr_due R (m := x + k) (by omega)
    obtain ⟨-, -, b1, b2⟩ := R.2.2.2.1 (x + k) (by omega)
    have t1 : (tp_mdue I h (nI (x + k))).toInt = d := by rw [ed, nI_toInt (by omega)]
    have t2 : (tp_mdue I h (nI (x + k)) - I 8 (48 * h + (x + k))).toInt = d - (I 8 (48 * h + (x + k))).toInt := by
      rw [tm_sub (by omega) (by omega), t1]
    show _ ≤ (tp_sum _ x k + (tp_mdue I h (nI (x + k)) - I 8 (48 * h + (x + k)))).toInt ∧ (tp_sum _ x k + (tp_mdue I h (nI (x + k)) - I 8 (48 * h + (x + k)))).toInt ≤ _
    rw [tm_add (by omega) (by omega), t2]
    omega
theorem tr_open (R : tp_relH I e h a c) {x y : Nat} (hy : y ≤ 48) : tp_open I (14 + 15 * h) x y = tp_mopen I h x y ∧ -8352000 ≤ (tp_mopen I h x y).toInt ∧ (tp_mopen I h x y).toInt ≤ 8352000 := by
  refine ⟨tp_sum_cong x _ (fun m h1 h2 => ?_), ?_⟩
  · rw [(tr_due R (by omega)).1, (R.2.2.2.1 m (by omega)).1]
  · unfold tp_mopen
    by_cases hxy : x ≤ y
    · obtain ⟨h1, h2⟩ := tr_sum R (x := x) (y - x) (by omega)
      omega
    · rw [show y - x = 0 by omega]
      exact ⟨by show _ ≤ (0 : Int32).toInt; decide, by show (0 : Int32).toInt ≤ _; decide⟩
end TPRel
