/-! CLASS AND LAW STAY TOGETHER -/
/-- a household that isn't there yet, in the law's arrays -/
def tq_fh (I : Nat → Nat → Int32) (h : Nat) : Prop := I 2 (6 + h) = 0 ∧ I 2 (8 + h) = 0 ∧ I 2 (10 + h) = 0 ∧ ∀ m, m < 48 → I (5 + h) m = 0 ∧ I (7 + h) m = 0
/-- household h of both: a its first month, k how many changes were told of it -/
def tq_H (I : Nat → Nat → Int32) (e c h a k : Nat) : Prop := tq_F I h c ∧ tq_B I h e a ∧ I (9 + 15 * h) 3 = nI a ∧ k ≤ c ∧ I (9 + 15 * h) 2 = nI k
def tq_rel (n : Nat) (I : Nat → Nat → Int32) : Prop :=
  n ≤ 2 ∧ I 0 1 = nI n ∧ I 2 1 = nI n ∧ ∃ (e c : Nat) (aF kF : Nat → Nat), (e ≤ 48 ∧ c ≤ 64 ∧ (n = 0 → e = 0) ∧ I 0 2 = nI e ∧ I 2 0 = nI e ∧ I 2 2 = nI c) ∧ (∀ j, j < c → ∃ g f r, g < n ∧ tq_row I j g f r) ∧ (∀ h, n ≤ h → h < 2 → tq_fh I h) ∧ ∀ h, h < n → tq_H I e c h (aF h) (kF h)
section TK
variable {I J : Nat → Nat → Int32} {e c h a k n : Nat}
theorem tq_fh_cong (R : tq_fh I h) (h6 : J 2 (6 + h) = I 2 (6 + h)) (h8 : J 2 (8 + h) = I 2 (8 + h)) (h10 : J 2 (10 + h) = I 2 (10 + h)) (h5 : J (5 + h) = I (5 + h)) (h7 : J (7 + h) = I (7 + h)) : tq_fh J h := by
  unfold tq_fh at R ⊢
  rw [h6, h8, h10, h5, h7]
  exact R
theorem tq_B_cong (B : tq_B I h e a) (h0 : J 2 0 = I 2 0) (h4 : J 2 (4 + h) = I 2 (4 + h)) (h6 : J 2 (6 + h) = I 2 (6 + h)) (h8 : J 2 (8 + h) = I 2 (8 + h)) (h10 : J 2 (10 + h) = I 2 (10 + h)) (h5 : J (5 + h) = I (5 + h)) (h7 : J (7 + h) = I (7 + h)) (b13 : J (9 + 15 * h + 13) = I (9 + 15 * h + 13)) (b14 : J (9 + 15 * h + 14) = I (9 + 15 * h + 14)) (b6 : J (9 + 15 * h) 6 = I (9 + 15 * h) 6) (b7 : J (9 + 15 * h) 7 = I (9 + 15 * h) 7) (b8 : J (9 + 15 * h) 8 = I (9 + 15 * h) 8) : tq_B J h e a := by
  unfold tq_B at B ⊢
  rw [h0, h4, h6, h8, h10, h5, h7, b13, b14, b6, b7, b8]
  exact B
theorem tq_row_cong {j g f r : Nat} (R : tq_row I j g f r) (h3 : J 3 j = I 3 j) (h4 : J 4 j = I 4 j) : tq_row J j g f r := by
  unfold tq_row at R ⊢
  rw [h3, h4]
  exact R
/-- a world that is another in other places alone -/
theorem tq_H_cong (R : tq_H I e c h a k) (h2 : ∀ j, (j = 0 ∨ j = 2 ∨ j = 4 + h ∨ j = 6 + h ∨ j = 8 + h ∨ j = 10 + h) → J 2 j = I 2 j) (h3 : J 3 = I 3) (h4 : J 4 = I 4) (h5 : J (5 + h) = I (5 + h)) (h7 : J (7 + h) = I (7 + h)) (hb : ∀ j, j < 15 → J (9 + 15 * h + j) = I (9 + 15 * h + j)) : tq_H J e c h a k := by
  obtain ⟨F, B, r3, rk, r2⟩ := R
  have hb0 : J (9 + 15 * h) = I (9 + 15 * h) := hb 0 (by decide)
  exact ⟨tq_F_cong F (h2 2 (by omega)) h3 h4 (fun j _ hj => hb j (by omega)), tq_B_cong B (h2 0 (by omega)) (h2 _ (by omega)) (h2 _ (by omega)) (h2 _ (by omega)) (h2 _ (by omega)) h5 h7 (hb 13 (by decide)) (hb 14 (by decide)) (by rw [hb0]) (by rw [hb0]) (by rw [hb0]), by rw [hb0]; exact r3, rk, by rw [hb0]; exact r2⟩
/-- what is reckoned rests on a household's own cells -/
theorem tq_all_cong {b : Nat} (hf : ∀ f, f < 5 → J (b + 2 + f) = I (b + 2 + f)) (h13 : J (b + 13) = I (b + 13)) (h6 : J b 6 = I b 6) (h8 : J b 8 = I b 8) : (∀ x y, tp_open J b x y = tp_open I b x y) ∧ (∀ x, tp_owed J b x = tp_owed I b x) ∧ (∀ m x, tp_rec J b m x = tp_rec I b m x) ∧ ∀ x y, tp_paym J b x y = tp_paym I b x y := by
  have hd : ∀ m, tp_due J b m = tp_due I b m := fun m => tp_due_cong hf
  have q1 : ∀ x y, tp_open J b x y = tp_open I b x y := fun x y => by
    unfold tp_open
    exact tp_sum_cong x _ (fun m _ _ => by rw [hd, h13])
  have q2 : ∀ x, tp_owed J b x = tp_owed I b x := fun x => by
    unfold tp_owed
    rw [h6]
  have q3 : ∀ m x, tp_rec J b m x = tp_rec I b m x := fun m x => by
    unfold tp_rec
    rw [h8, hd, hf 3 (by decide)]
  refine ⟨q1, q2, q3, fun x y => ?_⟩
  unfold tp_paym tp_arr
  rw [q1, q2, q3, hd, h6]
/-! A DISPUTE, MONEY PAID BACK -/
theorem tq_dispute (R : tq_rel n I) (hh : h < n) {v : Int32} (hv : v = 0 ∨ v = 1) : tq_rel n (tp_u (tp_u I (9 + 15 * h) 8 v) 2 (10 + h) v) := by
  obtain ⟨hn2, h01, h21, e, c, aF, kF, ⟨he, hc, hn0, h02, h20, h22⟩, RR, RF, RH⟩ := R
  have j2 : ∀ j, j ≠ 10 + h → tp_u (tp_u I (9 + 15 * h) 8 v) 2 (10 + h) v 2 j = I 2 j := fun j q => by rw [tp_u_n q, tp_u_oth (by omega)]
  have jb : ∀ j, j ≠ 8 → tp_u (tp_u I (9 + 15 * h) 8 v) 2 (10 + h) v (9 + 15 * h) j = I (9 + 15 * h) j := fun j q => by rw [tp_u_oth (by omega), tp_u_n q]
  have jo : ∀ k, k ≠ 2 → k ≠ 9 + 15 * h → tp_u (tp_u I (9 + 15 * h) 8 v) 2 (10 + h) v k = I k := fun k q1 q2 => by rw [tp_u_oth q1, tp_u_oth q2]
  have j10 : tp_u (tp_u I (9 + 15 * h) 8 v) 2 (10 + h) v 2 (10 + h) = v := tp_u_s
  have jb8 : tp_u (tp_u I (9 + 15 * h) 8 v) 2 (10 + h) v (9 + 15 * h) 8 = v := by rw [tp_u_oth (by omega), tp_u_s]
  generalize tp_u (tp_u I (9 + 15 * h) 8 v) 2 (10 + h) v = J at j2 jb jo j10 jb8 ⊢
  refine ⟨hn2, by rw [jo 0 (by omega) (by omega)]; exact h01, by rw [j2 1 (by omega)]; exact h21, e, c, aF, kF, ⟨he, hc, hn0, by rw [jo 0 (by omega) (by omega)]; exact h02, by rw [j2 0 (by omega)]; exact h20, by rw [j2 2 (by omega)]; exact h22⟩, fun j hj => ?_, fun i q1 q2 => ?_, fun i hi => ?_⟩
  · obtain ⟨g, f, r, q1, q2⟩ := RR j hj
    exact ⟨g, f, r, q1, tq_row_cong q2 (by rw [jo 3 (by omega) (by omega)]) (by rw [jo 4 (by omega) (by omega)])⟩
  · exact tq_fh_cong (RF i q1 q2) (j2 _ (by omega)) (j2 _ (by omega)) (j2 _ (by omega)) (jo _ (by omega) (by omega)) (jo _ (by omega) (by omega))
  · by_cases ei : i = h
    · subst ei
      obtain ⟨F, ⟨B1, B2, B6, B7, B8, B9, B10, B11⟩, r3, rk, r2⟩ := RH i hi
      refine ⟨tq_F_cong F (j2 2 (by omega)) (jo 3 (by omega) (by omega)) (jo 4 (by omega) (by omega)) (fun j q1 q2 => jo _ (by omega) (by omega)), ⟨⟨B1.1, B1.2.1, B1.2.2.1, by rw [j2 0 (by omega)]; exact B1.2.2.2.1, by rw [j2 _ (by omega)]; exact B1.2.2.2.2⟩, fun m hm => ?_, ?_, ?_, ?_, ?_, ?_, ?_⟩, by rw [jb 3 (by decide)]; exact r3, rk, by rw [jb 2 (by decide)]; exact r2⟩
      · rw [jo (9 + 15 * i + 13) (by omega) (by omega), jo (9 + 15 * i + 14) (by omega) (by omega), jo (5 + i) (by omega) (by omega), jo (7 + i) (by omega) (by omega)]
        exact B2 m hm
      · rw [jb 6 (by decide), j2 _ (by omega)]
        exact B6
      · rw [jb 7 (by decide), j2 _ (by omega)]
        exact B7
      · rw [jb8, j10]
      · rw [j10]
        exact hv
      · rw [j2 _ (by omega)]
        exact B10
      · rw [j2 _ (by omega)]
        exact B11
    · exact tq_H_cong (RH i hi) (fun j q => j2 j (by omega)) (jo 3 (by omega) (by omega)) (jo 4 (by omega) (by omega)) (jo _ (by omega) (by omega)) (jo _ (by omega) (by omega)) (fun j q => jo _ (by omega) (by omega))
/-- the debt's numbers anew: x less in it, y more recovered -/
theorem tq_debt (R : tq_rel n I) (hh : h < n) {x y p q : Int32} (hp : p = x) (hq : q = y) (h0 : 0 ≤ x.toInt) (h1 : x.toInt ≤ (I 2 (6 + h)).toInt) : tq_rel n (tp_u (tp_u (tp_u (tp_u I 2 (6 + h) x) 2 (8 + h) y) (9 + 15 * h) 6 p) (9 + 15 * h) 7 q) := by
  subst hp
  subst hq
  obtain ⟨hn2, h01, h21, e, c, aF, kF, ⟨he, hc, hn0, h02, h20, h22⟩, RR, RF, RH⟩ := R
  have j2 : ∀ j, j ≠ 6 + h → j ≠ 8 + h → tp_u (tp_u (tp_u (tp_u I 2 (6 + h) p) 2 (8 + h) q) (9 + 15 * h) 6 p) (9 + 15 * h) 7 q 2 j = I 2 j := fun j q1 q2 => by rw [tp_u_oth (by omega), tp_u_oth (by omega), tp_u_n q2, tp_u_n q1]
  have j6 : tp_u (tp_u (tp_u (tp_u I 2 (6 + h) p) 2 (8 + h) q) (9 + 15 * h) 6 p) (9 + 15 * h) 7 q 2 (6 + h) = p := by rw [tp_u_oth (by omega), tp_u_oth (by omega), tp_u_n (by omega), tp_u_s]
  have j8 : tp_u (tp_u (tp_u (tp_u I 2 (6 + h) p) 2 (8 + h) q) (9 + 15 * h) 6 p) (9 + 15 * h) 7 q 2 (8 + h) = q := by rw [tp_u_oth (by omega), tp_u_oth (by omega), tp_u_s]
  have jb : ∀ j, j ≠ 6 → j ≠ 7 → tp_u (tp_u (tp_u (tp_u I 2 (6 + h) p) 2 (8 + h) q) (9 + 15 * h) 6 p) (9 + 15 * h) 7 q (9 + 15 * h) j = I (9 + 15 * h) j := fun j q1 q2 => by rw [tp_u_n q2, tp_u_n q1, tp_u_oth (by omega), tp_u_oth (by omega)]
  have jb6 : tp_u (tp_u (tp_u (tp_u I 2 (6 + h) p) 2 (8 + h) q) (9 + 15 * h) 6 p) (9 + 15 * h) 7 q (9 + 15 * h) 6 = p := by rw [tp_u_n (by decide), tp_u_s]
  have jb7 : tp_u (tp_u (tp_u (tp_u I 2 (6 + h) p) 2 (8 + h) q) (9 + 15 * h) 6 p) (9 + 15 * h) 7 q (9 + 15 * h) 7 = q := tp_u_s
  have jo : ∀ k, k ≠ 2 → k ≠ 9 + 15 * h → tp_u (tp_u (tp_u (tp_u I 2 (6 + h) p) 2 (8 + h) q) (9 + 15 * h) 6 p) (9 + 15 * h) 7 q k = I k := fun k q1 q2 => by rw [tp_u_oth q2, tp_u_oth q2, tp_u_oth q1, tp_u_oth q1]
  generalize tp_u (tp_u (tp_u (tp_u I 2 (6 + h) p) 2 (8 + h) q) (9 + 15 * h) 6 p) (9 + 15 * h) 7 q = J at j2 j6 j8 jb jb6 jb7 jo ⊢
  refine ⟨hn2, by rw [jo 0 (by omega) (by omega)]; exact h01, by rw [j2 1 (by omega) (by omega)]; exact h21, e, c, aF, kF, ⟨he, hc, hn0, by rw [jo 0 (by omega) (by omega)]; exact h02, by rw [j2 0 (by omega) (by omega)]; exact h20, by rw [j2 2 (by omega) (by omega)]; exact h22⟩, fun j hj => ?_, fun i q1 q2 => ?_, fun i hi => ?_⟩
  · obtain ⟨g, f, r, q1, q2⟩ := RR j hj
    exact ⟨g, f, r, q1, tq_row_cong q2 (by rw [jo 3 (by omega) (by omega)]) (by rw [jo 4 (by omega) (by omega)])⟩
  · exact tq_fh_cong (RF i q1 q2) (j2 _ (by omega) (by omega)) (j2 _ (by omega) (by omega)) (j2 _ (by omega) (by omega)) (jo _ (by omega) (by omega)) (jo _ (by omega) (by omega))
  · by_cases ei : i = h
    · subst ei
      obtain ⟨F, ⟨B1, B2, B6, B7, B8, B9, B10, B11⟩, r3, rk, r2⟩ := RH i hi
      refine ⟨tq_F_cong F (j2 2 (by omega) (by omega)) (jo 3 (by omega) (by omega)) (jo 4 (by omega) (by omega)) (fun j q1 q2 => jo _ (by omega) (by omega)), ⟨⟨B1.1, B1.2.1, B1.2.2.1, by rw [j2 0 (by omega) (by omega)]; exact B1.2.2.2.1, by rw [j2 _ (by omega) (by omega)]; exact B1.2.2.2.2⟩, fun m hm => ?_, ?_, ?_, ?_, ?_, ?_, ?_⟩, by rw [jb 3 (by decide) (by decide)]; exact r3, rk, by rw [jb 2 (by decide) (by decide)]; exact r2⟩
      · rw [jo (9 + 15 * i + 13) (by omega) (by omega), jo (9 + 15 * i + 14) (by omega) (by omega), jo (5 + i) (by omega) (by omega), jo (7 + i) (by omega) (by omega)]
        exact B2 m hm
      · rw [jb6, j6]
      · rw [jb7, j8]
      · rw [jb 8 (by decide) (by decide), j2 _ (by omega) (by omega)]
        exact B8
      · rw [j2 _ (by omega) (by omega)]
        exact B9
      · rw [j6]
        exact h0
      · rw [j6]
        omega
    · exact tq_H_cong (RH i hi) (fun j q => j2 j (by omega) (by omega)) (jo 3 (by omega) (by omega)) (jo 4 (by omega) (by omega)) (jo _ (by omega) (by omega)) (jo _ (by omega) (by omega)) (fun j q => jo _ (by omega) (by omega))
/-- places of the law's numbers that the relation doesn't speak of, or that are as before -/
theorem tq_same (R : tq_rel n I) (h2 : ∀ j, (j ≠ 4 + n ∨ 2 ≤ n) → J 2 j = I 2 j) (ho : ∀ k, k ≠ 2 → J k = I k) : tq_rel n J := by
  obtain ⟨hn2, h01, h21, e, c, aF, kF, ⟨he, hc, hn0, h02, h20, h22⟩, RR, RF, RH⟩ := R
  refine ⟨hn2, by rw [ho 0 (by omega)]; exact h01, by rw [h2 1 (by omega)]; exact h21, e, c, aF, kF, ⟨he, hc, hn0, by rw [ho 0 (by omega)]; exact h02, by rw [h2 0 (by omega)]; exact h20, by rw [h2 2 (by omega)]; exact h22⟩, fun j hj => ?_, fun i q1 q2 => ?_, fun i hi => ?_⟩
  · obtain ⟨g, f, r, q1, q2⟩ := RR j hj
    exact ⟨g, f, r, q1, tq_row_cong q2 (by rw [ho 3 (by omega)]) (by rw [ho 4 (by omega)])⟩
  · exact tq_fh_cong (RF i q1 q2) (h2 _ (by omega)) (h2 _ (by omega)) (h2 _ (by omega)) (ho _ (by omega)) (ho _ (by omega))
  · exact tq_H_cong (RH i hi) (fun j q => h2 j (by omega)) (ho 3 (by omega)) (ho 4 (by omega)) (ho _ (by omega)) (ho _ (by omega)) (fun j q => ho _ (by omega))
end TK
/-! A CHANGE TOLD -/
theorem tm_first (P : Nat → Prop) (hP : ∀ m, P m ∨ ¬ P m) (r : Nat) : ∀ k, r + k = 48 → ∃ z, r ≤ z ∧ z ≤ 48 ∧ (∀ m, r ≤ m → m < z → P m) ∧ (z = 48 ∨ ¬ P z)
  | 0, hk => ⟨r, Nat.le_refl _, by omega, fun m a b => by omega, Or.inl (by omega)⟩
  | k + 1, hk => by
    obtain ⟨z, z1, z2, z3, z4⟩ := tm_first P hP (r + 1) k (by omega)
    rcases hP r with h | h
    · exact ⟨z, by omega, z2, fun m a b => by
        by_cases e : m = r
        · rw [e]
          exact h
        · exact z3 m (by omega) b, z4⟩
    · exact ⟨r, Nat.le_refl _, by omega, fun m a b => by omega, Or.inr h⟩
/-- the latest month that counts grows with the month asked -/
theorem tq_mono {I : Nat → Nat → Int32} {h f m m2 : Nat} (hmm : m ≤ m2) (hm : m2 < 48) : ∀ t : Nat, (tl_scan I h f m t).2.toInt ≤ (tl_scan I h f m2 t).2.toInt
  | 0 => Int.le_refl _
  | t + 1 => by
    have ih := tq_mono (I := I) (h := h) (f := f) hmm hm t
    have t1 : (nI m).toInt = m := nI_toInt (by omega)
    have t2 : (nI m2).toInt = m2 := nI_toInt (by omega)
    unfold tl_scan
    dsimp only
    generalize (tl_scan I h f m t).2 = x at ih ⊢
    generalize (tl_scan I h f m2 t).2 = y at ih ⊢
    have key : ∀ w : Int32, (if I 3 t / 16 ≤ w then w else I 3 t / 16).toInt = if (I 3 t / 16).toInt ≤ w.toInt then w.toInt else (I 3 t / 16).toInt := fun w => by
      by_cases q : I 3 t / 16 ≤ w
      · rw [if_pos q, if_pos (tm_le.mp q)]
      · rw [if_neg q, if_neg (fun z => q (tm_le.mpr z))]
    unfold tl_its
    by_cases h5 : I 3 t - I 3 t / 16 * 16 = nI (8 * h + f)
    · rw [if_pos h5, if_pos h5]
      by_cases p1 : nI m < I 3 t / 16
      · rw [if_pos p1, if_pos rfl]
        by_cases p2 : nI m2 < I 3 t / 16
        · rw [if_pos p2, if_pos rfl]
          exact ih
        · rw [if_neg p2, if_neg (show ¬ (1 : Int32) = 0 by decide), key]
          split <;> omega
      · rw [if_neg p1, if_neg (show ¬ nI m2 < I 3 t / 16 from fun q => by rw [tm_lt] at p1 q; omega), if_neg (show ¬ (1 : Int32) = 0 by decide), if_neg (show ¬ (1 : Int32) = 0 by decide), key, key]
        split <;> split <;> omega
    · rw [if_neg h5, if_neg h5, if_pos rfl, if_pos rfl]
      exact ih
theorem tm_z {x : Int32} {r : Nat} (hr : r ≤ 48) : tp_z x ≤ nI r ↔ ¬ nI r < x := by
  have t1 : (nI r).toInt = r := nI_toInt (by omega)
  have c0 : (0 : Int32).toInt = 0 := rfl
  have c1 : (-1 : Int32).toInt = -1 := rfl
  unfold tp_z
  by_cases h : x = -1
  · rw [if_pos h, h, tm_le, tm_lt]
    omega
  · rw [if_neg h, tm_le, tm_lt]
    omega
theorem tm_zr {r : Nat} (hr : r ≤ 48) : tp_z (nI r) = nI r := by
  refine if_neg (fun q => ?_)
  have t1 : (nI r).toInt = r := nI_toInt (by omega)
  rw [q] at t1
  have c1 : (-1 : Int32).toInt = -1 := rfl
  omega
def tp_updN (c : Nat → Nat) (h x : Nat) : Nat → Nat := fun j => if j = h then x else c j
/-- what the world holds behind a change told of household h -/
def tq_told (I J : Nat → Nat → Int32) (c h f r z : Nat) (v : Int32) : Prop :=
  J 2 2 = nI (c + 1) ∧ (∀ j, j ≠ 2 → J 2 j = I 2 j) ∧ J 3 = upd (I 3) c (nI (16 * r + 8 * h + f)) ∧ J 4 = upd (I 4) c v ∧ J (9 + 15 * h) = upd (I (9 + 15 * h)) 2 (I (9 + 15 * h) 2 + 1) ∧ (J (9 + 15 * h + 2 + f) = fun j => if r ≤ j ∧ j < z then v else I (9 + 15 * h + 2 + f) j) ∧ (J (9 + 15 * h + 8 + f) = fun j => if r ≤ j ∧ j < z then nI r else I (9 + 15 * h + 8 + f) j) ∧ ∀ k, k ≠ 2 → k ≠ 3 → k ≠ 4 → k ≠ 9 + 15 * h → k ≠ 9 + 15 * h + 2 + f → k ≠ 9 + 15 * h + 8 + f → J k = I k
theorem tq_told_of {I : Nat → Nat → Int32} {c h f r z : Nat} {v : Int32} (hf : f < 5) (hrz : r ≤ z) : tq_told I (tp_chg (tl_ent I c (16 * r + 8 * h + f) v) (9 + 15 * h) f r v (z - r)) c h f r z v := by
  have hz : r + (z - r) = z := by omega
  refine ⟨?_, fun j hj => ?_, ?_, ?_, ?_, ?_, ?_, fun k q2 q3 q4 qb qv qs => ?_⟩
  · unfold tp_chg
    rw [tp_fill_oth (by omega), tp_fill_oth (by omega), tp_u_oth (by omega)]
    exact tp_u_s
  · unfold tp_chg
    rw [tp_fill_oth (by omega), tp_fill_oth (by omega), tp_u_oth (by omega)]
    unfold tl_ent
    rw [tp_u_n hj, tp_u_oth (by decide), tp_u_oth (by decide)]
  · unfold tp_chg
    rw [tp_fill_oth (by omega), tp_fill_oth (by omega), tp_u_oth (by omega)]
    unfold tl_ent
    rw [tp_u_oth (by decide), tp_u_oth (by decide), tp_u_at]
  · unfold tp_chg
    rw [tp_fill_oth (by omega), tp_fill_oth (by omega), tp_u_oth (by omega)]
    unfold tl_ent
    rw [tp_u_oth (by decide), tp_u_at, tp_u_oth (by decide)]
  · unfold tp_chg
    rw [tp_fill_oth (by omega), tp_fill_oth (by omega), tp_u_at, tl_ent_oth (by omega) (by omega) (by omega)]
  · unfold tp_chg
    rw [tp_fill_oth (by omega), tp_fill_at, tp_u_oth (by omega), tl_ent_oth (by omega) (by omega) (by omega), hz]
  · unfold tp_chg
    rw [tp_fill_at, tp_fill_oth (by omega), tp_u_oth (by omega), tl_ent_oth (by omega) (by omega) (by omega), hz]
  · unfold tp_chg
    rw [tp_fill_oth qs, tp_fill_oth qv, tp_u_oth qb, tl_ent_oth q2 q3 q4]
theorem tq_tell {I J : Nat → Nat → Int32} {n e c h f r z : Nat} {v : Int32} {aF kF : Nat → Nat} (hn2 : n ≤ 2) (h01 : I 0 1 = nI n) (h21 : I 2 1 = nI n) (he : e ≤ 48) (hc : c < 64) (hn0 : n = 0 → e = 0) (h02 : I 0 2 = nI e) (h20 : I 2 0 = nI e) (RR : ∀ j, j < c → ∃ g f r, g < n ∧ tq_row I j g f r) (RF : ∀ h, n ≤ h → h < 2 → tq_fh I h) (RH : ∀ h, h < n → tq_H I e c h (aF h) (kF h))
    (hh : h < n) (hf : f < 5) (hr : r ≤ 48) (hv1 : ¬ v < tp_vl f) (hv2 : v ≤ tp_vm f) (z1 : r ≤ z) (z2 : z ≤ 48) (z3 : ∀ m, r ≤ m → m < z → I (9 + 15 * h + 8 + f) m ≤ nI r) (z4 : z = 48 ∨ ¬ I (9 + 15 * h + 8 + f) z ≤ nI r) (T : tq_told I J c h f r z v) : tq_rel n J := by
  obtain ⟨t22, t2, t3, t4, tb, tv, ts, to⟩ := T
  have f0 := to 0 (by omega) (by omega) (by omega) (by omega) (by omega) (by omega)
  have rowc : tq_row J c h f r := ⟨by omega, hf, hr, by rw [t3, pk_us], by rw [t4, pk_us]; exact hv1, by rw [t4, pk_us]; exact hv2⟩
  have old : ∀ j, j < c → J 3 j = I 3 j ∧ J 4 j = I 4 j := fun j hj => ⟨by rw [t3, pk_un (by omega)], by rw [t4, pk_un (by omega)]⟩
  have rows : ∀ j, j < c + 1 → ∃ g f r, g < n ∧ tq_row J j g f r := fun j hj => by
    by_cases ej : j = c
    · subst ej
      exact ⟨h, f, r, hh, rowc⟩
    · obtain ⟨g, f2, r2, q1, q2⟩ := RR j (by omega)
      exact ⟨g, f2, r2, q1, tq_row_cong q2 (old j (by omega)).1 (old j (by omega)).2⟩
  have sc : ∀ i f2 m, tl_scan J i f2 m c = tl_scan I i f2 m c := fun i f2 m => tl_scan_cong c old
  refine ⟨hn2, by rw [f0]; exact h01, by rw [t2 1 (by decide)]; exact h21, e, c + 1, aF, tp_updN kF h (kF h + 1), ⟨he, by omega, hn0, by rw [f0]; exact h02, by rw [t2 0 (by decide)]; exact h20, t22⟩, rows, fun i q1 q2 => tq_fh_cong (RF i q1 q2) (t2 _ (by omega)) (t2 _ (by omega)) (t2 _ (by omega)) (to _ (by omega) (by omega) (by omega) (by omega) (by omega) (by omega)) (to _ (by omega) (by omega) (by omega) (by omega) (by omega) (by omega)), fun i hi => ?_⟩
  obtain ⟨F, B, r3, rk, r2⟩ := RH i hi
  have B5 := to (5 + i) (by omega) (by omega) (by omega) (by omega) (by omega) (by omega)
  have B7 := to (7 + i) (by omega) (by omega) (by omega) (by omega) (by omega) (by omega)
  have B13 : J (9 + 15 * i + 13) = I (9 + 15 * i + 13) := to _ (by omega) (by omega) (by omega) (by omega) (by omega) (by omega)
  have B14 : J (9 + 15 * i + 14) = I (9 + 15 * i + 14) := to _ (by omega) (by omega) (by omega) (by omega) (by omega) (by omega)
  have rows2 : ∀ j, j < c + 1 → ∃ g f r, tq_row J j g f r := fun j hj => by
    obtain ⟨g, f2, r2, -, q⟩ := rows j hj
    exact ⟨g, f2, r2, q⟩
  by_cases ei : i = h
  · subst ei
    rw [show tp_updN kF i (kF i + 1) i = kF i + 1 from if_pos rfl]
    have bb : ∀ j, j ≠ 2 → J (9 + 15 * i) j = I (9 + 15 * i) j := fun j q => by rw [tb, pk_un q]
    refine ⟨⟨⟨by omega, by omega, t22⟩, rows2, fun f2 hf2 m hm => ?_⟩, tq_B_cong B (t2 0 (by decide)) (t2 _ (by omega)) (t2 _ (by omega)) (t2 _ (by omega)) (t2 _ (by omega)) B5 B7 B13 B14 (bb 6 (by decide)) (bb 7 (by decide)) (bb 8 (by decide)), by rw [bb 3 (by decide)]; exact r3, by omega, ?_⟩
    · obtain ⟨s1, s2⟩ := F.2.2 f2 hf2 m hm
      obtain ⟨i1, i2⟩ := tq_its rowc (h := i) (f0 := f2) (m := m) (by omega) hf2 hm
      unfold tl_scan
      dsimp only
      rw [sc, i1, i2, (show J 4 c = v by rw [t4, pk_us])]
      by_cases ef : f2 = f
      · subst ef
        rw [tv, ts]
        dsimp only
        by_cases hm1 : r ≤ m
        · rw [if_pos (show i = i ∧ f2 = f2 ∧ r ≤ m from ⟨rfl, rfl, hm1⟩), if_neg (show ¬ (1 : Int32) = 0 by decide), if_neg (show ¬ (1 : Int32) = 0 by decide)]
          by_cases hm2 : m < z
          · have q := z3 m hm1 hm2
            rw [s2, tm_z hr] at q
            rw [if_pos (show r ≤ m ∧ m < z from ⟨hm1, hm2⟩), if_pos (show r ≤ m ∧ m < z from ⟨hm1, hm2⟩), if_neg q]
            refine ⟨rfl, ?_⟩
            by_cases q2 : nI r ≤ (tl_scan I i f2 m c).2
            · rw [if_pos q2, show (tl_scan I i f2 m c).2 = nI r from Int32.toInt_inj.mp (by rw [tm_lt] at q; rw [tm_le] at q2; omega), tm_zr hr]
            · rw [if_neg q2, tm_zr hr]
          · have hz : ¬ I (9 + 15 * i + 8 + f2) z ≤ nI r := z4.resolve_left (by omega)
            rw [(F.2.2 f2 hf2 z (by omega)).2, tm_z hr] at hz
            have hz := Decidable.of_not_not hz
            have hmo := tq_mono (I := I) (h := i) (f := f2) (m := z) (m2 := m) (by omega) hm c
            have q : nI r < (tl_scan I i f2 m c).2 := by rw [tm_lt] at hz ⊢; omega
            rw [if_neg (show ¬ (r ≤ m ∧ m < z) from fun w => hm2 w.2), if_neg (show ¬ (r ≤ m ∧ m < z) from fun w => hm2 w.2), if_pos q, if_pos (show nI r ≤ (tl_scan I i f2 m c).2 by rw [tm_lt] at q; rw [tm_le]; omega)]
            exact ⟨s1, s2⟩
        · rw [if_neg (show ¬ (i = i ∧ f2 = f2 ∧ r ≤ m) from fun w => hm1 w.2.2), if_pos rfl, if_pos rfl, if_neg (show ¬ (r ≤ m ∧ m < z) from fun w => hm1 w.1), if_neg (show ¬ (r ≤ m ∧ m < z) from fun w => hm1 w.1)]
          exact ⟨s1, s2⟩
      · rw [if_neg (show ¬ (i = i ∧ f = f2 ∧ r ≤ m) from fun w => ef w.2.1.symm), if_pos rfl, if_pos rfl, to (9 + 15 * i + 2 + f2) (by omega) (by omega) (by omega) (by omega) (by omega) (by omega), to (9 + 15 * i + 8 + f2) (by omega) (by omega) (by omega) (by omega) (by omega) (by omega)]
        exact ⟨s1, s2⟩
    · rw [tb, pk_us, r2]
      exact nI_1 _
  · rw [show tp_updN kF h (kF h + 1) i = kF i from if_neg ei]
    have bb : J (9 + 15 * i) = I (9 + 15 * i) := to _ (by omega) (by omega) (by omega) (by omega) (by omega) (by omega)
    refine ⟨⟨⟨by omega, by omega, t22⟩, rows2, fun f2 hf2 m hm => ?_⟩, tq_B_cong B (t2 0 (by decide)) (t2 _ (by omega)) (t2 _ (by omega)) (t2 _ (by omega)) (t2 _ (by omega)) B5 B7 B13 B14 (by rw [bb]) (by rw [bb]) (by rw [bb]), by rw [bb]; exact r3, by omega, by rw [bb]; exact r2⟩
    obtain ⟨i1, i2⟩ := tq_its rowc (h := i) (f0 := f2) (m := m) (by omega) hf2 hm
    unfold tl_scan
    dsimp only
    rw [sc, i1, if_neg (show ¬ (h = i ∧ f = f2 ∧ r ≤ m) from fun w => ei w.1.symm), if_pos rfl, if_pos rfl, to (9 + 15 * i + 2 + f2) (by omega) (by omega) (by omega) (by omega) (by omega) (by omega), to (9 + 15 * i + 8 + f2) (by omega) (by omega) (by omega) (by omega) (by omega) (by omega)]
    exact F.2.2 f2 hf2 m hm
