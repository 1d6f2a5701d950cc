/-! CLOSING, AND ADDING -/
section TCL
variable {I J K : Nat → Nat → Int32} {e c h a k n : Nat}
theorem tl_cls_oth (q : k ≠ 2) (q2 : k ≠ 7 + h) (q3 : k ≠ 5 + h) : tl_cls I h a e k = I k := by
  unfold tl_cls
  exact tl_Jt_oth q q2 q3
theorem tl_cls_n {j : Nat} (q : j ≠ 6 + h) (q2 : j ≠ 8 + h) : tl_cls I h a e 2 j = I 2 j := by
  unfold tl_cls
  exact tl_Jt_n q q2
theorem tl_cls_6 : tl_cls I h a e 2 (6 + h) = tp_owed I (9 + 15 * h) (tp_open I (9 + 15 * h) a e) - tp_rec I (9 + 15 * h) e (tp_owed I (9 + 15 * h) (tp_open I (9 + 15 * h) a e)) := by
  unfold tl_cls tl_J3 tl_J2
  rw [tp_fill_oth (by omega), tp_u_oth (by omega), tp_u_n (by omega), tp_u_s]
theorem tl_cls_8 : tl_cls I h a e 2 (8 + h) = I 2 (8 + h) + tp_rec I (9 + 15 * h) e (tp_owed I (9 + 15 * h) (tp_open I (9 + 15 * h) a e)) := by
  unfold tl_cls tl_J3 tl_J2
  rw [tp_fill_oth (by omega), tp_u_oth (by omega), tp_u_s]
theorem tl_cls_5 {m : Nat} : tl_cls I h a e (5 + h) m = if a ≤ m ∧ m < a + (e + 1 - a) then tp_due I (9 + 15 * h) (a + (m - a)) else I (5 + h) m := by
  unfold tl_cls tl_J3
  rw [tp_fill_at, tp_u_oth (by omega), tl_J2_oth (by omega)]
theorem tl_cls_7 : tl_cls I h a e (7 + h) = upd (I (7 + h)) e (tp_paym I (9 + 15 * h) a e) := by
  unfold tl_cls tl_J3
  rw [tp_fill_oth (by omega), tp_u_at, tl_J2_oth (by omega)]
/-- a household closed in both -/
theorem tq_closed (F : tq_F I h c) (B : tq_B I h e a) (he : e < 48) (l0 : J 2 0 = nI (e + 1)) (l4 : J 2 (4 + h) = I 2 (4 + h)) (l10 : J 2 (10 + h) = I 2 (10 + h)) (l6 : J 2 (6 + h) = tl_cls I h a e 2 (6 + h)) (l8 : J 2 (8 + h) = tl_cls I h a e 2 (8 + h)) (l5 : J (5 + h) = tl_cls I h a e (5 + h)) (l7 : J (7 + h) = tl_cls I h a e (7 + h))
    (hJ : ∀ d, d < 15 → J (9 + 15 * h + d) = tp_settle K (9 + 15 * h) a e (9 + 15 * h + d)) (hK : ∀ d, d < 15 → K (9 + 15 * h + d) = I (9 + 15 * h + d)) : tq_B J h (e + 1) a := by
  obtain ⟨o3, o4⟩ := tq_open F B
  obtain ⟨⟨hh, ha, he8, h0, h4⟩, hm, h6, h7, h8, h01, hd0, hdm⟩ := id B
  have K0 : K (9 + 15 * h) = I (9 + 15 * h) := hK 0 (by decide)
  have J0 : J (9 + 15 * h) = tp_settle K (9 + 15 * h) a e (9 + 15 * h) := hJ 0 (by decide)
  obtain ⟨k1, k2, k3, k4⟩ := tq_all_cong (I := I) (J := K) (b := 9 + 15 * h) (fun f hf => by rw [Nat.add_assoc]; exact hK (2 + f) (by omega)) (hK 13 (by decide)) (by rw [K0]) (by rw [K0])
  have kd : ∀ m, tp_due K (9 + 15 * h) m = tp_due I (9 + 15 * h) m := fun m => tp_due_cong (fun f hf => by rw [Nat.add_assoc]; exact hK (2 + f) (by omega))
  have sb : ∀ j, j ≠ 6 → j ≠ 7 → J (9 + 15 * h) j = I (9 + 15 * h) j := fun j q6 q7 => by
    rw [J0]
    unfold tp_settle
    rw [tp_u_oth (by omega), tp_fill_oth (by omega), tp_u_n q7, tp_u_n q6, tp_u_n q6, K0]
  have ow : tp_owed I (9 + 15 * h) (tp_open I (9 + 15 * h) a e) = tp_pos (I 2 (6 + h) - tp_open I (9 + 15 * h) a e) := by
    unfold tp_owed
    rw [h6]
  obtain ⟨-, -, -, w1, w2⟩ := tn_owed hd0 (by omega) o3 o4
  rw [← ow] at w1 w2
  obtain ⟨kd1, hk1, ek1⟩ := tq_dueN F he
  have rb : 0 ≤ (tp_rec I (9 + 15 * h) e (tp_owed I (9 + 15 * h) (tp_open I (9 + 15 * h) a e))).toInt ∧ (tp_rec I (9 + 15 * h) e (tp_owed I (9 + 15 * h) (tp_open I (9 + 15 * h) a e))).toInt ≤ (tp_owed I (9 + 15 * h) (tp_open I (9 + 15 * h) a e)).toInt := by
    have c0 : (0 : Int32).toInt = 0 := rfl
    unfold tp_rec
    by_cases q : I (9 + 15 * h) 8 = 0
    · rw [if_pos q]
      exact (tn_rec w1 (by rw [ek1]; exact (tn_15 hk1).2)).2.2
    · rw [if_neg q]
      omega
  refine ⟨⟨hh, by omega, by omega, l0, by rw [l4]; exact h4⟩, fun m hm48 => ?_, ?_, ?_, ?_, ?_, ?_, ?_⟩
  · obtain ⟨m1, m2, m3, m4⟩ := hm m hm48
    obtain ⟨kd2, hk2, ek2⟩ := tq_dueN F hm48
    rw [hJ 13 (by decide), hJ 14 (by decide), l5, l7, tl_cls_5, tl_cls_7]
    refine ⟨?_, ?_, ?_⟩
    · unfold tp_settle
      rw [tp_u_oth (by omega), tp_fill_at]
      dsimp only
      by_cases q : a ≤ m ∧ m < a + (e + 1 - a)
      · rw [if_pos q, if_pos q, kd]
      · rw [if_neg q, if_neg q, tp_u_oth (by omega), tp_u_oth (by omega), tp_u_oth (by omega), hK 13 (by decide), m1]
    · unfold tp_settle
      by_cases q : m = e
      · subst q
        rw [tp_u_s, pk_us, k4]
      · rw [tp_u_n q, pk_un q, tp_fill_oth (by omega), tp_u_oth (by omega), tp_u_oth (by omega), tp_u_oth (by omega), hK 14 (by decide), m2]
    · by_cases q : a ≤ m ∧ m < a + (e + 1 - a)
      · rw [if_pos q, show a + (m - a) = m by omega, ek2, nI_toInt (by omega)]
        omega
      · rw [if_neg q]
        exact ⟨m3, m4⟩
  · rw [l6, tl_cls_6, J0]
    unfold tp_settle
    rw [tp_u_oth (by omega), tp_fill_oth (by omega), tp_u_n (by decide), tp_u_s, k1, k2, k3]
  · rw [l8, tl_cls_8, J0]
    unfold tp_settle
    rw [tp_u_oth (by omega), tp_fill_oth (by omega), tp_u_s, k1, k2, k3, K0, h7]
  · rw [l10, sb 8 (by decide) (by decide)]
    exact h8
  · rw [l10]
    exact h01
  · rw [l6, tl_cls_6, tm_sub (by omega) (by omega)]
    omega
  · rw [l6, tl_cls_6, tm_sub (by omega) (by omega)]
    omega
theorem tc_oth {aF : Nat → Nat} : ∀ k, (∀ j, j < k → c ≠ 9 + 15 * j ∧ c ≠ 9 + 15 * j + 13 ∧ c ≠ 9 + 15 * j + 14) → tp_ost I aF e k c = I c
  | 0, _ => rfl
  | k + 1, h => by
    show tp_settle (tp_ost I aF e k) (9 + 15 * k) (aF k) e c = I c
    obtain ⟨h0, h1, h2⟩ := h k (by omega)
    rw [tp_settle_oth h0 h1 h2]
    exact tc_oth k (fun j hj => h j (by omega))
theorem tc_at {aF : Nat → Nat} {d : Nat} (hd : d < 15) : ∀ k, h < k → tp_ost I aF e k (9 + 15 * h + d) = tp_settle (tp_ost I aF e h) (9 + 15 * h) (aF h) e (9 + 15 * h + d)
  | 0, hk => by omega
  | k + 1, hk => by
    by_cases ek : h = k
    · subst ek
      rfl
    · show tp_settle (tp_ost I aF e k) (9 + 15 * k) (aF k) e (9 + 15 * h + d) = _
      rw [tp_settle_oth (by omega) (by omega) (by omega)]
      exact tc_at hd k (by omega)
/-- the law's numbers behind its own closing -/
def tl_all (I : Nat → Nat → Int32) (aF : Nat → Nat) (e : Nat) : Nat → Nat → Nat → Int32
  | 0 => I
  | k + 1 => tl_cls (tl_all I aF e k) k (aF k) e
def tl_sum (I : Nat → Nat → Int32) (aF : Nat → Nat) (e : Nat) : Nat → Int32
  | 0 => 0
  | k + 1 => tl_sum I aF e k + tp_paym (tl_all I aF e k) (9 + 15 * k) (aF k) e
theorem tl_all_oth {aF : Nat → Nat} {j : Nat} (hj : j ≠ 2) (hj2 : j < 5 ∨ 9 ≤ j) : ∀ k, k ≤ 2 → tl_all I aF e k j = I j
  | 0, _ => rfl
  | k + 1, hk => by
    show tl_cls (tl_all I aF e k) k (aF k) e j = I j
    rw [tl_cls_oth hj (by omega) (by omega)]
    exact tl_all_oth hj hj2 k (by omega)
theorem tl_all_n {aF : Nat → Nat} {j : Nat} (hj : j < 6 ∨ 10 ≤ j) : ∀ k, k ≤ 2 → tl_all I aF e k 2 j = I 2 j
  | 0, _ => rfl
  | k + 1, hk => by
    show tl_cls (tl_all I aF e k) k (aF k) e 2 j = I 2 j
    rw [tl_cls_n (by omega) (by omega)]
    exact tl_all_n hj k (by omega)
/-- a household's own places: before its turn -/
theorem tl_all_lo {aF : Nat → Nat} : ∀ k, k ≤ h → h < 2 → tl_all I aF e k 2 (6 + h) = I 2 (6 + h) ∧ tl_all I aF e k 2 (8 + h) = I 2 (8 + h) ∧ tl_all I aF e k (5 + h) = I (5 + h) ∧ tl_all I aF e k (7 + h) = I (7 + h)
  | 0, _, _ => ⟨rfl, rfl, rfl, rfl⟩
  | k + 1, hk, hh => by
    obtain ⟨q1, q2, q3, q4⟩ := tl_all_lo (aF := aF) k (by omega) hh
    refine ⟨?_, ?_, ?_, ?_⟩
    · show tl_cls (tl_all I aF e k) k (aF k) e 2 (6 + h) = _
      rw [tl_cls_n (by omega) (by omega)]
      exact q1
    · show tl_cls (tl_all I aF e k) k (aF k) e 2 (8 + h) = _
      rw [tl_cls_n (by omega) (by omega)]
      exact q2
    · show tl_cls (tl_all I aF e k) k (aF k) e (5 + h) = _
      rw [tl_cls_oth (by omega) (by omega) (by omega)]
      exact q3
    · show tl_cls (tl_all I aF e k) k (aF k) e (7 + h) = _
      rw [tl_cls_oth (by omega) (by omega) (by omega)]
      exact q4
/-- and behind it -/
theorem tl_all_hi {aF : Nat → Nat} : ∀ k, h < k → k ≤ 2 → tl_all I aF e k 2 (6 + h) = tl_cls (tl_all I aF e h) h (aF h) e 2 (6 + h) ∧ tl_all I aF e k 2 (8 + h) = tl_cls (tl_all I aF e h) h (aF h) e 2 (8 + h) ∧ tl_all I aF e k (5 + h) = tl_cls (tl_all I aF e h) h (aF h) e (5 + h) ∧ tl_all I aF e k (7 + h) = tl_cls (tl_all I aF e h) h (aF h) e (7 + h)
  | 0, hk, _ => by omega
  | k + 1, hk, hh => by
    by_cases ek : h = k
    · subst ek
      exact ⟨rfl, rfl, rfl, rfl⟩
    · obtain ⟨q1, q2, q3, q4⟩ := tl_all_hi (aF := aF) k (by omega) (by omega)
      refine ⟨?_, ?_, ?_, ?_⟩
      · show tl_cls (tl_all I aF e k) k (aF k) e 2 (6 + h) = _
        rw [tl_cls_n (by omega) (by omega)]
        exact q1
      · show tl_cls (tl_all I aF e k) k (aF k) e 2 (8 + h) = _
        rw [tl_cls_n (by omega) (by omega)]
        exact q2
      · show tl_cls (tl_all I aF e k) k (aF k) e (5 + h) = _
        rw [tl_cls_oth (by omega) (by omega) (by omega)]
        exact q3
      · show tl_cls (tl_all I aF e k) k (aF k) e (7 + h) = _
        rw [tl_cls_oth (by omega) (by omega) (by omega)]
        exact q4
/-- the household that the law closes next, as it stood -/
theorem tl_all_H {aF : Nat → Nat} (R : tq_H I e c h a k) (hh : h < 2) : tq_H (tl_all I aF e h) e c h a k := by
  obtain ⟨q1, q2, q3, q4⟩ := tl_all_lo (I := I) (e := e) (aF := aF) h (Nat.le_refl _) hh
  exact tq_H_cong R (fun j q => by
    rcases q with rfl | rfl | rfl | rfl | rfl | rfl
    · exact tl_all_n (by omega) h (by omega)
    · exact tl_all_n (by omega) h (by omega)
    · exact tl_all_n (by omega) h (by omega)
    · exact q1
    · exact q2
    · exact tl_all_n (by omega) h (by omega)) (tl_all_oth (by omega) (by omega) h (by omega)) (tl_all_oth (by omega) (by omega) h (by omega)) q3 q4 (fun j q => tl_all_oth (by omega) (by omega) h (by omega))
/-- all closed: I3 the numbers before the class closes -/
theorem tq_close {aF kF : Nat → Nat} (hn2 : n ≤ 2) (h01 : I 0 1 = nI n) (h21 : I 2 1 = nI n) (he : e < 48) (hc : c ≤ 64) (hn : 0 < n) (h22 : I 2 2 = nI c) (RR : ∀ j, j < c → ∃ g f r, g < n ∧ tq_row I j g f r) (RF : ∀ h, n ≤ h → h < 2 → tq_fh I h) (RH : ∀ h, h < n → tq_H I e c h (aF h) (kF h)) :
    tp_osum (tp_u (tl_all I aF e n) 2 0 (nI (e + 1))) aF e n = tl_sum I aF e n ∧ tq_rel n (tp_u (tp_ost (tp_u (tl_all I aF e n) 2 0 (nI (e + 1))) aF e n) 0 2 (nI (e + 1))) := by
  generalize hI3 : tp_u (tl_all I aF e n) 2 0 (nI (e + 1)) = I3
  have i20 : I3 2 0 = nI (e + 1) := by rw [← hI3]; exact tp_u_s
  have i2n : ∀ j, j ≠ 0 → I3 2 j = tl_all I aF e n 2 j := fun j q => by rw [← hI3, tp_u_n q]
  have i2o : ∀ j, j ≠ 2 → I3 j = tl_all I aF e n j := fun j q => by rw [← hI3, tp_u_oth q]
  have ib : ∀ h d, I3 (9 + 15 * h + d) = I (9 + 15 * h + d) := fun h d => by rw [i2o _ (by omega)]; exact tl_all_oth (by omega) (by omega) n hn2
  have kb : ∀ h k d, k ≤ h → d < 15 → tp_ost I3 aF e k (9 + 15 * h + d) = I (9 + 15 * h + d) := fun h k d hk hd => by rw [tc_oth k (fun j hj => by omega)]; exact ib h d
  have pay : ∀ h, h < n → tp_paym (tp_ost I3 aF e h) (9 + 15 * h) (aF h) e = tp_paym (tl_all I aF e h) (9 + 15 * h) (aF h) e := fun h hh => by
    have a0 : ∀ d, d < 15 → tp_ost I3 aF e h (9 + 15 * h + d) = tl_all I aF e h (9 + 15 * h + d) := fun d hd => by rw [kb h h d (Nat.le_refl _) hd, tl_all_oth (by omega) (by omega) h (by omega)]
    exact (tq_all_cong (fun f hf => by rw [Nat.add_assoc]; exact a0 (2 + f) (by omega)) (a0 13 (by decide)) (by rw [show tp_ost I3 aF e h (9 + 15 * h) = tl_all I aF e h (9 + 15 * h) from a0 0 (by decide)]) (by rw [show tp_ost I3 aF e h (9 + 15 * h) = tl_all I aF e h (9 + 15 * h) from a0 0 (by decide)])).2.2.2 _ _
  refine ⟨?_, ?_⟩
  · have key : ∀ k, k ≤ n → tp_osum I3 aF e k = tl_sum I aF e k := by
      intro k
      induction k with
      | zero => intro _; rfl
      | succ k ih =>
        intro hk
        show tp_osum I3 aF e k + tp_paym (tp_ost I3 aF e k) (9 + 15 * k) (aF k) e = tl_sum I aF e k + tp_paym (tl_all I aF e k) (9 + 15 * k) (aF k) e
        rw [ih (by omega), pay k (by omega)]
    exact key n (Nat.le_refl _)
  · generalize hJ : tp_u (tp_ost I3 aF e n) 0 2 (nI (e + 1)) = J
    have j0 : ∀ c, c ≠ 0 → J c = tp_ost I3 aF e n c := fun c q => by rw [← hJ, tp_u_oth q]
    have jl : ∀ c, 0 < c → c < 9 → J c = I3 c := fun c q1 q2 => by rw [j0 c (by omega), tc_oth n (fun j hj => by omega)]
    have j2 : ∀ j, j ≠ 0 → J 2 j = tl_all I aF e n 2 j := fun j q => by rw [jl 2 (by omega) (by omega), i2n j q]
    have j20 : J 2 0 = nI (e + 1) := by rw [jl 2 (by omega) (by omega), i20]
    have jz : J 0 = upd (I 0) 2 (nI (e + 1)) := by rw [← hJ, tp_u_at, tc_oth n (fun j hj => by omega), i2o 0 (by omega), tl_all_oth (by omega) (by omega) n hn2]
    have j3 : J 3 = I 3 := by rw [jl 3 (by omega) (by omega), i2o 3 (by omega), tl_all_oth (by omega) (by omega) n hn2]
    have j4 : J 4 = I 4 := by rw [jl 4 (by omega) (by omega), i2o 4 (by omega), tl_all_oth (by omega) (by omega) n hn2]
    have j22 : J 2 2 = nI c := by rw [j2 2 (by omega), tl_all_n (by omega) n hn2]; exact h22
    refine ⟨hn2, by rw [jz, pk_un (by decide)]; exact h01, by rw [j2 1 (by omega), tl_all_n (by omega) n hn2]; exact h21, e + 1, c, aF, kF, ⟨by omega, hc, by omega, by rw [jz, pk_us], j20, j22⟩, fun j hj => ?_, fun h q1 q2 => ?_, fun h hh => ?_⟩
    · obtain ⟨g, f, r, q1, q2⟩ := RR j hj
      exact ⟨g, f, r, q1, tq_row_cong q2 (by rw [j3]) (by rw [j4])⟩
    · obtain ⟨w1, w2, w3, w4⟩ := tl_all_lo (I := I) (e := e) (aF := aF) n q1 q2
      exact tq_fh_cong (RF h q1 q2) (by rw [j2 _ (by omega), w1]) (by rw [j2 _ (by omega), w2]) (by rw [j2 _ (by omega), tl_all_n (by omega) n hn2]) (by rw [jl _ (by omega) (by omega), i2o _ (by omega), w3]) (by rw [jl _ (by omega) (by omega), i2o _ (by omega), w4])
    · obtain ⟨F, B, r3, rk, r2⟩ := RH h hh
      obtain ⟨F1, B1, -, -, -⟩ := tl_all_H (aF := aF) (RH h hh) (by omega)
      obtain ⟨w1, w2, w3, w4⟩ := tl_all_hi (I := I) (e := e) (aF := aF) n hh hn2
      have jd : ∀ d, d < 15 → J (9 + 15 * h + d) = tp_settle (tp_ost I3 aF e h) (9 + 15 * h) (aF h) e (9 + 15 * h + d) := fun d hd => by rw [j0 _ (by omega), tc_at hd n hh]
      have kd : ∀ d, d < 15 → tp_ost I3 aF e h (9 + 15 * h + d) = tl_all I aF e h (9 + 15 * h + d) := fun d hd => by rw [kb h h d (Nat.le_refl _) hd, tl_all_oth (by omega) (by omega) h (by omega)]
      have jo : ∀ d, 0 < d → d < 13 → J (9 + 15 * h + d) = I (9 + 15 * h + d) := fun d q1 q2 => by rw [jd d (by omega), tp_settle_oth (by omega) (by omega) (by omega), kb h h d (Nat.le_refl _) (by omega)]
      have jb : ∀ j, j ≠ 6 → j ≠ 7 → J (9 + 15 * h) j = I (9 + 15 * h) j := fun j q6 q7 => by
        rw [show J (9 + 15 * h) = tp_settle (tp_ost I3 aF e h) (9 + 15 * h) (aF h) e (9 + 15 * h) from jd 0 (by decide)]
        unfold tp_settle
        rw [tp_u_oth (by omega), tp_fill_oth (by omega), tp_u_n q7, tp_u_n q6, tp_u_n q6, show tp_ost I3 aF e h (9 + 15 * h) = I (9 + 15 * h) from kb h h 0 (Nat.le_refl _) (by decide)]
      refine ⟨tq_F_cong F (by rw [j22, h22]) j3 j4 jo, tq_closed (K := tp_ost I3 aF e h) F1 B1 he j20 ?_ ?_ (by rw [j2 _ (by omega), w1]) (by rw [j2 _ (by omega), w2]) (by rw [jl _ (by omega) (by omega), i2o _ (by omega), w3]) (by rw [jl _ (by omega) (by omega), i2o _ (by omega), w4]) jd kd, by rw [jb 3 (by decide) (by decide)]; exact r3, rk, by rw [jb 2 (by decide) (by decide)]; exact r2⟩
      · rw [j2 _ (by omega), tl_all_n (by omega) n hn2, tl_all_n (by omega) h (by omega)]
      · rw [j2 _ (by omega), tl_all_n (by omega) n hn2, tl_all_n (by omega) h (by omega)]
/-- no change told of it: a fact's first value -/
theorem tq_none {f m : Nat} (hh : h < 2) (hf : f < 5) (hm : m < 48) (RR : ∀ j, j < c → ∃ g f r, g < h ∧ tq_row I j g f r) : ∀ t, t ≤ c → tl_scan I h f m t = (tl_v0 f, -1)
  | 0, _ => rfl
  | t + 1, ht => by
    obtain ⟨g, f2, r, q1, q2⟩ := RR t (by omega)
    obtain ⟨i1, -⟩ := tq_its q2 hh hf hm
    unfold tl_scan
    rw [tq_none hh hf hm RR t (by omega), i1, if_neg (show ¬ (g = h ∧ f2 = f ∧ r ≤ m) from fun w => by omega), if_pos rfl, if_pos rfl]
/-- a household added -/
theorem tq_add (R : tq_rel n I) (hn : n < 2) (h02' : I 0 2 = nI e) (he0 : e < 48) : tq_rel (n + 1) (tp_u (tp_gI n (tp_u (tp_u I 2 (4 + n) (nI e)) 2 1 (nI (n + 1))) (nI e)) 0 1 (nI (n + 1))) := by
  obtain ⟨hn2, h01, h21, e1, c, aF, kF, ⟨he, hc, hn0, h02, h20, h22⟩, RR, RF, RH⟩ := R
  obtain rfl : e1 = e := tp_nIj (h02.symm.trans h02') (by omega) (by omega)
  generalize hJ : tp_u (tp_gI n (tp_u (tp_u I 2 (4 + n) (nI e1)) 2 1 (nI (n + 1))) (nI e1)) 0 1 (nI (n + 1)) = J
  have j0 : J 0 = upd (I 0) 1 (nI (n + 1)) := by rw [← hJ, tp_u_at, tp_gI_lo (by omega), tp_u_oth (by omega), tp_u_oth (by omega)]
  have jl : ∀ c, c ≠ 0 → c ≠ 2 → c < 9 + 15 * n → J c = I c := fun c q0 q2 q => by rw [← hJ, tp_u_oth q0, tp_gI_lo q, tp_u_oth q2, tp_u_oth q2]
  have j2 : ∀ j, j ≠ 1 → j ≠ 4 + n → J 2 j = I 2 j := fun j q1 q4 => by rw [← hJ, tp_u_oth (by omega), tp_gI_lo (by omega), tp_u_n q1, tp_u_n q4]
  have j21 : J 2 1 = nI (n + 1) := by rw [← hJ, tp_u_oth (by omega), tp_gI_lo (by omega), tp_u_s]
  have j24 : J 2 (4 + n) = nI e1 := by rw [← hJ, tp_u_oth (by omega), tp_gI_lo (by omega), tp_u_n (by omega), tp_u_s]
  have jh : ∀ d, J (9 + 15 * n + d) = tp_hI (nI e1) d := fun d => by rw [← hJ, tp_u_oth (by omega), tp_gI_hi]
  have j22 : J 2 2 = nI c := by rw [j2 2 (by omega) (by omega)]; exact h22
  have j3 := jl 3 (by omega) (by omega) (by omega)
  have j4 := jl 4 (by omega) (by omega) (by omega)
  have rows : ∀ j, j < c → ∃ g f r, g < n ∧ tq_row J j g f r := fun j hj => by
    obtain ⟨g, f, r, q1, q2⟩ := RR j hj
    exact ⟨g, f, r, q1, tq_row_cong q2 (by rw [j3]) (by rw [j4])⟩
  refine ⟨by omega, by rw [j0, pk_us], j21, e1, c, tp_updN aF n e1, tp_updN kF n 0, ⟨he, hc, by omega, by rw [j0, pk_un (by decide)]; exact h02, by rw [j2 0 (by omega) (by omega)]; exact h20, j22⟩, fun j hj => ?_, fun i q1 q2 => ?_, fun i hi => ?_⟩
  · obtain ⟨g, f, r, q1, q2⟩ := rows j hj
    exact ⟨g, f, r, by omega, q2⟩
  · exact tq_fh_cong (RF i (by omega) q2) (j2 _ (by omega) (by omega)) (j2 _ (by omega) (by omega)) (j2 _ (by omega) (by omega)) (jl _ (by omega) (by omega) (by omega)) (jl _ (by omega) (by omega) (by omega))
  · by_cases ei : i = n
    · subst ei
      rw [show tp_updN aF i e1 i = e1 from if_pos rfl, show tp_updN kF i 0 i = 0 from if_pos rfl]
      obtain ⟨z6, z8, z10, z5⟩ := RF i (Nat.le_refl _) hn
      have b0 : J (9 + 15 * i) = tp_hI (nI e1) 0 := jh 0
      have c0 : (0 : Int32).toInt = 0 := rfl
      have j5 := jl (5 + i) (by omega) (by omega) (by omega)
      have j7 := jl (7 + i) (by omega) (by omega) (by omega)
      have q6 := j2 (6 + i) (by omega) (by omega)
      have q8 := j2 (8 + i) (by omega) (by omega)
      have q10 := j2 (10 + i) (by omega) (by omega)
      refine ⟨⟨⟨by omega, hc, j22⟩, fun j hj => ?_, fun f hf m hm => ?_⟩, ⟨⟨by omega, Nat.le_refl _, he, by rw [j2 0 (by omega) (by omega)]; exact h20, j24⟩, fun m hm => ?_, ?_⟩, by rw [b0]; rfl, Nat.zero_le _, by rw [b0]; rfl⟩
      · obtain ⟨g, f, r, q1, q2⟩ := rows j hj
        exact ⟨g, f, r, q2⟩
      · rw [tq_none (h := i) (by omega) hf hm rows c (Nat.le_refl _), Nat.add_assoc (9 + 15 * i) 2 f, Nat.add_assoc (9 + 15 * i) 8 f, jh (2 + f), jh (8 + f)]
        rcases (show f = 0 ∨ f = 1 ∨ f = 2 ∨ f = 3 ∨ f = 4 by omega) with rfl | rfl | rfl | rfl | rfl
        · refine ⟨?_, rfl⟩
          show (if m < 48 then (1 : Int32) else 0) = tl_v0 0
          rw [if_pos hm]
          decide
        all_goals exact ⟨by show (0 : Int32) = _; decide, rfl⟩
      · rw [jh 13, jh 14, j5, j7, (z5 m hm).1, (z5 m hm).2]
        exact ⟨rfl, rfl, by omega, by omega⟩
      · rw [b0, q6, q8, q10, z6, z8, z10]
        exact ⟨rfl, rfl, rfl, Or.inl rfl, by omega, by omega⟩
    · rw [show tp_updN aF n e1 i = aF i from if_neg ei, show tp_updN kF n 0 i = kF i from if_neg ei]
      exact tq_H_cong (RH i (by omega)) (fun j q => j2 j (by omega) (by omega)) j3 j4 (jl _ (by omega) (by omega) (by omega)) (jl _ (by omega) (by omega) (by omega)) (fun j q => jl _ (by omega) (by omega) (by omega))
end TCL
