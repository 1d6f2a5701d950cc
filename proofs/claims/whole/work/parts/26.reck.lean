/-! A CLOSING RECKONED -/
theorem tm_then {D X : Int32} (h1 : 0 ≤ D.toInt) (h2 : D.toInt ≤ 410000000) (h3 : -8352000 ≤ X.toInt) (h4 : X.toInt ≤ 8352000) :
    tp_pos (D - X) = (if X ≤ 0 then D - X else D - (if X ≤ 0 then 0 else tp_least X D)) ∧ tp_pos (X - D) = (if X ≤ 0 then 0 else X - (if X ≤ 0 then 0 else tp_least X D)) ∧ 0 ≤ (tp_pos (D - X)).toInt ∧ (tp_pos (D - X)).toInt ≤ D.toInt + 8352000 := by
  have c0 : (0 : Int32).toInt = 0 := rfl
  have d1 : (D - X).toInt = D.toInt - X.toInt := tm_sub (by omega) (by omega)
  have d2 : (X - D).toInt = X.toInt - D.toInt := tm_sub (by omega) (by omega)
  have q1 : (tp_pos (D - X)).toInt = if 0 < D.toInt - X.toInt then D.toInt - X.toInt else 0 := by
    unfold tp_pos
    by_cases h : 0 < D - X
    · rw [if_pos h, d1, if_pos (by rw [tm_lt] at h; omega)]
    · rw [if_neg h, if_neg (by rw [tm_lt] at h; omega)]
      rfl
  have q2 : (tp_pos (X - D)).toInt = if 0 < X.toInt - D.toInt then X.toInt - D.toInt else 0 := by
    unfold tp_pos
    by_cases h : 0 < X - D
    · rw [if_pos h, d2, if_pos (by rw [tm_lt] at h; omega)]
    · rw [if_neg h, if_neg (by rw [tm_lt] at h; omega)]
      rfl
  refine ⟨Int32.toInt_inj.mp ?_, Int32.toInt_inj.mp ?_, by rw [q1]; split <;> omega, by rw [q1]; split <;> omega⟩
  · rw [q1]
    by_cases hX : X ≤ 0
    · rw [if_pos hX, d1]
      rw [tm_le] at hX
      split <;> omega
    · rw [if_neg hX, if_neg hX]
      rw [tm_le] at hX
      unfold tp_least
      by_cases hD : D ≤ X
      · rw [if_pos hD, Int32.sub_self]
        rw [tm_le] at hD
        rw [if_neg (by omega)]
        rfl
      · rw [if_neg hD, d1]
        rw [tm_le] at hD
        rw [if_pos (by omega)]
  · rw [q2]
    by_cases hX : X ≤ 0
    · rw [if_pos hX]
      rw [tm_le] at hX
      rw [if_neg (by omega)]
      rfl
    · rw [if_neg hX, if_neg hX]
      unfold tp_least
      by_cases hD : D ≤ X
      · rw [if_pos hD, d2]
        rw [tm_le] at hD
        split <;> omega
      · rw [if_neg hD, Int32.sub_self]
        rw [tm_le] at hD
        rw [if_neg (by omega)]
        rfl
theorem tm_min {x y : Int32} : tp_min x y = tp_least x y := by
  unfold tp_min tp_least
  by_cases h : y < x
  · rw [if_pos h, if_pos (by rw [tm_lt] at h; rw [tm_le]; omega)]
  · rw [if_neg h]
    by_cases h2 : y ≤ x
    · rw [if_pos h2]
      exact Int32.toInt_inj.mp (by rw [tm_lt] at h; rw [tm_le] at h2; omega)
    · rw [if_neg h2]
theorem tm_leastI (x y : Int32) : (tp_least x y).toInt = if y.toInt ≤ x.toInt then y.toInt else x.toInt := by
  unfold tp_least
  by_cases h : y ≤ x
  · rw [if_pos h, if_pos (tm_le.mp h)]
  · rw [if_neg h, if_neg (fun q => h (tm_le.mpr q))]
theorem tm_rec {N d room : Int32} (h1 : 0 ≤ N.toInt) (h2 : 0 ≤ d.toInt) : tp_min N (tp_min d (tp_pos room)) = (if 0 ≤ room then tp_least N (tp_least d room) else 0) ∧ 0 ≤ (tp_min N (tp_min d (tp_pos room))).toInt ∧ (tp_min N (tp_min d (tp_pos room))).toInt ≤ N.toInt := by
  have c0 : (0 : Int32).toInt = 0 := rfl
  have q1 : (tp_pos room).toInt = if 0 < room.toInt then room.toInt else 0 := by
    unfold tp_pos
    by_cases h : 0 < room
    · rw [if_pos h, if_pos (by rw [tm_lt] at h; omega)]
    · rw [if_neg h, if_neg (by rw [tm_lt] at h; omega)]
      rfl
  have q3 : 0 ≤ (tp_pos room).toInt ∧ (0 < room.toInt → (tp_pos room).toInt = room.toInt) ∧ (room.toInt ≤ 0 → (tp_pos room).toInt = 0) := by
    rw [q1]
    by_cases h : 0 < room.toInt
    · rw [if_pos h]
      omega
    · rw [if_neg h]
      omega
  have q2 : (tp_min N (tp_min d (tp_pos room))).toInt = if (if (tp_pos room).toInt ≤ d.toInt then (tp_pos room).toInt else d.toInt) ≤ N.toInt then (if (tp_pos room).toInt ≤ d.toInt then (tp_pos room).toInt else d.toInt) else N.toInt := by
    rw [tm_min, tm_min, tm_leastI, tm_leastI]
  clear q1
  generalize (tp_pos room).toInt = P at q2 q3
  refine ⟨Int32.toInt_inj.mp ?_, by rw [q2]; (repeat' split) <;> omega, by rw [q2]; (repeat' split) <;> omega⟩
  rw [q2]
  by_cases h : 0 ≤ room
  · rw [if_pos h, tm_leastI, tm_leastI]
    rw [tm_le] at h
    have e : P = room.toInt := by omega
    rw [e]
  · rw [if_neg h]
    rw [tm_le] at h
    have e : P = 0 := by omega
    rw [e, if_pos h2, if_pos h1]
    rfl
section TPRk
variable {I : Nat → Nat → Int32} {e h a c : Nat}
/-- what closing does to a household's numbers, in both -/
theorem tr_reck (R : tp_relH I e h a c) (he : e < 48) (X : Int32) (h3 : -8352000 ≤ X.toInt) (h4 : X.toInt ≤ 8352000) :
    tp_owed I (14 + 15 * h) X = tp_rthen I h X ∧ tp_arr I (14 + 15 * h) X = tp_rarr I h X ∧ tp_rec I (14 + 15 * h) e (tp_owed I (14 + 15 * h) X) = tp_rtaken I h (nI e) X ∧ 0 ≤ (tp_rthen I h X - tp_rtaken I h (nI e) X).toInt ∧ (tp_rthen I h X - tp_rtaken I h (nI e) X).toInt ≤ ((e + 1 : Nat) : Int) * 8352000 := by
  obtain ⟨k6, k7, k8, k12, k10, k11⟩ := R.2.2.2.2
  obtain ⟨t1, t2, t3, t4⟩ := tm_then (D := I 10 h) (X := X) k10 (by omega) h3 h4
  have o1 : tp_owed I (14 + 15 * h) X = tp_rthen I h X := by
    unfold tp_owed tp_rthen tp_rdown
    rw [k6]
    exact t1
  have o2 : tp_arr I (14 + 15 * h) X = tp_rarr I h X := by
    unfold tp_arr tp_rarr tp_rdown
    rw [k6]
    exact t2
  have o3 : 0 ≤ (tp_rthen I h X).toInt ∧ (tp_rthen I h X).toInt ≤ (I 10 h).toInt + 8352000 := by
    rw [← o1]
    unfold tp_owed
    rw [k6]
    exact ⟨t3, t4⟩
  obtain ⟨d1, k, hk, d2⟩ := tr_due R he
  have d15 : 0 ≤ (tp_mdue I h (nI e) * 15 / 100).toInt := by
    rw [d2, show nI k * 15 = nI (k * 15) from pk_mul k 15, show nI (k * 15) / 100 = nI (k * 15 / 100) from pk_div (d := 100) (by omega) (by decide) (by decide), nI_toInt (by omega)]
    omega
  obtain ⟨m1, m2, m3⟩ := tm_rec (N := tp_rthen I h X) (d := tp_mdue I h (nI e) * 15 / 100) (room := tp_rroom I h (nI e)) o3.1 d15
  have o4 : tp_rec I (14 + 15 * h) e (tp_owed I (14 + 15 * h) X) = tp_rtaken I h (nI e) X := by
    rw [o1]
    unfold tp_rec tp_rtaken
    rw [k8, d1, tr_f R (f := 3) (by decide) he]
    by_cases hz : I 12 h = 0
    · rw [if_pos hz, if_pos hz]
      exact m1
    · rw [if_neg hz, if_neg hz]
  have o5 : 0 ≤ (tp_rtaken I h (nI e) X).toInt ∧ (tp_rtaken I h (nI e) X).toInt ≤ (tp_rthen I h X).toInt := by
    unfold tp_rtaken
    by_cases hz : I 12 h = 0
    · rw [if_pos hz, ← m1]
      exact ⟨m2, m3⟩
    · rw [if_neg hz]
      have c0 : (0 : Int32).toInt = 0 := rfl
      omega
  refine ⟨o1, o2, o4, ?_⟩
  rw [tm_sub (by omega) (by omega)]
  omega
theorem tr_pay (R : tp_relH I e h a c) (he : e < 48) (x : Nat) : tp_paym I (14 + 15 * h) x e = tp_rpay I h (nI e) (tp_mopen I h x e) := by
  obtain ⟨p1, p2, p3⟩ := tr_open R (x := x) (y := e) (by omega)
  obtain ⟨q1, q2, q3, -, -⟩ := tr_reck R he (tp_mopen I h x e) p2 p3
  unfold tp_paym tp_rpay
  rw [p1, q2, q3, (tr_due R he).1]
end TPRk
theorem tm_rec_cong {I J : Nat → Nat → Int32} {h : Nat} (h4 : J 4 = I 4) (h5 : J 5 = I 5) (h6 : J 6 = I 6) (h7 : J 7 = I 7) (h10 : J 10 h = I 10 h) (h12 : J 12 h = I 12 h) (k X : Int32) : tp_rthen J h X = tp_rthen I h X ∧ tp_rtaken J h k X = tp_rtaken I h k X ∧ tp_rpay J h k X = tp_rpay I h k X := by
  have a1 : tp_rthen J h X = tp_rthen I h X := by
    unfold tp_rthen tp_rdown
    rw [h10]
  have a2 : tp_rtaken J h k X = tp_rtaken I h k X := by
    unfold tp_rtaken
    rw [a1, h12]
    unfold tp_rroom
    rw [tp_mdue_cong (I := J) (J := I) h4 h5 h6 h7, tp_mfact_cong (I := J) (J := I) h4 h5 h6 h7]
  refine ⟨a1, a2, ?_⟩
  unfold tp_rpay tp_rarr tp_rdown
  rw [a2, h10, tp_mdue_cong (I := J) (J := I) h4 h5 h6 h7]
section TPJ4
theorem tj_wouldPay (l : Launch) (hlt : l.stackTraces = false) (D : va_G) (cy : Nat → ClassId) {n : Nat} (ad : Nat → Nat) (o : Int64) {I : Nat → Nat → Int32} (sa : Nat → Nat) (tL tM : Nat) (R : tp_rel n I) (x : Int32) : tp_J l yL_wouldPay wsL_wouldPay yX2_wouldPay wsX2_wouldPay D cy n ad sa tL tM [.ref (ad 0), .int x, .ref (ad 13)] [.ref (ad 2), .int x] (fun z => z.toInt64) I o (tp_rel n) := by
  obtain ⟨hn6, h01, h22, e, aF, cF, he, h02, h21, RF, RH⟩ := id R
  rcases tm_home hn6 x with ⟨h, hh, rfl, e1⟩ | ⟨h1, e1⟩
  · have hq := RH h hh
    by_cases e8 : e < 48
    · have u : ∀ k, k ≠ 2 → tp_u I 2 0 0 k = I k := fun k hk => tp_u_oth hk
      refine ⟨_, _, _, _, _, _, _, _, _, _, _, ⟨by decide, by decide, by decide, by decide, by decide, by decide⟩, lp_wouldPay_ok l D cy n ad o I sa tL tM hlt h hh hn6 (aF h) e hq.1.2.2.1 h02 (Nat.le_trans hq.1.1 he) e8, mp_wouldPay_ok l D cy n ad _ I h (by omega) (by rw [h22]; exact e1) (tr_C hq) (aF h) e hq.1.2.2.2.1 h21 (Nat.le_trans hq.1.1 he) he e8, ?_, fun _ => ?_, ?_⟩
      · unfold tp_reck
        rw [tp_u_n (by decide), tp_u_n (by decide), tp_u_n (by decide), tp_u_s]
      · rw [tr_pay hq e8, tp_mopen_cong (I := tp_u I 2 0 0) (J := I) (u 4 (by decide)) (u 5 (by decide)) (u 6 (by decide)) (u 7 (by decide)) (fun m _ => by rw [u 8 (by decide)]) he, (tm_rec_cong (I := I) (J := tp_u I 2 0 0) (h := h) (u 4 (by decide)) (u 5 (by decide)) (u 6 (by decide)) (u 7 (by decide)) (by rw [u 10 (by decide)]) (by rw [u 12 (by decide)]) (nI e) (tp_mopen I h (aF h) e)).2.2]
      · unfold tp_reck
        exact tp_rel_u (by decide) (tp_rel_u (by decide) (tp_rel_u (by decide) (tp_rel_u (by decide) R)))
    · have e48 : e = 48 := by omega
      exact ⟨_, _, _, _, _, _, _, _, _, _, _, ⟨by decide, by decide, by decide, by decide, by decide, by decide⟩, lp_wouldPay_end l D cy n ad o I sa tL tM hlt h hh hn6 (aF h) e hq.1.2.2.1 h02 (Nat.le_trans hq.1.1 he) e48, mp_wouldPay_end l D cy n ad _ I h (by omega) (by rw [h22]; exact e1) (by rw [h21, e48]; rfl), by rw [tp_u_s], fun _ => rfl, tp_rel_u (by decide) R⟩
  · exact ⟨_, _, _, _, _, _, _, _, _, _, _, ⟨by decide, by decide, by decide, by decide, by decide, by decide⟩, lp_wouldPay_no l D cy n ad o I sa tL tM hlt x h1 hn6, mp_wouldPay_no l D cy n ad o I x (by rw [h22]; exact e1), by rw [tp_u_s], fun q => absurd q (by decide), tp_rel_u (by decide) (tp_rel_u (by decide) R)⟩
theorem tj_add_no (l : Launch) (hlt : l.stackTraces = false) (D : va_G) (cy : Nat → ClassId) {n : Nat} (ad : Nat → Nat) (o : Int64) {I : Nat → Nat → Int32} (sa : Nat → Nat) (tL tM : Nat) (R : tp_rel n I) (hb : n = 6 ∨ ¬ I 0 2 < 48) : tp_J l yL_add wsL_add yX2_add wsX2_add D cy n ad sa tL tM [.ref (ad 0), .ref (ad 13)] [.ref (ad 2)] (fun z => z.toInt64) I o (tp_rel n) := by
  obtain ⟨hn6, h01, h22, e, aF, cF, he, h02, h21, RF, RH⟩ := id R
  have n0 : ¬ I 0 1 < 0 := by
    rw [h01]
    exact nI_pos (by omega)
  have n6 : I 0 1 < 6 ↔ n < 6 := by
    rw [h01]
    exact nI_ltI (b := 6) (by omega) (by decide)
  have m6 : I 2 2 = 6 ↔ n = 6 := by
    rw [h22]
    exact nI_eq (b := 6) (by omega) (by decide)
  have e8 : I 0 2 < 48 ↔ e < 48 := by
    rw [h02]
    exact nI_ltI (b := 48) (by omega) (by decide)
  by_cases hn : n = 6
  · exact ⟨_, _, _, _, _, _, _, _, _, _, _, ⟨by decide, by decide, by decide, by decide, by decide, by decide⟩, lp_add_full l D cy n ad o I sa tL tM hlt (fun q => by have := n6.mp q; omega) n0, mp_add_full l D cy n ad o I (m6.mpr hn), by rw [tp_u_s], fun q => absurd q (by decide), tp_rel_u (by decide) (tp_rel_u (by decide) R)⟩
  · have hb := hb.resolve_left hn
    have e48 : e = 48 := by
      have h8 : ¬ e < 48 := fun q => hb (e8.mpr q)
      omega
    exact ⟨_, _, _, _, _, _, _, _, _, _, _, ⟨by decide, by decide, by decide, by decide, by decide, by decide⟩, lp_add_end l D cy n ad o I sa tL tM hlt (n6.mpr (by omega)) n0 hb, mp_add_end l D cy n ad o I (fun q => hn (m6.mp q)) (by rw [h21, e48]; rfl), by rw [tp_u_s], fun q => absurd q (by decide), tp_rel_u (by decide) (tp_rel_u (by decide) R)⟩
end TPJ4
