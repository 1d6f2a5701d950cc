/-! EVERY CALL THAT CHANGES SOMETHING -/
theorem tr_gen {I J : Nat → Nat → Int32} {e e2 h a c : Nat} (R : tp_relH I e h a c) (hae : a ≤ e2) (g2 : J (14 + 15 * h) 2 = I (14 + 15 * h) 2) (g3 : J (14 + 15 * h) 3 = I (14 + 15 * h) 3) (h3 : J 3 h = I 3 h) (h4 : J 4 h = I 4 h)
    (hf : ∀ f, f < 5 → J (14 + 15 * h + 2 + f) = I (14 + 15 * h + 2 + f) ∧ J (14 + 15 * h + 8 + f) = I (14 + 15 * h + 8 + f)) (h5 : ∀ j, j < 100 → J 5 (100 * h + j) = I 5 (100 * h + j) ∧ J 6 (100 * h + j) = I 6 (100 * h + j) ∧ J 7 (100 * h + j) = I 7 (100 * h + j))
    (h8 : ∀ m, m < 48 → J (14 + 15 * h + 13) m = J 8 (48 * h + m) ∧ J (14 + 15 * h + 14) m = J 9 (48 * h + m) ∧ 0 ≤ (J 8 (48 * h + m)).toInt ∧ (J 8 (48 * h + m)).toInt ≤ 174000)
    (h10 : J (14 + 15 * h) 6 = J 10 h ∧ J (14 + 15 * h) 7 = J 11 h ∧ J (14 + 15 * h) 8 = J 12 h ∧ (J 12 h = 0 ∨ J 12 h = 1) ∧ 0 ≤ (J 10 h).toInt ∧ (J 10 h).toInt ≤ (e2 : Int) * 8352000) : tp_relH J e2 h a c := by
  obtain ⟨⟨r1, r2, r3, r4, r5, r6⟩, r7, r8, -, -⟩ := R
  refine ⟨⟨hae, r2, by rw [g3]; exact r3, by rw [h3]; exact r4, by rw [g2]; exact r5, by rw [h4]; exact r6⟩, fun f hf5 m hm => ?_, fun j hj => ?_, h8, h10⟩
  · rw [(hf f hf5).1, (hf f hf5).2, tp_scan_cong (I := J) (J := I) (b := 100 * h) c (fun j q1 q2 => by have := h5 (j - 100 * h) (by omega); rw [show 100 * h + (j - 100 * h) = j by omega] at this; exact this)]
    exact r7 f hf5 m hm
  · rw [(h5 j (by omega)).1, (h5 j (by omega)).2.1, (h5 j (by omega)).2.2]
    exact r8 j hj
/-- a household of which nothing changed -/
theorem tr_same {I J : Nat → Nat → Int32} {e h a c : Nat} (R : tp_relH I e h a c) (hb : ∀ j, j < 15 → J (14 + 15 * h + j) = I (14 + 15 * h + j)) (h3 : J 3 h = I 3 h) (h4 : J 4 h = I 4 h) (h5 : ∀ j, j < 100 → J 5 (100 * h + j) = I 5 (100 * h + j) ∧ J 6 (100 * h + j) = I 6 (100 * h + j) ∧ J 7 (100 * h + j) = I 7 (100 * h + j))
    (h8 : ∀ m, m < 48 → J 8 (48 * h + m) = I 8 (48 * h + m) ∧ J 9 (48 * h + m) = I 9 (48 * h + m)) (h10 : J 10 h = I 10 h) (h11 : J 11 h = I 11 h) (h12 : J 12 h = I 12 h) : tp_relH J e h a c := by
  have b0 : J (14 + 15 * h) = I (14 + 15 * h) := hb 0 (by decide)
  refine tr_gen R R.1.1 (by rw [b0]) (by rw [b0]) h3 h4 (fun f hf => ⟨?_, ?_⟩) h5 (fun m hm => ?_) ?_
  · have := hb (2 + f) (by omega)
    rwa [← Nat.add_assoc] at this
  · have := hb (8 + f) (by omega)
    rwa [← Nat.add_assoc] at this
  · rw [hb 13 (by decide), hb 14 (by decide), (h8 m hm).1, (h8 m hm).2]
    exact R.2.2.2.1 m hm
  · rw [b0, h10, h11, h12]
    exact R.2.2.2.2
theorem tm_ub {I : Nat → Nat → Int32} {k j a b : Nat} {x : Int32} (h : a ≠ k ∨ b ≠ j) : tp_u I k j x a b = I a b := by
  rcases h with h | h
  · rw [tp_u_oth h]
  · by_cases e : a = k
    · subst e
      exact tp_u_n h
    · rw [tp_u_oth e]
section TPJ2
theorem tj_dispute (l : Launch) (hlt : l.stackTraces = false) (D : va_G) (cy : Nat → ClassId) {n : Nat} (ad : Nat → Nat) (o : Int64) {I : Nat → Nat → Int32} (sa : Nat → Nat) (tL tM : Nat) (R : tp_rel n I) (x v : Int32) (hv : v = 0 ∨ v = 1) : tp_J l yL_dispute wsL_dispute yX2_dispute wsX2_dispute D cy n ad sa tL tM [.ref (ad 0), .int x, .int v, .ref (ad 13)] [.ref (ad 2), .int x, .int v] (fun z => if z = 0 then 0 else 1) I o (tp_rel n) := by
  obtain ⟨hn6, h01, h22, e, aF, cF, he, h02, h21, RF, RH⟩ := id R
  rcases tm_home hn6 x with ⟨h, hh, rfl, e1⟩ | ⟨h1, e1⟩
  · have hq := (RH h hh).2.2.2.2
    refine ⟨_, _, _, _, _, _, _, _, _, _, _, ⟨by decide, by decide, by decide, by decide, by decide, by decide⟩, lp_dispute_ok l D cy n ad o I sa tL tM hlt h hh hn6 v hv (by rw [hq.2.2.1]; exact hq.2.2.2.1), mp_dispute_ok l D cy n ad _ (tp_u I (14 + 15 * h) 8 v) h (by omega) (by rw [tp_u_oth (by omega), h22]; exact e1) v (by rcases hv with rfl | rfl <;> decide), ?_, fun _ => ?_, ?_⟩
    · rw [tp_u_oth (by decide), tp_u_s]
    · rw [hq.2.2.1, tp_u_oth (a := 12) (by omega)]
      by_cases q : I 12 h = 0
      · rw [if_pos q, if_pos q]; rfl
      · rw [if_neg q, if_neg q]; rfl
    · refine ⟨hn6, ?_, ?_, e, aF, cF, he, ?_, ?_, fun j q1 q2 => tp_fh_cong (RF j q1 q2) ?_ ?_ ?_ ?_ (fun m hm => ⟨?_, ?_⟩), fun j hj => ?_⟩
      · rw [tm_ub (Or.inl (by omega)), tm_ub (Or.inl (by omega)), tm_ub (Or.inl (by omega))]; exact h01
      · rw [tm_ub (Or.inl (by omega)), tm_ub (Or.inr (by omega)), tm_ub (Or.inl (by omega))]; exact h22
      · rw [tm_ub (Or.inl (by omega)), tm_ub (Or.inl (by omega)), tm_ub (Or.inl (by omega))]; exact h02
      · rw [tm_ub (Or.inl (by omega)), tm_ub (Or.inr (by omega)), tm_ub (Or.inl (by omega))]; exact h21
      · rw [tm_ub (Or.inl (by omega)), tm_ub (Or.inl (by omega)), tm_ub (Or.inl (by omega))]
      · rw [tm_ub (Or.inl (by omega)), tm_ub (Or.inl (by omega)), tm_ub (Or.inl (by omega))]
      · rw [tm_ub (Or.inl (by omega)), tm_ub (Or.inl (by omega)), tm_ub (Or.inl (by omega))]
      · rw [tm_ub (Or.inr (by omega)), tm_ub (Or.inl (by omega)), tm_ub (Or.inl (by omega))]
      · rw [tm_ub (Or.inl (by omega)), tm_ub (Or.inl (by omega)), tm_ub (Or.inl (by omega))]
      · rw [tm_ub (Or.inl (by omega)), tm_ub (Or.inl (by omega)), tm_ub (Or.inl (by omega))]
      · by_cases ej : j = h
        · subst ej
          refine tr_gen (RH j hj) (RH j hj).1.1 ?_ ?_ ?_ ?_ (fun f hf => ⟨?_, ?_⟩) (fun i hi => ⟨?_, ?_, ?_⟩) (fun m hm => ?_) ?_
          · rw [tm_ub (Or.inl (by omega)), tm_ub (Or.inl (by omega)), tm_ub (Or.inr (by omega))]
          · rw [tm_ub (Or.inl (by omega)), tm_ub (Or.inl (by omega)), tm_ub (Or.inr (by omega))]
          · rw [tm_ub (Or.inl (by omega)), tm_ub (Or.inl (by omega)), tm_ub (Or.inl (by omega))]
          · rw [tm_ub (Or.inl (by omega)), tm_ub (Or.inl (by omega)), tm_ub (Or.inl (by omega))]
          · rw [tp_u_oth (by omega), tp_u_oth (by omega), tp_u_oth (by omega)]
          · rw [tp_u_oth (by omega), tp_u_oth (by omega), tp_u_oth (by omega)]
          · rw [tm_ub (Or.inl (by omega)), tm_ub (Or.inl (by omega)), tm_ub (Or.inl (by omega))]
          · rw [tm_ub (Or.inl (by omega)), tm_ub (Or.inl (by omega)), tm_ub (Or.inl (by omega))]
          · rw [tm_ub (Or.inl (by omega)), tm_ub (Or.inl (by omega)), tm_ub (Or.inl (by omega))]
          · rw [tp_u_oth (a := 14 + 15 * j + 13) (by omega), tp_u_oth (a := 14 + 15 * j + 13) (by omega), tp_u_oth (a := 14 + 15 * j + 13) (by omega), tp_u_oth (a := 14 + 15 * j + 14) (by omega), tp_u_oth (a := 14 + 15 * j + 14) (by omega), tp_u_oth (a := 14 + 15 * j + 14) (by omega), tp_u_oth (a := 8) (by omega), tp_u_oth (a := 8) (by omega), tp_u_oth (a := 8) (by omega), tp_u_oth (a := 9) (by omega), tp_u_oth (a := 9) (by omega), tp_u_oth (a := 9) (by omega)]
            exact (RH j hj).2.2.2.1 m hm
          · rw [tp_u_s, tp_u_oth (a := 14 + 15 * j) (by omega), tp_u_oth (a := 14 + 15 * j) (by omega), tp_u_s, tp_u_n (by decide), tp_u_n (by decide), tp_u_oth (a := 10) (by omega), tp_u_oth (a := 10) (by omega), tp_u_oth (a := 10) (by omega), tp_u_oth (a := 11) (by omega), tp_u_oth (a := 11) (by omega), tp_u_oth (a := 11) (by omega)]
            exact ⟨hq.1, hq.2.1, rfl, hv, hq.2.2.2.2⟩
        · refine tr_same (RH j hj) (fun i hi => ?_) ?_ ?_ (fun i hi => ⟨?_, ?_, ?_⟩) (fun m hm => ⟨?_, ?_⟩) ?_ ?_ ?_
          · rw [tp_u_oth (by omega), tp_u_oth (by omega), tp_u_oth (by omega)]
          all_goals first | rw [tm_ub (Or.inl (by omega)), tm_ub (Or.inl (by omega)), tm_ub (Or.inl (by omega))] | rw [tm_ub (Or.inr (by omega)), tm_ub (Or.inl (by omega)), tm_ub (Or.inl (by omega))]
  · exact ⟨_, _, _, _, _, _, _, _, _, _, _, ⟨by decide, by decide, by decide, by decide, by decide, by decide⟩, lp_dispute_no l D cy n ad o I sa tL tM hlt x h1 hn6 v, mp_dispute_no l D cy n ad o I x v (by rw [h22]; exact e1), by rw [tp_u_s], fun q => absurd q (by decide), tp_rel_u (by decide) R⟩
theorem tj_payBack (l : Launch) (hlt : l.stackTraces = false) (D : va_G) (cy : Nat → ClassId) {n : Nat} (ad : Nat → Nat) (o : Int64) {I : Nat → Nat → Int32} (sa : Nat → Nat) (tL tM : Nat) (R : tp_rel n I) (x v : Int32) : tp_J l yL_payBack wsL_payBack yX2_payBack wsX2_payBack D cy n ad sa tL tM [.ref (ad 0), .int x, .int v, .ref (ad 13)] [.ref (ad 2), .int x, .int v] (fun z => z.toInt64) I o (tp_rel n) := by
  obtain ⟨hn6, h01, h22, e, aF, cF, he, h02, h21, RF, RH⟩ := id R
  rcases tm_home hn6 x with ⟨h, hh, rfl, e1⟩ | ⟨h1, e1⟩
  · have hq := (RH h hh).2.2.2.2
    have e1 : tp_in (nI h) 0 (I 2 2 - 1) = 1 := by rw [h22]; exact e1
    by_cases hv1 : v < 1
    · exact ⟨_, _, _, _, _, _, _, _, _, _, _, ⟨by decide, by decide, by decide, by decide, by decide, by decide⟩, lp_payBack_bad l D cy n ad o I sa tL tM hlt h hh hn6 v (Or.inl hv1), mp_payBack_bad l D cy n ad o I h (by omega) e1 v (if_pos hv1), by rw [tp_u_s], fun q => absurd q (by decide), tp_rel_u (by decide) (tp_rel_u (by decide) R)⟩
    by_cases hv2 : v ≤ 1000000
    · have hv3 : tp_in v 1 1000000 = 1 := by
        unfold tp_in
        rw [if_neg hv1, if_neg (fun q => by rw [tm_lt] at q; rw [tm_le] at hv2; omega)]
      by_cases hx : v ≤ I (14 + 15 * h) 6
      · have hx10 : v ≤ I 10 h := by rw [← hq.1]; exact hx
        have u10 : ∀ k x y, tp_u (tp_u I (14 + 15 * h) 6 x) (14 + 15 * h) 7 y 10 k = I 10 k := fun k x y => by rw [tp_u_oth (by omega), tp_u_oth (by omega)]
        have u11 : ∀ k x y, tp_u (tp_u I (14 + 15 * h) 6 x) (14 + 15 * h) 7 y 11 k = I 11 k := fun k x y => by rw [tp_u_oth (by omega), tp_u_oth (by omega)]
        refine ⟨_, _, _, _, _, _, _, _, _, _, _, ⟨by decide, by decide, by decide, by decide, by decide, by decide⟩, lp_payBack_ok l D cy n ad o I sa tL tM hlt h hh hn6 v hv1 hv2 hx, mp_payBack_ok l D cy n ad _ (tp_u (tp_u I (14 + 15 * h) 6 (I (14 + 15 * h) 6 - v)) (14 + 15 * h) 7 (I (14 + 15 * h) 7 + v)) h (by omega) (by rw [tp_u_oth (by omega), tp_u_oth (by omega)]; exact e1) v hv3 (by rw [u10]; exact hx10), ?_, fun _ => ?_, ?_⟩
        · rw [tp_u_oth (by decide), tp_u_oth (by decide), tp_u_s]
        · rw [u10, hq.1]
        · rw [u10, u11]
          have f1 : ∀ k, k ≠ 14 + 15 * h → k ≠ 2 → k ≠ 10 → k ≠ 11 → tp_u (tp_u (tp_u (tp_u (tp_u I (14 + 15 * h) 6 (I (14 + 15 * h) 6 - v)) (14 + 15 * h) 7 (I (14 + 15 * h) 7 + v)) 2 0 0) 10 h (I 10 h - v)) 11 h (I 11 h + v) k = I k := fun k q1 q2 q3 q4 => by
            rw [tp_u_oth q4, tp_u_oth q3, tp_u_oth q2, tp_u_oth q1, tp_u_oth q1]
          have f2 : ∀ j, j ≠ 0 → tp_u (tp_u (tp_u (tp_u (tp_u I (14 + 15 * h) 6 (I (14 + 15 * h) 6 - v)) (14 + 15 * h) 7 (I (14 + 15 * h) 7 + v)) 2 0 0) 10 h (I 10 h - v)) 11 h (I 11 h + v) 2 j = I 2 j := fun j hj => by
            rw [tp_u_oth (by decide), tp_u_oth (by decide), tp_u_n hj, tp_u_oth (by omega), tp_u_oth (by omega)]
          have f10 : ∀ j, j ≠ h → tp_u (tp_u (tp_u (tp_u (tp_u I (14 + 15 * h) 6 (I (14 + 15 * h) 6 - v)) (14 + 15 * h) 7 (I (14 + 15 * h) 7 + v)) 2 0 0) 10 h (I 10 h - v)) 11 h (I 11 h + v) 10 j = I 10 j := fun j hj => by
            rw [tp_u_oth (by decide), tp_u_n hj, tp_u_oth (by decide), tp_u_oth (by omega), tp_u_oth (by omega)]
          have f11 : ∀ j, j ≠ h → tp_u (tp_u (tp_u (tp_u (tp_u I (14 + 15 * h) 6 (I (14 + 15 * h) 6 - v)) (14 + 15 * h) 7 (I (14 + 15 * h) 7 + v)) 2 0 0) 10 h (I 10 h - v)) 11 h (I 11 h + v) 11 j = I 11 j := fun j hj => by
            rw [tp_u_n hj, tp_u_oth (by decide), tp_u_oth (by decide), tp_u_oth (by omega), tp_u_oth (by omega)]
          have gb : ∀ j, j ≠ 6 → j ≠ 7 → tp_u (tp_u (tp_u (tp_u (tp_u I (14 + 15 * h) 6 (I (14 + 15 * h) 6 - v)) (14 + 15 * h) 7 (I (14 + 15 * h) 7 + v)) 2 0 0) 10 h (I 10 h - v)) 11 h (I 11 h + v) (14 + 15 * h) j = I (14 + 15 * h) j := fun j q1 q2 => by
            rw [tp_u_oth (by omega), tp_u_oth (by omega), tp_u_oth (by omega), tp_u_n q2, tp_u_n q1]
          have g6 : tp_u (tp_u (tp_u (tp_u (tp_u I (14 + 15 * h) 6 (I (14 + 15 * h) 6 - v)) (14 + 15 * h) 7 (I (14 + 15 * h) 7 + v)) 2 0 0) 10 h (I 10 h - v)) 11 h (I 11 h + v) (14 + 15 * h) 6 = I (14 + 15 * h) 6 - v := by
            rw [tp_u_oth (by omega), tp_u_oth (by omega), tp_u_oth (by omega), tp_u_n (by decide), tp_u_s]
          have g7 : tp_u (tp_u (tp_u (tp_u (tp_u I (14 + 15 * h) 6 (I (14 + 15 * h) 6 - v)) (14 + 15 * h) 7 (I (14 + 15 * h) 7 + v)) 2 0 0) 10 h (I 10 h - v)) 11 h (I 11 h + v) (14 + 15 * h) 7 = I (14 + 15 * h) 7 + v := by
            rw [tp_u_oth (by omega), tp_u_oth (by omega), tp_u_oth (by omega), tp_u_s]
          have g10 : tp_u (tp_u (tp_u (tp_u (tp_u I (14 + 15 * h) 6 (I (14 + 15 * h) 6 - v)) (14 + 15 * h) 7 (I (14 + 15 * h) 7 + v)) 2 0 0) 10 h (I 10 h - v)) 11 h (I 11 h + v) 10 h = I 10 h - v := by rw [tp_u_oth (by omega), tp_u_s]
          have g11 : tp_u (tp_u (tp_u (tp_u (tp_u I (14 + 15 * h) 6 (I (14 + 15 * h) 6 - v)) (14 + 15 * h) 7 (I (14 + 15 * h) 7 + v)) 2 0 0) 10 h (I 10 h - v)) 11 h (I 11 h + v) 11 h = I 11 h + v := by rw [tp_u_s]
          generalize tp_u (tp_u (tp_u (tp_u (tp_u I (14 + 15 * h) 6 (I (14 + 15 * h) 6 - v)) (14 + 15 * h) 7 (I (14 + 15 * h) 7 + v)) 2 0 0) 10 h (I 10 h - v)) 11 h (I 11 h + v) = J at f1 f2 f10 f11 gb g6 g7 g10 g11 ⊢
          have f3 := f1 3 (by omega) (by omega) (by omega) (by omega)
          have f4 := f1 4 (by omega) (by omega) (by omega) (by omega)
          have f5 := f1 5 (by omega) (by omega) (by omega) (by omega)
          have f6 := f1 6 (by omega) (by omega) (by omega) (by omega)
          have f7 := f1 7 (by omega) (by omega) (by omega) (by omega)
          have f8 := f1 8 (by omega) (by omega) (by omega) (by omega)
          have f9 := f1 9 (by omega) (by omega) (by omega) (by omega)
          have f12 := f1 12 (by omega) (by omega) (by omega) (by omega)
          refine ⟨hn6, by rw [f1 0 (by omega) (by omega) (by omega) (by omega)]; exact h01, by rw [f2 2 (by decide)]; exact h22, e, aF, cF, he, by rw [f1 0 (by omega) (by omega) (by omega) (by omega)]; exact h02, by rw [f2 1 (by decide)]; exact h21, fun j q1 q2 => tp_fh_cong (RF j q1 q2) (by rw [f4]) (f10 j (by omega)) (f11 j (by omega)) (by rw [f12]) (fun m hm => by rw [f8, f9]; exact ⟨rfl, rfl⟩), fun j hj => ?_⟩
          by_cases ej : j = h
          · subst ej
            refine tr_gen (RH j hj) (RH j hj).1.1 (gb 2 (by decide) (by decide)) (gb 3 (by decide) (by decide)) (by rw [f3]) (by rw [f4]) (fun f hf => ⟨f1 _ (by omega) (by omega) (by omega) (by omega), f1 _ (by omega) (by omega) (by omega) (by omega)⟩) (fun i hi => by rw [f5, f6, f7]; exact ⟨rfl, rfl, rfl⟩) (fun m hm => ?_) ?_
            · rw [f1 (14 + 15 * j + 13) (by omega) (by omega) (by omega) (by omega), f1 (14 + 15 * j + 14) (by omega) (by omega) (by omega) (by omega), f8, f9]
              exact (RH j hj).2.2.2.1 m hm
            · rw [g6, g7, gb 8 (by decide) (by decide), g10, g11, f12, hq.1, hq.2.1]
              have d1 : (1 : Int32).toInt = 1 := rfl
              rw [tm_lt] at hv1
              rw [tm_le] at hx10
              have d2 := tm_bd (I 10 j)
              have d3 : (I 10 j - v).toInt = (I 10 j).toInt - v.toInt := tm_sub (by omega) (by omega)
              obtain ⟨-, -, k3, k4, k5, k6⟩ := hq
              exact ⟨rfl, rfl, k3, k4, by omega, by omega⟩
          · exact tr_same (RH j hj) (fun i hi => f1 _ (by omega) (by omega) (by omega) (by omega)) (by rw [f3]) (by rw [f4]) (fun i hi => by rw [f5, f6, f7]; exact ⟨rfl, rfl, rfl⟩) (fun m hm => by rw [f8, f9]; exact ⟨rfl, rfl⟩) (f10 j ej) (f11 j ej) (by rw [f12])
      · exact ⟨_, _, _, _, _, _, _, _, _, _, _, ⟨by decide, by decide, by decide, by decide, by decide, by decide⟩, lp_payBack_less l D cy n ad o I sa tL tM hlt h hh hn6 v hv1 hv2 hx, mp_payBack_less l D cy n ad o I h (by omega) e1 v hv3 (by rw [← hq.1]; exact hx), by rw [tp_u_s], fun q => absurd q (by decide), tp_rel_u (by decide) (tp_rel_u (by decide) R)⟩
    · exact ⟨_, _, _, _, _, _, _, _, _, _, _, ⟨by decide, by decide, by decide, by decide, by decide, by decide⟩, lp_payBack_bad l D cy n ad o I sa tL tM hlt h hh hn6 v (Or.inr hv2), mp_payBack_bad l D cy n ad o I h (by omega) e1 v (by unfold tp_in; rw [if_neg hv1, if_pos (by rw [tm_lt]; rw [tm_le] at hv2; omega)]), by rw [tp_u_s], fun q => absurd q (by decide), tp_rel_u (by decide) (tp_rel_u (by decide) R)⟩
  · exact ⟨_, _, _, _, _, _, _, _, _, _, _, ⟨by decide, by decide, by decide, by decide, by decide, by decide⟩, lp_payBack_no l D cy n ad o I sa tL tM hlt x h1 hn6 v, mp_payBack_no l D cy n ad o I x v (by rw [h22]; exact e1), by rw [tp_u_s], fun q => absurd q (by decide), tp_rel_u (by decide) (tp_rel_u (by decide) R)⟩
end TPJ2
