/-! EVERY CALL: the class and the model answer alike, and stay alike -/
theorem tp_rel_cong {n : Nat} {I J : Nat → Nat → Int32} (h0 : J 0 = I 0) (h1 : J 2 1 = I 2 1) (h2 : J 2 2 = I 2 2) (h3 : ∀ c, 3 ≤ c → J c = I c) (R : tp_rel n I) : tp_rel n J := by
  obtain ⟨r1, r2, r3, e, aF, cF, r4, r5, r6, rf, r7⟩ := R
  refine ⟨r1, by rw [h0]; exact r2, by rw [h2]; exact r3, e, aF, cF, r4, by rw [h0]; exact r5, by rw [h1]; exact r6, fun h q1 q2 => tp_fh_cong (rf h q1 q2) (by rw [h3 4 (by decide)]) (by rw [h3 10 (by decide)]) (by rw [h3 11 (by decide)]) (by rw [h3 12 (by decide)]) (fun m _ => by rw [h3 8 (by decide), h3 9 (by decide)]; exact ⟨rfl, rfl⟩), fun h hh => ?_⟩
  have key : ∀ f m b t, tp_scan J f m b t = tp_scan I f m b t := fun f m b t => tp_scan_cong t (fun j _ _ => ⟨by rw [h3 5 (by omega)], by rw [h3 6 (by omega)], by rw [h3 7 (by omega)]⟩)
  have R := r7 h hh
  unfold tp_relH at R ⊢
  simp only [key, h3 _ (show 3 ≤ 3 by omega), h3 _ (show 3 ≤ 4 by omega), h3 _ (show 3 ≤ 5 by omega), h3 _ (show 3 ≤ 6 by omega), h3 _ (show 3 ≤ 7 by omega), h3 _ (show 3 ≤ 8 by omega), h3 _ (show 3 ≤ 9 by omega), h3 _ (show 3 ≤ 10 by omega), h3 _ (show 3 ≤ 11 by omega), h3 _ (show 3 ≤ 12 by omega), h3 (14 + 15 * h) (by omega), h3 (14 + 15 * h + 13) (by omega), h3 (14 + 15 * h + 14) (by omega)]
  refine ⟨R.1, fun f hf m hm => ?_, R.2.2⟩
  rw [h3 (14 + 15 * h + 2 + f) (by omega), h3 (14 + 15 * h + 8 + f) (by omega)]
  exact R.2.1 f hf m hm
theorem tp_rel_u {n j : Nat} {x : Int32} {I : Nat → Nat → Int32} (hj : j ≠ 1 ∧ j ≠ 2) (R : tp_rel n I) : tp_rel n (tp_u I 2 j x) :=
  tp_rel_cong (tp_u_oth (by decide)) (tp_u_n (fun q => hj.1 q.symm)) (tp_u_n (fun q => hj.2 q.symm)) (fun c hc => tp_u_oth (by omega)) R
theorem tr_u {I : Nat → Nat → Int32} {e h a c j : Nat} {x : Int32} (R : tp_relH I e h a c) : tp_relH (tp_u I 2 j x) e h a c := by
  have h3 : ∀ c, 3 ≤ c → tp_u I 2 j x c = I c := fun c hc => tp_u_oth (by omega)
  have key : ∀ f m b t, tp_scan (tp_u I 2 j x) f m b t = tp_scan I f m b t := fun f m b t => tp_scan_cong t (fun i _ _ => ⟨by rw [h3 5 (by omega)], by rw [h3 6 (by omega)], by rw [h3 7 (by omega)]⟩)
  unfold tp_relH at R ⊢
  simp only [key, h3 _ (show 3 ≤ 3 by omega), h3 _ (show 3 ≤ 4 by omega), h3 _ (show 3 ≤ 5 by omega), h3 _ (show 3 ≤ 6 by omega), h3 _ (show 3 ≤ 7 by omega), h3 _ (show 3 ≤ 8 by omega), h3 _ (show 3 ≤ 9 by omega), h3 _ (show 3 ≤ 10 by omega), h3 _ (show 3 ≤ 11 by omega), h3 _ (show 3 ≤ 12 by omega), h3 (14 + 15 * h) (by omega), h3 (14 + 15 * h + 13) (by omega), h3 (14 + 15 * h + 14) (by omega)]
  refine ⟨R.1, fun f hf m hm => ?_, R.2.2⟩
  rw [h3 (14 + 15 * h + 2 + f) (by omega), h3 (14 + 15 * h + 8 + f) (by omega)]
  exact R.2.1 f hf m hm
/-- a number of a range, or none -/
theorem tm_ix (x : Int32) (N : Nat) (hN : N ≤ 1000000) : (∃ k, k < N ∧ x = nI k) ∨ ((∀ k, k < N → x ≠ nI k) ∧ (x.toInt < 0 ∨ (N : Int) ≤ x.toInt)) := by
  by_cases h : 0 ≤ x.toInt ∧ x.toInt < N
  · obtain ⟨k, hk, e⟩ := tm_nat h.1 (Int.le_of_lt h.2) (by omega)
    refine Or.inl ⟨k, ?_, e⟩
    have h2 := h.2
    rw [e, nI_toInt (by omega)] at h2
    omega
  · refine Or.inr ⟨fun k hk e => h ?_, by omega⟩
    rw [e, nI_toInt (by omega)]
    omega
theorem tm_in {x lo hi : Int32} : tp_in x lo hi = (if lo.toInt ≤ x.toInt ∧ x.toInt ≤ hi.toInt then 1 else 0) := by
  unfold tp_in
  by_cases h1 : x < lo
  · rw [if_pos h1, if_neg (fun q => by rw [tm_lt] at h1; omega)]
  · by_cases h2 : hi < x
    · rw [if_neg h1, if_pos h2, if_neg (fun q => by rw [tm_lt] at h2; omega)]
    · rw [if_neg h1, if_neg h2, if_pos (by rw [tm_lt] at h1 h2; omega)]
theorem tm_n1 {n : Nat} (hn : n ≤ 6) : (nI n - 1).toInt = (n : Int) - 1 := pk_sub_toInt (b := 1) (by omega) (by decide)
theorem tm_home {n : Nat} (hn : n ≤ 6) (x : Int32) : (∃ h, h < n ∧ x = nI h ∧ tp_in x 0 (nI n - 1) = 1) ∨ ((∀ h, h < n → x ≠ nI h) ∧ tp_in x 0 (nI n - 1) = 0) := by
  have c0 : (0 : Int32).toInt = 0 := rfl
  rcases tm_ix x n (by omega) with ⟨k, hk, e⟩ | ⟨h1, h2⟩
  · refine Or.inl ⟨k, hk, e, ?_⟩
    rw [tm_in, tm_n1 hn, e, nI_toInt (by omega), if_pos (by omega)]
  · refine Or.inr ⟨h1, ?_⟩
    rw [tm_in, tm_n1 hn, if_neg (by omega)]
theorem tm_month (x : Int32) : (∃ h, h < 48 ∧ x = nI h ∧ tp_in x 0 47 = 1) ∨ ((∀ h, h < 48 → x ≠ nI h) ∧ tp_in x 0 47 = 0) := by
  have c0 : (0 : Int32).toInt = 0 := rfl
  have c1 : (47 : Int32).toInt = 47 := rfl
  rcases tm_ix x 48 (by omega) with ⟨k, hk, e⟩ | ⟨h1, h2⟩
  · refine Or.inl ⟨k, hk, e, ?_⟩
    rw [tm_in, e, nI_toInt (by omega), if_pos (by omega)]
  · refine Or.inr ⟨h1, ?_⟩
    rw [tm_in, if_neg (by omega)]
theorem tm_fact (x : Int32) : (∃ h, h < 5 ∧ x = nI h ∧ tp_in x 0 4 = 1) ∨ ((∀ h, h < 5 → x ≠ nI h) ∧ tp_in x 0 4 = 0) := by
  have c0 : (0 : Int32).toInt = 0 := rfl
  have c1 : (4 : Int32).toInt = 4 := rfl
  rcases tm_ix x 5 (by omega) with ⟨k, hk, e⟩ | ⟨h1, h2⟩
  · refine Or.inl ⟨k, hk, e, ?_⟩
    rw [tm_in, e, nI_toInt (by omega), if_pos (by omega)]
  · refine Or.inr ⟨h1, ?_⟩
    rw [tm_in, if_neg (by omega)]
theorem tm_day (x : Int32) : (∃ h, h < 1440 ∧ x = nI h ∧ tp_in x 0 1439 = 1) ∨ ((∀ h, h < 1440 → x ≠ nI h) ∧ tp_in x 0 1439 = 0) := by
  have c0 : (0 : Int32).toInt = 0 := rfl
  have c1 : (1439 : Int32).toInt = 1439 := rfl
  rcases tm_ix x 1440 (by omega) with ⟨k, hk, e⟩ | ⟨h1, h2⟩
  · refine Or.inl ⟨k, hk, e, ?_⟩
    rw [tm_in, e, nI_toInt (by omega), if_pos (by omega)]
  · refine Or.inr ⟨h1, ?_⟩
    rw [tm_in, if_neg (by omega)]
theorem tm_ask {I : Nat → Nat → Int32} {n : Nat} (h22 : I 2 2 = nI n) (hn : n ≤ 6) (x y : Int32) : (∃ h m, h < n ∧ m < 48 ∧ x = nI h ∧ y = nI m ∧ tp_ask I x y = 0) ∨ (((∀ h, h < n → x ≠ nI h) ∨ (∃ h, h < n ∧ x = nI h ∧ ∀ m, m < 48 → y ≠ nI m)) ∧ tp_ask I x y = 1) := by
  unfold tp_ask
  rw [h22]
  rcases tm_home hn x with ⟨h, hh, e, e1⟩ | ⟨h1, e1⟩
  · rw [e1, if_neg (by decide)]
    rcases tm_month y with ⟨m, hm, e2, e3⟩ | ⟨h2, e3⟩
    · rw [e3]
      exact Or.inl ⟨h, m, hh, hm, e, e2, if_neg (by decide)⟩
    · rw [e3]
      exact Or.inr ⟨Or.inr ⟨h, hh, e, h2⟩, if_pos rfl⟩
  · rw [e1]
    exact Or.inr ⟨Or.inl h1, if_pos rfl⟩
section TPJ
theorem tj_debt (l : Launch) (hlt : l.stackTraces = false) (D : va_G) (cy : Nat → ClassId) {n : Nat} (ad : Nat → Nat) (o : Int64) {I : Nat → Nat → Int32} (sa : Nat → Nat) (tL tM : Nat) (R : tp_rel n I) (x : Int32) : tp_J l yL_debt wsL_debt yX2_debt wsX2_debt D cy n ad sa tL tM [.ref (ad 0), .int x, .ref (ad 13)] [.ref (ad 2), .int x] (fun z => z.toInt64) I o (tp_rel n) := by
  obtain ⟨hn6, h01, h22, e, aF, cF, he, h02, h21, RF, RH⟩ := id R
  rcases tm_home hn6 x with ⟨h, hh, rfl, e1⟩ | ⟨h1, e1⟩
  · have hq := (RH h hh).2.2.2.2
    exact ⟨_, _, _, _, _, _, _, _, _, _, _, ⟨by decide, by decide, by decide, by decide, by decide, by decide⟩, lp_debt_ok l D cy n ad o I sa tL tM hlt h hh hn6, mp_debt_ok l D cy n ad _ I h (by omega) (by rw [h22]; exact e1), (by rw [tp_u_s]), (fun _ => by rw [hq.1]), (tp_rel_u (by decide) R)⟩
  · exact ⟨_, _, _, _, _, _, _, _, _, _, _, ⟨by decide, by decide, by decide, by decide, by decide, by decide⟩, lp_debt_no l D cy n ad o I sa tL tM hlt x h1 hn6, mp_debt_no l D cy n ad o I x (by rw [h22]; exact e1), (by rw [tp_u_s]), (fun q => absurd q (by decide)), (tp_rel_u (by decide) (tp_rel_u (by decide) R))⟩
theorem tj_recovered (l : Launch) (hlt : l.stackTraces = false) (D : va_G) (cy : Nat → ClassId) {n : Nat} (ad : Nat → Nat) (o : Int64) {I : Nat → Nat → Int32} (sa : Nat → Nat) (tL tM : Nat) (R : tp_rel n I) (x : Int32) : tp_J l yL_recovered wsL_recovered yX2_recovered wsX2_recovered D cy n ad sa tL tM [.ref (ad 0), .int x, .ref (ad 13)] [.ref (ad 2), .int x] (fun z => z.toInt64) I o (tp_rel n) := by
  obtain ⟨hn6, h01, h22, e, aF, cF, he, h02, h21, RF, RH⟩ := id R
  rcases tm_home hn6 x with ⟨h, hh, rfl, e1⟩ | ⟨h1, e1⟩
  · have hq := (RH h hh).2.2.2.2
    exact ⟨_, _, _, _, _, _, _, _, _, _, _, ⟨by decide, by decide, by decide, by decide, by decide, by decide⟩, lp_recovered_ok l D cy n ad o I sa tL tM hlt h hh hn6, mp_recovered_ok l D cy n ad _ I h (by omega) (by rw [h22]; exact e1), (by rw [tp_u_s]), (fun _ => by rw [hq.2.1]), (tp_rel_u (by decide) R)⟩
  · exact ⟨_, _, _, _, _, _, _, _, _, _, _, ⟨by decide, by decide, by decide, by decide, by decide, by decide⟩, lp_recovered_no l D cy n ad o I sa tL tM hlt x h1 hn6, mp_recovered_no l D cy n ad o I x (by rw [h22]; exact e1), (by rw [tp_u_s]), (fun q => absurd q (by decide)), (tp_rel_u (by decide) (tp_rel_u (by decide) R))⟩
theorem tj_unassessed (l : Launch) (hlt : l.stackTraces = false) (D : va_G) (cy : Nat → ClassId) {n : Nat} (ad : Nat → Nat) (o : Int64) {I : Nat → Nat → Int32} (sa : Nat → Nat) (tL tM : Nat) (R : tp_rel n I) (x : Int32) : tp_J l yL_unassessed wsL_unassessed yX2_unassessed wsX2_unassessed D cy n ad sa tL tM [.ref (ad 0), .int x, .ref (ad 13)] [.ref (ad 2), .int x] (fun z => z.toInt64) I o (tp_rel n) := by
  obtain ⟨hn6, h01, h22, e, aF, cF, he, h02, h21, RF, RH⟩ := id R
  rcases tm_home hn6 x with ⟨h, hh, rfl, e1⟩ | ⟨h1, e1⟩
  · have hq := RH h hh
    exact ⟨_, _, _, _, _, _, _, _, _, _, _, ⟨by decide, by decide, by decide, by decide, by decide, by decide⟩, lp_unassessed_ok l D cy n ad o I sa tL tM hlt h hh hn6 (aF h) e hq.1.2.2.1 h02 (Nat.le_trans hq.1.1 he) he, mp_unassessed_ok l D cy n ad _ I h (by omega) (by rw [h22]; exact e1) (tr_C hq) (aF h) e hq.1.2.2.2.1 h21 (Nat.le_trans hq.1.1 he) he, (by rw [tp_u_s]), (fun _ => by rw [← (tr_open (tr_u hq (j := 0) (x := 0)) he).1]; exact congrArg Int32.toInt64 (tp_sum_cong _ _ (fun m _ _ => by rw [tp_due_u (fun f hf => by omega), tp_u_oth (by omega)]))), (tp_rel_u (by decide) R)⟩
  · exact ⟨_, _, _, _, _, _, _, _, _, _, _, ⟨by decide, by decide, by decide, by decide, by decide, by decide⟩, lp_unassessed_no l D cy n ad o I sa tL tM hlt x h1 hn6, mp_unassessed_no l D cy n ad o I x (by rw [h22]; exact e1), (by rw [tp_u_s]), (fun q => absurd q (by decide)), (tp_rel_u (by decide) (tp_rel_u (by decide) R))⟩
theorem tj_need (l : Launch) (hlt : l.stackTraces = false) (D : va_G) (cy : Nat → ClassId) {n : Nat} (ad : Nat → Nat) (o : Int64) {I : Nat → Nat → Int32} (sa : Nat → Nat) (tL tM : Nat) (R : tp_rel n I) (x y : Int32) : tp_J l yL_need wsL_need yX2_need wsX2_need D cy n ad sa tL tM [.ref (ad 0), .int x, .int y, .ref (ad 13)] [.ref (ad 2), .int x, .int y] (fun z => z.toInt64) I o (tp_rel n) := by
  obtain ⟨hn6, h01, h22, e, aF, cF, he, h02, h21, RF, RH⟩ := id R
  rcases tm_ask h22 hn6 x y with ⟨h, m, hh, hm, rfl, rfl, e1⟩ | ⟨h1, e1⟩
  · have hq := RH h hh
    exact ⟨_, _, _, _, _, _, _, _, _, _, _, ⟨by decide, by decide, by decide, by decide, by decide, by decide⟩, lp_need_ok l D cy n ad o I sa tL tM hlt h hh hn6 m hm, mp_need_ok l D cy n ad _ I h (by omega) m hm e1 (tr_C hq), (by rw [tp_u_s]), (fun _ => by rw [(tr_need hq hm).1]; exact congrArg Int32.toInt64 (by unfold tp_mneed; simp only [tp_mfact_cong (I := tp_u I 2 0 0) (J := I) (tp_u_oth (by decide)) (tp_u_oth (by decide)) (tp_u_oth (by decide)) (tp_u_oth (by decide))])), (tp_rel_u (by decide) R)⟩
  · rcases h1 with h1 | ⟨h, hh, rfl, h1⟩
    exact ⟨_, _, _, _, _, _, _, _, _, _, _, ⟨by decide, by decide, by decide, by decide, by decide, by decide⟩, lp_need_no l D cy n ad o I sa tL tM hlt x h1 hn6 y, mp_need_no l D cy n ad o I x y e1, (by rw [tp_u_s]), (fun q => absurd q (by decide)), (tp_rel_u (by decide) R)⟩
    exact ⟨_, _, _, _, _, _, _, _, _, _, _, ⟨by decide, by decide, by decide, by decide, by decide, by decide⟩, lp_need_nomonth l D cy n ad o I sa tL tM hlt h hh hn6 y h1, mp_need_no l D cy n ad o I (nI h) y e1, (by rw [tp_u_s]), (fun q => absurd q (by decide)), (tp_rel_u (by decide) R)⟩
theorem tj_taper (l : Launch) (hlt : l.stackTraces = false) (D : va_G) (cy : Nat → ClassId) {n : Nat} (ad : Nat → Nat) (o : Int64) {I : Nat → Nat → Int32} (sa : Nat → Nat) (tL tM : Nat) (R : tp_rel n I) (x y : Int32) : tp_J l yL_taper wsL_taper yX2_taper wsX2_taper D cy n ad sa tL tM [.ref (ad 0), .int x, .int y, .ref (ad 13)] [.ref (ad 2), .int x, .int y] (fun z => z.toInt64) I o (tp_rel n) := by
  obtain ⟨hn6, h01, h22, e, aF, cF, he, h02, h21, RF, RH⟩ := id R
  rcases tm_ask h22 hn6 x y with ⟨h, m, hh, hm, rfl, rfl, e1⟩ | ⟨h1, e1⟩
  · have hq := RH h hh
    exact ⟨_, _, _, _, _, _, _, _, _, _, _, ⟨by decide, by decide, by decide, by decide, by decide, by decide⟩, lp_taper_ok l D cy n ad o I sa tL tM hlt h hh hn6 m hm, mp_taper_ok l D cy n ad _ I h (by omega) m hm e1 (tr_C hq), (by rw [tp_u_s]), (fun _ => by rw [(tr_taper hq hm).1]; exact congrArg Int32.toInt64 (by unfold tp_mtaper; simp only [tp_mfact_cong (I := tp_u I 2 0 0) (J := I) (tp_u_oth (by decide)) (tp_u_oth (by decide)) (tp_u_oth (by decide)) (tp_u_oth (by decide))])), (tp_rel_u (by decide) R)⟩
  · rcases h1 with h1 | ⟨h, hh, rfl, h1⟩
    exact ⟨_, _, _, _, _, _, _, _, _, _, _, ⟨by decide, by decide, by decide, by decide, by decide, by decide⟩, lp_taper_no l D cy n ad o I sa tL tM hlt x h1 hn6 y, mp_taper_no l D cy n ad o I x y e1, (by rw [tp_u_s]), (fun q => absurd q (by decide)), (tp_rel_u (by decide) R)⟩
    exact ⟨_, _, _, _, _, _, _, _, _, _, _, ⟨by decide, by decide, by decide, by decide, by decide, by decide⟩, lp_taper_nomonth l D cy n ad o I sa tL tM hlt h hh hn6 y h1, mp_taper_no l D cy n ad o I (nI h) y e1, (by rw [tp_u_s]), (fun q => absurd q (by decide)), (tp_rel_u (by decide) R)⟩
theorem tj_tariff (l : Launch) (hlt : l.stackTraces = false) (D : va_G) (cy : Nat → ClassId) {n : Nat} (ad : Nat → Nat) (o : Int64) {I : Nat → Nat → Int32} (sa : Nat → Nat) (tL tM : Nat) (R : tp_rel n I) (x y : Int32) : tp_J l yL_tariff wsL_tariff yX2_tariff wsX2_tariff D cy n ad sa tL tM [.ref (ad 0), .int x, .int y, .ref (ad 13)] [.ref (ad 2), .int x, .int y] (fun z => z.toInt64) I o (tp_rel n) := by
  obtain ⟨hn6, h01, h22, e, aF, cF, he, h02, h21, RF, RH⟩ := id R
  rcases tm_ask h22 hn6 x y with ⟨h, m, hh, hm, rfl, rfl, e1⟩ | ⟨h1, e1⟩
  · have hq := RH h hh
    exact ⟨_, _, _, _, _, _, _, _, _, _, _, ⟨by decide, by decide, by decide, by decide, by decide, by decide⟩, lp_tariff_ok l D cy n ad o I sa tL tM hlt h hh hn6 m hm, mp_tariff_ok l D cy n ad _ I h (by omega) m hm e1 (tr_C hq), (by rw [tp_u_s]), (fun _ => by rw [(tr_tariff hq hm).1]; exact congrArg Int32.toInt64 (by unfold tp_mtariff; simp only [tp_mfact_cong (I := tp_u I 2 0 0) (J := I) (tp_u_oth (by decide)) (tp_u_oth (by decide)) (tp_u_oth (by decide)) (tp_u_oth (by decide))])), (tp_rel_u (by decide) R)⟩
  · rcases h1 with h1 | ⟨h, hh, rfl, h1⟩
    exact ⟨_, _, _, _, _, _, _, _, _, _, _, ⟨by decide, by decide, by decide, by decide, by decide, by decide⟩, lp_tariff_no l D cy n ad o I sa tL tM hlt x h1 hn6 y, mp_tariff_no l D cy n ad o I x y e1, (by rw [tp_u_s]), (fun q => absurd q (by decide)), (tp_rel_u (by decide) R)⟩
    exact ⟨_, _, _, _, _, _, _, _, _, _, _, ⟨by decide, by decide, by decide, by decide, by decide, by decide⟩, lp_tariff_nomonth l D cy n ad o I sa tL tM hlt h hh hn6 y h1, mp_tariff_no l D cy n ad o I (nI h) y e1, (by rw [tp_u_s]), (fun q => absurd q (by decide)), (tp_rel_u (by decide) R)⟩
theorem tj_due (l : Launch) (hlt : l.stackTraces = false) (D : va_G) (cy : Nat → ClassId) {n : Nat} (ad : Nat → Nat) (o : Int64) {I : Nat → Nat → Int32} (sa : Nat → Nat) (tL tM : Nat) (R : tp_rel n I) (x y : Int32) : tp_J l yL_due wsL_due yX2_due wsX2_due D cy n ad sa tL tM [.ref (ad 0), .int x, .int y, .ref (ad 13)] [.ref (ad 2), .int x, .int y] (fun z => z.toInt64) I o (tp_rel n) := by
  obtain ⟨hn6, h01, h22, e, aF, cF, he, h02, h21, RF, RH⟩ := id R
  rcases tm_ask h22 hn6 x y with ⟨h, m, hh, hm, rfl, rfl, e1⟩ | ⟨h1, e1⟩
  · have hq := RH h hh
    exact ⟨_, _, _, _, _, _, _, _, _, _, _, ⟨by decide, by decide, by decide, by decide, by decide, by decide⟩, lp_due_ok l D cy n ad o I sa tL tM hlt h hh hn6 m hm, mp_due_ok l D cy n ad _ I h (by omega) m hm e1 (tr_C hq), (by rw [tp_u_s]), (fun _ => by rw [(tr_due hq hm).1]; exact congrArg Int32.toInt64 ((tp_mdue_cong (tp_u_oth (by decide)) (tp_u_oth (by decide)) (tp_u_oth (by decide)) (tp_u_oth (by decide))).symm)), (tp_rel_u (by decide) R)⟩
  · rcases h1 with h1 | ⟨h, hh, rfl, h1⟩
    exact ⟨_, _, _, _, _, _, _, _, _, _, _, ⟨by decide, by decide, by decide, by decide, by decide, by decide⟩, lp_due_no l D cy n ad o I sa tL tM hlt x h1 hn6 y, mp_due_no l D cy n ad o I x y e1, (by rw [tp_u_s]), (fun q => absurd q (by decide)), (tp_rel_u (by decide) R)⟩
    exact ⟨_, _, _, _, _, _, _, _, _, _, _, ⟨by decide, by decide, by decide, by decide, by decide, by decide⟩, lp_due_nomonth l D cy n ad o I sa tL tM hlt h hh hn6 y h1, mp_due_no l D cy n ad o I (nI h) y e1, (by rw [tp_u_s]), (fun q => absurd q (by decide)), (tp_rel_u (by decide) R)⟩
theorem tj_assessed (l : Launch) (hlt : l.stackTraces = false) (D : va_G) (cy : Nat → ClassId) {n : Nat} (ad : Nat → Nat) (o : Int64) {I : Nat → Nat → Int32} (sa : Nat → Nat) (tL tM : Nat) (R : tp_rel n I) (x y : Int32) : tp_J l yL_assessed wsL_assessed yX2_assessed wsX2_assessed D cy n ad sa tL tM [.ref (ad 0), .int x, .int y, .ref (ad 13)] [.ref (ad 2), .int x, .int y] (fun z => z.toInt64) I o (tp_rel n) := by
  obtain ⟨hn6, h01, h22, e, aF, cF, he, h02, h21, RF, RH⟩ := id R
  rcases tm_ask h22 hn6 x y with ⟨h, m, hh, hm, rfl, rfl, e1⟩ | ⟨h1, e1⟩
  · have hq := RH h hh
    exact ⟨_, _, _, _, _, _, _, _, _, _, _, ⟨by decide, by decide, by decide, by decide, by decide, by decide⟩, lp_assessed_ok l D cy n ad o I sa tL tM hlt h hh hn6 m hm, mp_assessed_ok l D cy n ad _ I h (by omega) m hm e1, (by rw [tp_u_s]), (fun _ => by rw [((RH h hh).2.2.2.1 m hm).1]), (tp_rel_u (by decide) R)⟩
  · rcases h1 with h1 | ⟨h, hh, rfl, h1⟩
    exact ⟨_, _, _, _, _, _, _, _, _, _, _, ⟨by decide, by decide, by decide, by decide, by decide, by decide⟩, lp_assessed_no l D cy n ad o I sa tL tM hlt x h1 hn6 y, mp_assessed_no l D cy n ad o I x y e1, (by rw [tp_u_s]), (fun q => absurd q (by decide)), (tp_rel_u (by decide) R)⟩
    exact ⟨_, _, _, _, _, _, _, _, _, _, _, ⟨by decide, by decide, by decide, by decide, by decide, by decide⟩, lp_assessed_nomonth l D cy n ad o I sa tL tM hlt h hh hn6 y h1, mp_assessed_no l D cy n ad o I (nI h) y e1, (by rw [tp_u_s]), (fun q => absurd q (by decide)), (tp_rel_u (by decide) R)⟩
theorem tj_paid (l : Launch) (hlt : l.stackTraces = false) (D : va_G) (cy : Nat → ClassId) {n : Nat} (ad : Nat → Nat) (o : Int64) {I : Nat → Nat → Int32} (sa : Nat → Nat) (tL tM : Nat) (R : tp_rel n I) (x y : Int32) : tp_J l yL_paid wsL_paid yX2_paid wsX2_paid D cy n ad sa tL tM [.ref (ad 0), .int x, .int y, .ref (ad 13)] [.ref (ad 2), .int x, .int y] (fun z => z.toInt64) I o (tp_rel n) := by
  obtain ⟨hn6, h01, h22, e, aF, cF, he, h02, h21, RF, RH⟩ := id R
  rcases tm_ask h22 hn6 x y with ⟨h, m, hh, hm, rfl, rfl, e1⟩ | ⟨h1, e1⟩
  · have hq := RH h hh
    exact ⟨_, _, _, _, _, _, _, _, _, _, _, ⟨by decide, by decide, by decide, by decide, by decide, by decide⟩, lp_paid_ok l D cy n ad o I sa tL tM hlt h hh hn6 m hm, mp_paid_ok l D cy n ad _ I h (by omega) m hm e1, (by rw [tp_u_s]), (fun _ => by rw [((RH h hh).2.2.2.1 m hm).2.1]), (tp_rel_u (by decide) R)⟩
  · rcases h1 with h1 | ⟨h, hh, rfl, h1⟩
    exact ⟨_, _, _, _, _, _, _, _, _, _, _, ⟨by decide, by decide, by decide, by decide, by decide, by decide⟩, lp_paid_no l D cy n ad o I sa tL tM hlt x h1 hn6 y, mp_paid_no l D cy n ad o I x y e1, (by rw [tp_u_s]), (fun q => absurd q (by decide)), (tp_rel_u (by decide) R)⟩
    exact ⟨_, _, _, _, _, _, _, _, _, _, _, ⟨by decide, by decide, by decide, by decide, by decide, by decide⟩, lp_paid_nomonth l D cy n ad o I sa tL tM hlt h hh hn6 y h1, mp_paid_no l D cy n ad o I (nI h) y e1, (by rw [tp_u_s]), (fun q => absurd q (by decide)), (tp_rel_u (by decide) R)⟩
theorem tj_fact (l : Launch) (hlt : l.stackTraces = false) (D : va_G) (cy : Nat → ClassId) {n : Nat} (ad : Nat → Nat) (o : Int64) {I : Nat → Nat → Int32} (sa : Nat → Nat) (tL tM : Nat) (R : tp_rel n I) (x f y : Int32) : tp_J l yL_fact wsL_fact yX2_fact wsX2_fact D cy n ad sa tL tM [.ref (ad 0), .int x, .int f, .int y, .ref (ad 13)] [.ref (ad 2), .int x, .int f, .int y] (fun z => z.toInt64) I o (tp_rel n) := by
  obtain ⟨hn6, h01, h22, e, aF, cF, he, h02, h21, RF, RH⟩ := id R
  rcases tm_ask h22 hn6 x y with ⟨h, m, hh, hm, rfl, rfl, e1⟩ | ⟨h1, e1⟩
  · have hq := RH h hh
    rcases tm_fact f with ⟨f0, hf, rfl, e2⟩ | ⟨h2, e2⟩
    exact ⟨_, _, _, _, _, _, _, _, _, _, _, ⟨by decide, by decide, by decide, by decide, by decide, by decide⟩, lp_fact_ok l D cy n ad o I sa tL tM hlt h hh hn6 f0 m hf hm, mp_fact_ok l D cy n ad _ I h (by omega) m hm e1 (nI f0) e2 (tr_C hq), (by rw [tp_u_s]), (fun _ => by rw [tr_f hq hf hm]; exact congrArg Int32.toInt64 (tp_mfact_cong (tp_u_oth (by decide)) (tp_u_oth (by decide)) (tp_u_oth (by decide)) (tp_u_oth (by decide))).symm), (tp_rel_u (by decide) R)⟩
    exact ⟨_, _, _, _, _, _, _, _, _, _, _, ⟨by decide, by decide, by decide, by decide, by decide, by decide⟩, lp_fact_bad l D cy n ad o I sa tL tM hlt h hh hn6 m hm f h2, mp_fact_bad l D cy n ad o I h (by omega) m hm e1 f e2, (by rw [tp_u_s]), (fun q => absurd q (by decide)), (tp_rel_u (by decide) (tp_rel_u (by decide) R))⟩
  · rcases h1 with h1 | ⟨h, hh, rfl, h1⟩
    exact ⟨_, _, _, _, _, _, _, _, _, _, _, ⟨by decide, by decide, by decide, by decide, by decide, by decide⟩, lp_fact_no l D cy n ad o I sa tL tM hlt x h1 hn6 f y, mp_fact_no l D cy n ad o I x f y e1, (by rw [tp_u_s]), (fun q => absurd q (by decide)), (tp_rel_u (by decide) R)⟩
    exact ⟨_, _, _, _, _, _, _, _, _, _, _, ⟨by decide, by decide, by decide, by decide, by decide, by decide⟩, lp_fact_nomonth l D cy n ad o I sa tL tM hlt h hh hn6 f y h1, mp_fact_no l D cy n ad o I (nI h) f y e1, (by rw [tp_u_s]), (fun q => absurd q (by decide)), (tp_rel_u (by decide) R)⟩
end TPJ
