/-! A CHANGE TOLD -/
theorem tm_first (P : Nat → Prop) (hP : ∀ m, P m ∨ ¬ P m) (r : Nat) : ∀ k, r + k = 48 → ∃ z, r ≤ z ∧ z ≤ 48 ∧ (∀ m, r ≤ m → m < z → P m) ∧ (z = 48 ∨ ¬ P z)
  | 0, hk => ⟨r, Nat.le_refl _, by omega, fun m a b => by omega, Or.inl (by omega)⟩
  | k + 1, hk => by
    obtain ⟨z, z1, z2, z3, z4⟩ := tm_first P hP (r + 1) k (by omega)
    rcases hP r with h | h
    · exact ⟨z, by omega, z2, fun m a b => by
        by_cases e : m = r
        · rw [e]
          exact h
        · exact z3 m (by omega) b, z4⟩
    · exact ⟨r, Nat.le_refl _, by omega, fun m a b => by omega, Or.inr h⟩
/-- the latest month that counts grows with the month asked -/
theorem tm_mono {I : Nat → Nat → Int32} {f : Int32} {b m m2 : Nat} (h : m ≤ m2) (hm : m2 < 48) : ∀ t : Nat, (tp_scan I f (nI m) b t).2.toInt ≤ (tp_scan I f (nI m2) b t).2.toInt
  | 0 => Int.le_refl _
  | t + 1 => by
    have ih := tm_mono (I := I) (f := f) (b := b) h hm t
    have c0 : (0 : Int32) = 0 := rfl
    have t1 : (nI m).toInt = m := nI_toInt (by omega)
    have t2 : (nI m2).toInt = m2 := nI_toInt (by omega)
    unfold tp_scan
    dsimp only
    generalize (tp_scan I f (nI m) b t).2 = x at ih ⊢
    generalize (tp_scan I f (nI m2) b t).2 = y at ih ⊢
    unfold tp_cnt
    by_cases h5 : I 5 (b + t) = f
    · rw [if_pos h5, if_pos h5]
      by_cases p1 : nI m < I 6 (b + t)
      · rw [if_pos p1, if_pos rfl]
        by_cases p2 : nI m2 < I 6 (b + t)
        · rw [if_pos p2, if_pos rfl]
          exact ih
        · rw [if_neg p2]
          by_cases p3 : I 6 (b + t) < y
          · rw [if_pos p3, if_pos rfl]
            exact ih
          · rw [if_neg p3, if_neg (by decide)]
            rw [tm_lt] at p3
            omega
      · rw [if_neg p1, if_neg (show ¬ nI m2 < I 6 (b + t) from fun q => by rw [tm_lt] at p1 q; omega)]
        by_cases p3 : I 6 (b + t) < y
        · rw [if_pos p3, if_pos rfl]
          rw [tm_lt] at p3
          by_cases p4 : I 6 (b + t) < x
          · rw [if_pos p4, if_pos rfl]
            exact ih
          · rw [if_neg p4, if_neg (by decide)]
            omega
        · rw [if_neg p3, if_neg (show ¬ I 6 (b + t) < x from fun q => by rw [tm_lt] at p3 q; omega), if_neg (by decide), if_neg (by decide)]
          exact Int.le_refl _
    · rw [if_neg h5, if_neg h5, if_pos rfl, if_pos rfl]
      exact ih
theorem tm_z {x : Int32} {r : Nat} (hr : r ≤ 48) : tp_z x ≤ nI r ↔ ¬ nI r < x := by
  have t1 : (nI r).toInt = r := nI_toInt (by omega)
  have c0 : (0 : Int32).toInt = 0 := rfl
  have c1 : (-1 : Int32).toInt = -1 := rfl
  unfold tp_z
  by_cases h : x = -1
  · rw [if_pos h, h, tm_le, tm_lt]
    omega
  · rw [if_neg h, tm_le, tm_lt]
    omega
theorem tm_zr {r : Nat} (hr : r ≤ 48) : tp_z (nI r) = nI r := by
  refine if_neg (fun q => ?_)
  have t1 : (nI r).toInt = r := nI_toInt (by omega)
  rw [q] at t1
  have c1 : (-1 : Int32).toInt = -1 := rfl
  omega
theorem tm_r0 {d : Nat} (hd : d < 1440) : tp_r0 d ≤ 48 ∧ nI d / 30 + (if 15 ≤ nI d - nI d / 30 * 30 then 1 else 0) = nI (tp_r0 d) := by
  have e1 : nI d / 30 = nI (d / 30) := pk_div (d := 30) (by omega) (by decide) (by decide)
  have e2 : nI d - nI d / 30 * 30 = nI (d % 30) := pk_rem (d := 30) (by omega) (by decide) (by decide)
  have e3 : (15 : Int32) ≤ nI (d % 30) ↔ 15 ≤ d % 30 := nI_leI (a := 15) (by decide) (by omega)
  rw [e2, e1]
  unfold tp_r0
  by_cases h : 15 ≤ d % 30
  · rw [if_pos h, if_pos (e3.mpr h)]
    exact ⟨by omega, nI_add _ 1⟩
  · rw [if_neg h, if_neg (fun q => h (e3.mp q))]
    exact ⟨by omega, by simp⟩
theorem tm_vr {f : Nat} (hf : f < 5) : tp_low (nI f) = tp_vl f ∧ tp_great (nI f) = tp_vm f := by
  rcases (show f = 0 ∨ f = 1 ∨ f = 2 ∨ f = 3 ∨ f = 4 by omega) with rfl | rfl | rfl | rfl | rfl <;> exact ⟨by decide, by decide⟩
def tp_updN (c : Nat → Nat) (h x : Nat) : Nat → Nat := fun j => if j = h then x else c j
section TPJ3
theorem tj_tell (l : Launch) (hlt : l.stackTraces = false) (D : va_G) (cy : Nat → ClassId) {n : Nat} (ad : Nat → Nat) (o : Int64) {I : Nat → Nat → Int32} (sa : Nat → Nat) (tL tM : Nat) (R : tp_rel n I) (x f d v : Int32) : tp_J l yL_tell wsL_tell yX2_tell wsX2_tell D cy n ad sa tL tM [.ref (ad 0), .int x, .int f, .int d, .int v, .ref (ad 13)] [.ref (ad 2), .int x, .int f, .int d, .int v] (fun z => z.toInt64) I o (tp_rel n) := by
  obtain ⟨hn6, h01, h22, e, aF, cF, he, h02, h21, RF, RH⟩ := id R
  rcases tm_home hn6 x with ⟨h, hh, rfl, e1⟩ | ⟨h1, e1⟩
  · have hq := RH h hh
    have e1 : tp_in (nI h) 0 (I 2 2 - 1) = 1 := by rw [h22]; exact e1
    rcases tm_fact f with ⟨f0, hf0, rfl, e2⟩ | ⟨h2, e2⟩
    · rcases tm_day d with ⟨d0, hd0, rfl, e3⟩ | ⟨h3, e3⟩
      · obtain ⟨v1, v2⟩ := tm_vr hf0
        by_cases hv1 : v < tp_vl f0
        · exact ⟨_, _, _, _, _, _, _, _, _, _, _, ⟨by decide, by decide, by decide, by decide, by decide, by decide⟩, lp_tell_value l D cy n ad o I sa tL tM hlt h hh hn6 f0 d0 hf0 hd0 v (Or.inl hv1), mp_tell_bad l D cy n ad o I h (by omega) e1 (nI f0) (nI d0) v (by unfold tp_tok; rw [e2, e3, v1, v2, if_neg (by decide), if_neg (by decide)]; exact if_pos hv1), by rw [tp_u_s], fun q => absurd q (by decide), tp_rel_u (by decide) (tp_rel_u (by decide) R)⟩
        by_cases hv2 : v ≤ tp_vm f0
        · have htok : tp_tok (nI f0) (nI d0) v = 1 := by
            unfold tp_tok
            rw [e2, e3, v1, v2, if_neg (by decide), if_neg (by decide)]
            unfold tp_in
            rw [if_neg hv1, if_neg (fun q => by rw [tm_lt] at q; rw [tm_le] at hv2; omega)]
          obtain ⟨⟨r1, r2, r3, r4, r5, r6⟩, r7, r8, r9, r10⟩ := id hq
          have p100 : I (14 + 15 * h) 2 < 100 ↔ cF h < 100 := by rw [r5]; exact nI_ltI (b := 100) (by omega) (by decide)
          by_cases hc : cF h < 100
          · obtain ⟨hr48, er⟩ := tm_r0 hd0
            obtain ⟨z, z1, z2, z3, z4⟩ := tm_first (fun m => I (14 + 15 * h + 8 + f0) m ≤ nI (tp_r0 d0)) (fun m => Decidable.em _) (tp_r0 d0) (48 - tp_r0 d0) (by omega)
            refine ⟨_, _, _, _, _, _, _, _, _, _, _, ⟨by decide, by decide, by decide, by decide, by decide, by decide⟩, lp_tell_ok l D cy n ad o I sa tL tM hlt h hh hn6 f0 d0 hf0 hd0 v hv1 hv2 (p100.mpr hc) z z1 z2 z3 z4, mp_tell_ok l D cy n ad _ (tp_chg I (14 + 15 * h) f0 (tp_r0 d0) v (z - tp_r0 d0)) h (by omega) ?_ (nI f0) (nI d0) v htok (cF h) ?_ hc, ?_, fun _ => ?_, ?_⟩
            · unfold tp_chg
              rw [tp_fill_oth (by omega), tp_fill_oth (by omega), tp_u_oth (by omega)]
              exact e1
            · unfold tp_chg
              rw [tp_fill_oth (by omega), tp_fill_oth (by omega), tp_u_oth (by omega)]
              exact r6
            · rw [tp_u_oth (by decide), tp_u_oth (by decide), tp_u_oth (by decide), tp_u_oth (by decide), tp_u_s]
            · rw [er]
            · rw [er]
              have g5 : (tp_u (tp_u (tp_u (tp_u (tp_u (tp_chg I (14 + 15 * h) f0 (tp_r0 d0) v (z - tp_r0 d0)) 2 0 0) 5 (100 * h + cF h) (nI f0)) 6 (100 * h + cF h) (nI (tp_r0 d0))) 7 (100 * h + cF h) v) 4 h (nI (cF h + 1))) 5 = upd (I 5) (100 * h + cF h) (nI f0) := by
                rw [tp_u_oth (by decide), tp_u_oth (by decide), tp_u_oth (by decide), tp_u_at, tp_u_oth (by decide)]
                unfold tp_chg
                rw [tp_fill_oth (by omega), tp_fill_oth (by omega), tp_u_oth (by omega)]
              have g6 : (tp_u (tp_u (tp_u (tp_u (tp_u (tp_chg I (14 + 15 * h) f0 (tp_r0 d0) v (z - tp_r0 d0)) 2 0 0) 5 (100 * h + cF h) (nI f0)) 6 (100 * h + cF h) (nI (tp_r0 d0))) 7 (100 * h + cF h) v) 4 h (nI (cF h + 1))) 6 = upd (I 6) (100 * h + cF h) (nI (tp_r0 d0)) := by
                rw [tp_u_oth (by decide), tp_u_oth (by decide), tp_u_at, tp_u_oth (by decide), tp_u_oth (by decide)]
                unfold tp_chg
                rw [tp_fill_oth (by omega), tp_fill_oth (by omega), tp_u_oth (by omega)]
              have g7 : (tp_u (tp_u (tp_u (tp_u (tp_u (tp_chg I (14 + 15 * h) f0 (tp_r0 d0) v (z - tp_r0 d0)) 2 0 0) 5 (100 * h + cF h) (nI f0)) 6 (100 * h + cF h) (nI (tp_r0 d0))) 7 (100 * h + cF h) v) 4 h (nI (cF h + 1))) 7 = upd (I 7) (100 * h + cF h) v := by
                rw [tp_u_oth (by decide), tp_u_at, tp_u_oth (by decide), tp_u_oth (by decide), tp_u_oth (by decide)]
                unfold tp_chg
                rw [tp_fill_oth (by omega), tp_fill_oth (by omega), tp_u_oth (by omega)]
              have g4 : (tp_u (tp_u (tp_u (tp_u (tp_u (tp_chg I (14 + 15 * h) f0 (tp_r0 d0) v (z - tp_r0 d0)) 2 0 0) 5 (100 * h + cF h) (nI f0)) 6 (100 * h + cF h) (nI (tp_r0 d0))) 7 (100 * h + cF h) v) 4 h (nI (cF h + 1))) 4 = upd (I 4) h (nI (cF h + 1)) := by
                rw [tp_u_at, tp_u_oth (by decide), tp_u_oth (by decide), tp_u_oth (by decide), tp_u_oth (by decide)]
                unfold tp_chg
                rw [tp_fill_oth (by omega), tp_fill_oth (by omega), tp_u_oth (by omega)]
              have g2 : ∀ j, j ≠ 0 → (tp_u (tp_u (tp_u (tp_u (tp_u (tp_chg I (14 + 15 * h) f0 (tp_r0 d0) v (z - tp_r0 d0)) 2 0 0) 5 (100 * h + cF h) (nI f0)) 6 (100 * h + cF h) (nI (tp_r0 d0))) 7 (100 * h + cF h) v) 4 h (nI (cF h + 1))) 2 j = I 2 j := fun j hj => by
                rw [tp_u_oth (by decide), tp_u_oth (by decide), tp_u_oth (by decide), tp_u_oth (by decide), tp_u_n hj]
                unfold tp_chg
                rw [tp_fill_oth (by omega), tp_fill_oth (by omega), tp_u_oth (by omega)]
              have gb : (tp_u (tp_u (tp_u (tp_u (tp_u (tp_chg I (14 + 15 * h) f0 (tp_r0 d0) v (z - tp_r0 d0)) 2 0 0) 5 (100 * h + cF h) (nI f0)) 6 (100 * h + cF h) (nI (tp_r0 d0))) 7 (100 * h + cF h) v) 4 h (nI (cF h + 1))) (14 + 15 * h) = upd (I (14 + 15 * h)) 2 (I (14 + 15 * h) 2 + 1) := by
                rw [tp_u_oth (by omega), tp_u_oth (by omega), tp_u_oth (by omega), tp_u_oth (by omega), tp_u_oth (by omega)]
                unfold tp_chg
                rw [tp_fill_oth (by omega), tp_fill_oth (by omega), tp_u_at]
              have gv : (tp_u (tp_u (tp_u (tp_u (tp_u (tp_chg I (14 + 15 * h) f0 (tp_r0 d0) v (z - tp_r0 d0)) 2 0 0) 5 (100 * h + cF h) (nI f0)) 6 (100 * h + cF h) (nI (tp_r0 d0))) 7 (100 * h + cF h) v) 4 h (nI (cF h + 1))) (14 + 15 * h + 2 + f0) = fun j => if tp_r0 d0 ≤ j ∧ j < z then v else I (14 + 15 * h + 2 + f0) j := by
                rw [tp_u_oth (by omega), tp_u_oth (by omega), tp_u_oth (by omega), tp_u_oth (by omega), tp_u_oth (by omega)]
                unfold tp_chg
                rw [tp_fill_oth (by omega), tp_fill_at, tp_u_oth (by omega), show tp_r0 d0 + (z - tp_r0 d0) = z by omega]
              have gs : (tp_u (tp_u (tp_u (tp_u (tp_u (tp_chg I (14 + 15 * h) f0 (tp_r0 d0) v (z - tp_r0 d0)) 2 0 0) 5 (100 * h + cF h) (nI f0)) 6 (100 * h + cF h) (nI (tp_r0 d0))) 7 (100 * h + cF h) v) 4 h (nI (cF h + 1))) (14 + 15 * h + 8 + f0) = fun j => if tp_r0 d0 ≤ j ∧ j < z then nI (tp_r0 d0) else I (14 + 15 * h + 8 + f0) j := by
                rw [tp_u_oth (by omega), tp_u_oth (by omega), tp_u_oth (by omega), tp_u_oth (by omega), tp_u_oth (by omega)]
                unfold tp_chg
                rw [tp_fill_at, tp_fill_oth (by omega), tp_u_oth (by omega), show tp_r0 d0 + (z - tp_r0 d0) = z by omega]
              have go : ∀ k, k ≠ 2 → k ≠ 4 → k ≠ 5 → k ≠ 6 → k ≠ 7 → k ≠ 14 + 15 * h → k ≠ 14 + 15 * h + 2 + f0 → k ≠ 14 + 15 * h + 8 + f0 → (tp_u (tp_u (tp_u (tp_u (tp_u (tp_chg I (14 + 15 * h) f0 (tp_r0 d0) v (z - tp_r0 d0)) 2 0 0) 5 (100 * h + cF h) (nI f0)) 6 (100 * h + cF h) (nI (tp_r0 d0))) 7 (100 * h + cF h) v) 4 h (nI (cF h + 1))) k = I k := fun k q2 q4 q5 q6 q7 qb qv qs => by
                rw [tp_u_oth q4, tp_u_oth q7, tp_u_oth q6, tp_u_oth q5, tp_u_oth q2]
                unfold tp_chg
                rw [tp_fill_oth qs, tp_fill_oth qv, tp_u_oth qb]
              generalize (tp_u (tp_u (tp_u (tp_u (tp_u (tp_chg I (14 + 15 * h) f0 (tp_r0 d0) v (z - tp_r0 d0)) 2 0 0) 5 (100 * h + cF h) (nI f0)) 6 (100 * h + cF h) (nI (tp_r0 d0))) 7 (100 * h + cF h) v) 4 h (nI (cF h + 1))) = J at g5 g6 g7 g4 g2 gb gv gs go ⊢
              have f0' := go 0 (by omega) (by omega) (by omega) (by omega) (by omega) (by omega) (by omega) (by omega)
              have f3 := go 3 (by omega) (by omega) (by omega) (by omega) (by omega) (by omega) (by omega) (by omega)
              have f8 := go 8 (by omega) (by omega) (by omega) (by omega) (by omega) (by omega) (by omega) (by omega)
              have f9 := go 9 (by omega) (by omega) (by omega) (by omega) (by omega) (by omega) (by omega) (by omega)
              have f10 := go 10 (by omega) (by omega) (by omega) (by omega) (by omega) (by omega) (by omega) (by omega)
              have f11 := go 11 (by omega) (by omega) (by omega) (by omega) (by omega) (by omega) (by omega) (by omega)
              have f12 := go 12 (by omega) (by omega) (by omega) (by omega) (by omega) (by omega) (by omega) (by omega)
              refine ⟨hn6, by rw [f0']; exact h01, by rw [g2 2 (by decide)]; exact h22, e, aF, tp_updN cF h (cF h + 1), he, by rw [f0']; exact h02, by rw [g2 1 (by decide)]; exact h21, fun j q1 q2 => tp_fh_cong (RF j q1 q2) (by rw [g4, pk_un (by omega)]) (by rw [f10]) (by rw [f11]) (by rw [f12]) (fun m hm => by rw [f8, f9]; exact ⟨rfl, rfl⟩), fun j hj => ?_⟩
              by_cases ej : j = h
              · subst ej
                rw [show tp_updN cF j (cF j + 1) j = cF j + 1 from if_pos rfl]
                have hsc : ∀ (f m : Int32) (t : Nat), t ≤ cF j → tp_scan J f m (100 * j) t = tp_scan I f m (100 * j) t := fun f m t ht => tp_scan_cong t (fun i q1 q2 => by
                  rw [g5, g6, g7, pk_un (by omega), pk_un (by omega), pk_un (by omega)]
                  exact ⟨rfl, rfl, rfl⟩)
                refine ⟨⟨r1, by omega, ?_, by rw [f3]; exact r4, ?_, ?_⟩, fun f hf m hm => ?_, fun i hi => ?_, fun m hm => ?_, ?_⟩
                · rw [gb, pk_un (by decide)]
                  exact r3
                · rw [gb, pk_us, r5]
                  exact nI_1 _
                · rw [g4, pk_us]
                · obtain ⟨s1, s2⟩ := r7 f hf m hm
                  unfold tp_scan
                  dsimp only
                  rw [hsc _ _ _ (Nat.le_refl _)]
                  by_cases ef : f = f0
                  · subst ef
                    obtain ⟨y1, y2⟩ : (tp_r0 d0 ≤ m ∧ m < z) ↔ ¬ tp_cnt J (nI f) (nI m) (tp_scan I (nI f) (nI m) (100 * j) (cF j)).2 (100 * j + cF j) = 0 := by
                      unfold tp_cnt
                      rw [g5, g6, pk_us, pk_us, if_pos rfl]
                      by_cases hm1 : tp_r0 d0 ≤ m
                      · rw [if_neg (nI_nlt hm1 (by omega))]
                        by_cases hm2 : m < z
                        · have := z3 m hm1 hm2
                          rw [s2, tm_z hr48] at this
                          rw [if_neg this]
                          exact ⟨fun _ => by decide, fun _ => ⟨hm1, hm2⟩⟩
                        · have hz : ¬ I (14 + 15 * j + 8 + f) z ≤ nI (tp_r0 d0) := z4.resolve_left (by omega)
                          rw [(r7 f hf z (by omega)).2, tm_z hr48] at hz
                          have hz := Decidable.of_not_not hz
                          have hmo := tm_mono (I := I) (f := nI f) (b := 100 * j) (m := z) (m2 := m) (by omega) hm (cF j)
                          rw [if_pos (by rw [tm_lt] at hz ⊢; omega)]
                          exact ⟨fun q => absurd q.2 hm2, fun q => absurd rfl q⟩
                      · rw [if_pos (nI_lt (by omega) (by omega))]
                        exact ⟨fun q => absurd q.1 hm1, fun q => absurd rfl q⟩
                    rw [gv, gs, g6, g7, pk_us, pk_us]
                    dsimp only
                    by_cases hw : tp_r0 d0 ≤ m ∧ m < z
                    · rw [if_pos hw, if_pos hw, if_neg (y1 hw), if_neg (y1 hw), tm_zr hr48]
                      exact ⟨rfl, rfl⟩
                    · have hw2 := Decidable.of_not_not (fun q => hw (y2 q))
                      rw [if_neg hw, if_neg hw, if_pos hw2, if_pos hw2]
                      exact ⟨s1, s2⟩
                  · rw [go (14 + 15 * j + 2 + f) (by omega) (by omega) (by omega) (by omega) (by omega) (by omega) (by omega) (by omega), go (14 + 15 * j + 8 + f) (by omega) (by omega) (by omega) (by omega) (by omega) (by omega) (by omega) (by omega)]
                    have hcn : tp_cnt J (nI f) (nI m) (tp_scan I (nI f) (nI m) (100 * j) (cF j)).2 (100 * j + cF j) = 0 := by
                      unfold tp_cnt
                      rw [g5, pk_us]
                      exact if_neg (fun q => ef (tp_nIj q (by omega) (by omega)).symm)
                    rw [if_pos hcn, if_pos hcn]
                    exact ⟨s1, s2⟩
                · rw [g5, g6, g7]
                  by_cases ei : i = cF j
                  · subst ei
                    rw [pk_us, pk_us, pk_us]
                    exact ⟨f0, tp_r0 d0, hf0, hr48, rfl, rfl, hv1, hv2⟩
                  · rw [pk_un (by omega), pk_un (by omega), pk_un (by omega)]
                    exact r8 i (by omega)
                · rw [go (14 + 15 * j + 13) (by omega) (by omega) (by omega) (by omega) (by omega) (by omega) (by omega) (by omega), go (14 + 15 * j + 14) (by omega) (by omega) (by omega) (by omega) (by omega) (by omega) (by omega) (by omega), f8, f9]
                  exact r9 m hm
                · rw [gb, pk_un (by decide), pk_un (by decide), pk_un (by decide), f10, f11, f12]
                  exact r10
              · rw [show tp_updN cF h (cF h + 1) j = cF j from if_neg ej]
                refine tr_same (RH j hj) (fun i hi => go _ (by omega) (by omega) (by omega) (by omega) (by omega) (by omega) (by omega) (by omega)) (by rw [f3]) (by rw [g4, pk_un ej]) (fun i hi => ?_) (fun m hm => by rw [f8, f9]; exact ⟨rfl, rfl⟩) (by rw [f10]) (by rw [f11]) (by rw [f12])
                rw [g5, g6, g7, pk_un (by omega), pk_un (by omega), pk_un (by omega)]
                exact ⟨rfl, rfl, rfl⟩
          · have hc1 : I 4 h = 100 := by
              rw [r6]
              exact congrArg nI (show cF h = 100 by omega)
            exact ⟨_, _, _, _, _, _, _, _, _, _, _, ⟨by decide, by decide, by decide, by decide, by decide, by decide⟩, lp_tell_full l D cy n ad o I sa tL tM hlt h hh hn6 f0 d0 hf0 hd0 v hv1 hv2 (fun q => hc (p100.mp q)), mp_tell_full l D cy n ad o I h (by omega) e1 (nI f0) (nI d0) v htok hc1, by rw [tp_u_s], fun q => absurd q (by decide), tp_rel_u (by decide) (tp_rel_u (by decide) R)⟩
        · exact ⟨_, _, _, _, _, _, _, _, _, _, _, ⟨by decide, by decide, by decide, by decide, by decide, by decide⟩, lp_tell_value l D cy n ad o I sa tL tM hlt h hh hn6 f0 d0 hf0 hd0 v (Or.inr hv2), mp_tell_bad l D cy n ad o I h (by omega) e1 (nI f0) (nI d0) v (by unfold tp_tok; rw [e2, e3, v1, v2, if_neg (by decide), if_neg (by decide)]; unfold tp_in; rw [if_neg hv1, if_pos (by rw [tm_lt]; rw [tm_le] at hv2; omega)]), by rw [tp_u_s], fun q => absurd q (by decide), tp_rel_u (by decide) (tp_rel_u (by decide) R)⟩
      · exact ⟨_, _, _, _, _, _, _, _, _, _, _, ⟨by decide, by decide, by decide, by decide, by decide, by decide⟩, lp_tell_day l D cy n ad o I sa tL tM hlt h hh hn6 f0 hf0 d v h3, mp_tell_bad l D cy n ad o I h (by omega) e1 (nI f0) d v (by unfold tp_tok; rw [e2, e3, if_neg (by decide), if_pos rfl]), by rw [tp_u_s], fun q => absurd q (by decide), tp_rel_u (by decide) (tp_rel_u (by decide) R)⟩
    · exact ⟨_, _, _, _, _, _, _, _, _, _, _, ⟨by decide, by decide, by decide, by decide, by decide, by decide⟩, lp_tell_fact l D cy n ad o I sa tL tM hlt h hh hn6 f h2 d v, mp_tell_bad l D cy n ad o I h (by omega) e1 f d v (by unfold tp_tok; rw [e2, if_pos rfl]), by rw [tp_u_s], fun q => absurd q (by decide), tp_rel_u (by decide) (tp_rel_u (by decide) R)⟩
  · exact ⟨_, _, _, _, _, _, _, _, _, _, _, ⟨by decide, by decide, by decide, by decide, by decide, by decide⟩, lp_tell_no l D cy n ad o I sa tL tM hlt x h1 hn6 f d v, mp_tell_no l D cy n ad o I x f d v (by rw [h22]; exact e1), by rw [tp_u_s], fun q => absurd q (by decide), tp_rel_u (by decide) (tp_rel_u (by decide) R)⟩
end TPJ3
