set_option maxHeartbeats 4000000 in
set_option maxRecDepth 100000 in
/-- lowerDebt(cents) -/
theorem hc_lowerDebt (l : Launch) (D : va_G) (cy : Nat → ClassId) (n : Nat) (ad : Nat → Nat) (o : Int64) (I : Nat → Nat → Int32) (i : Nat) (hi : i < n) (x : Int32) : tp_V l yX0_lowerDebt wsX0_lowerDebt (tp_rm 0 0) D cy n ad o [.ref (ad (9 + 15 * i)), .int x] I (tp_u (tp_u I (9 + 15 * i) 6 (I (9 + 15 * i) 6 - x)) (9 + 15 * i) 7 (I (9 + 15 * i) 7 + x)) := by
  refine tp_ofV (lv := [(0, .ref (ad (9 + 15 * i))), (1, .int x)]) (by decide) rfl (Nat.le_of_ble_eq_true rfl) rfl (fun p e s m args below meth c A ls S0 => ?_)
  obtain ⟨hx, hb, hr, hml, hown, hts, hlocks, hA, hK, hP, hD, hS, hl⟩ := S0
  refine lv_aload_n hx hb dX0_lowerDebt_0 rfl (lv_at hl 0 rfl) ?_
  refine lv_dup hx hb dX0_lowerDebt_1 rfl ?_
  refine va_get (D := D) (ci := 0) (v := .int (I (9 + 15 * i) 6)) (C := RX0) (T := TX0) (N := 9) hx hb hts (fun _ h => List.mem_cons_of_mem _ (List.mem_append_right _ (h))) hown hK hP (9 + 15 * i) (tp_eh hi) rfl 6 (by decide) (hts _ (List.mem_of_getElem? (i := 1) rfl)) (fun _ h9 => h9) rfl dX0_lowerDebt_2 ?_
  refine lv_iload_n hx hb dX0_lowerDebt_5 rfl (lv_at hl 1 rfl) ?_
  refine lv_isub hx hb dX0_lowerDebt_6 ?_
  refine tp_put (ci := 0) (v := ((I (9 + 15 * i) 6) - x)) (ty := .int) (C := RX0) (T := TX0) (N := 9) hx hb hts (fun _ h => List.mem_cons_of_mem _ (List.mem_append_right _ (h))) tyX0 tyX0_ok nmX0 hown hK hP hD hS (9 + 15 * i) (tp_eh hi) (by omega) rfl 6 (by decide) (hts _ (List.mem_of_getElem? (i := 1) rfl)) rfl (by decide +kernel) rfl rfl (Nat.le_of_ble_eq_true rfl) (tp_ch6 i _) dX0_lowerDebt_7 (fun H locs hP hD hS => ?_)
  refine lv_aload_n hx hb dX0_lowerDebt_10 rfl (lv_at hl 0 rfl) ?_
  refine lv_dup hx hb dX0_lowerDebt_11 rfl ?_
  refine va_get (D := D) (ci := 0) (v := .int ((tp_u I (9 + 15 * i) 6 ((I (9 + 15 * i) 6) - x)) (9 + 15 * i) 7)) (C := RX0) (T := TX0) (N := 9) hx hb hts (fun _ h => List.mem_cons_of_mem _ (List.mem_append_right _ (h))) hown hK hP (9 + 15 * i) (tp_eh hi) rfl 7 (by decide) (hts _ (List.mem_of_getElem? (i := 2) rfl)) (fun _ h9 => h9) rfl dX0_lowerDebt_12 ?_
  refine tp_eqi (y := (I (9 + 15 * i) 7)) (by rw [tp_u_n (b := 7) (j := 6) (by decide)]) ?_
  refine lv_iload_n hx hb dX0_lowerDebt_15 rfl (lv_at hl 1 rfl) ?_
  refine lv_iadd hx hb dX0_lowerDebt_16 ?_
  refine tp_put (ci := 0) (v := ((I (9 + 15 * i) 7) + x)) (ty := .int) (C := RX0) (T := TX0) (N := 9) hx hb hts (fun _ h => List.mem_cons_of_mem _ (List.mem_append_right _ (h))) tyX0 tyX0_ok nmX0 hown hK hP hD hS (9 + 15 * i) (tp_eh hi) (by omega) rfl 7 (by decide) (hts _ (List.mem_of_getElem? (i := 2) rfl)) rfl (by decide +kernel) rfl rfl (Nat.le_of_ble_eq_true rfl) (tp_ch7 i _) dX0_lowerDebt_17 (fun H locs hP hD hS => ?_)
  exact tp_retv hx hb hr hlocks hK hP hD hS rfl dX0_lowerDebt_20
set_option maxHeartbeats 4000000 in
set_option maxRecDepth 100000 in
/-- settle(month) -/
theorem hc_settle (l : Launch) (D : va_G) (cy : Nat → ClassId) (n : Nat) (ad : Nat → Nat) (o : Int64) (I : Nat → Nat → Int32) (i : Nat) (hi : i < n) (a0 m0 : Nat) (ha : I (9 + 15 * i) 3 = nI a0) (ha8 : a0 ≤ m0) (hm : m0 < 48) : tp_I l yX0_settle wsX0_settle (tp_rm 5 114) D cy n ad o [.ref (ad (9 + 15 * i)), .int (nI m0)] I (tp_paym I (9 + 15 * i) a0 m0) (tp_settle I (9 + 15 * i) a0 m0) := by
  refine tp_ofI (lv := [(0, .ref (ad (9 + 15 * i))), (1, .int (nI m0))]) (by decide) rfl (Nat.le_of_ble_eq_true rfl) rfl (fun p e s m args below meth c A ls S0 => ?_)
  obtain ⟨hx, hb, hr, hml, hown, hts, hlocks, hA, hK, hP, hD, hS, hl⟩ := S0
  refine lv_aload_n hx hb dX0_settle_0 rfl (lv_at hl 0 rfl) ?_
  refine lv_iload_n hx hb dX0_settle_1 rfl (lv_at hl 1 rfl) ?_
  refine tp_callV ⟨hx, hb, hml, hown, hts⟩ (hc_paymentIn l D cy n ad o I i hi a0 m0 ha (by omega) (by omega)) (cwV 1 hts gX0_settle_X0_paymentIn rfl rfl rfl (by decide +kernel) ⟨Nat.le_of_ble_eq_true rfl, Nat.le_of_ble_eq_true rfl⟩) hK hP hD hS hA (9 + 15 * i) 0 (tp_eh hi) rfl rfl rfl hl.1 rfl (Nat.le_of_ble_eq_true rfl) dX0_settle_2 ⟨Nat.zero_le _, Nat.zero_le _⟩ (fun I9 e9 H locs hP hD hS => ?_)
  subst e9
  refine lv_istore_n (lv' := [(2, .int (tp_paym I (9 + 15 * i) a0 m0)), (0, .ref (ad (9 + 15 * i))), (1, .int (nI m0))]) hx hb dX0_settle_5 rfl hl (by decide) rfl (fun ls hl => ?_)
  refine lv_aload_n hx hb dX0_settle_6 rfl (lv_at hl 1 rfl) ?_
  refine lv_aload_n hx hb dX0_settle_7 rfl (lv_at hl 1 rfl) ?_
  refine lv_aload_n hx hb dX0_settle_8 rfl (lv_at hl 1 rfl) ?_
  refine lv_iload_n hx hb dX0_settle_9 rfl (lv_at hl 2 rfl) ?_
  refine tp_callV ⟨hx, hb, hml, hown, hts⟩ (hc_unassessedBefore l D cy n ad o I i hi a0 m0 ha (by omega) (by omega)) (cwV 1 hts gX0_settle_X0_unassessedBefore rfl rfl rfl (by decide +kernel) ⟨Nat.le_of_ble_eq_true rfl, Nat.le_of_ble_eq_true rfl⟩) hK hP hD hS hA (9 + 15 * i) 0 (tp_eh hi) rfl rfl rfl hl.1 rfl (Nat.le_of_ble_eq_true rfl) dX0_settle_10 ⟨Nat.zero_le _, Nat.zero_le _⟩ (fun I9 e9 H locs hP hD hS => ?_)
  subst e9
  refine tp_callV ⟨hx, hb, hml, hown, hts⟩ (hc_owedAfter l D cy n ad o I i hi (tp_open I (9 + 15 * i) a0 m0)) (cwV 1 hts gX0_settle_X0_owedAfter rfl rfl rfl (by decide +kernel) ⟨Nat.le_of_ble_eq_true rfl, Nat.le_of_ble_eq_true rfl⟩) hK hP hD hS hA (9 + 15 * i) 0 (tp_eh hi) rfl rfl rfl hl.1 rfl (Nat.le_of_ble_eq_true rfl) dX0_settle_13 ⟨Nat.zero_le _, Nat.zero_le _⟩ (fun I9 e9 H locs hP hD hS => ?_)
  subst e9
  refine tp_put (ci := 0) (v := (tp_owed I (9 + 15 * i) (tp_open I (9 + 15 * i) a0 m0))) (ty := .int) (C := RX0) (T := TX0) (N := 9) hx hb hts (fun _ h => List.mem_cons_of_mem _ (List.mem_append_right _ (h))) tyX0 tyX0_ok nmX0 hown hK hP hD hS (9 + 15 * i) (tp_eh hi) (by omega) rfl 6 (by decide) (hts _ (List.mem_of_getElem? (i := 1) rfl)) rfl (by decide +kernel) rfl rfl (Nat.le_of_ble_eq_true rfl) (tp_ch6 i _) dX0_settle_16 (fun H locs hP hD hS => ?_)
  refine lv_aload_n hx hb dX0_settle_19 rfl (lv_at hl 1 rfl) ?_
  refine lv_aload_n hx hb dX0_settle_20 rfl (lv_at hl 1 rfl) ?_
  refine lv_iload_n hx hb dX0_settle_21 rfl (lv_at hl 2 rfl) ?_
  refine lv_aload_n hx hb dX0_settle_22 rfl (lv_at hl 1 rfl) ?_
  refine va_get (D := D) (ci := 0) (v := .int ((tp_u I (9 + 15 * i) 6 (tp_owed I (9 + 15 * i) (tp_open I (9 + 15 * i) a0 m0))) (9 + 15 * i) 6)) (C := RX0) (T := TX0) (N := 9) hx hb hts (fun _ h => List.mem_cons_of_mem _ (List.mem_append_right _ (h))) hown hK hP (9 + 15 * i) (tp_eh hi) rfl 6 (by decide) (hts _ (List.mem_of_getElem? (i := 1) rfl)) (fun _ h9 => h9) rfl dX0_settle_23 ?_
  refine tp_eqi (y := (tp_owed I (9 + 15 * i) (tp_open I (9 + 15 * i) a0 m0))) (by rw [tp_u_s]) ?_
  refine tp_callV ⟨hx, hb, hml, hown, hts⟩ (hc_recoverableIn l D cy n ad o (tp_u I (9 + 15 * i) 6 (tp_owed I (9 + 15 * i) (tp_open I (9 + 15 * i) a0 m0))) i hi m0 (by omega) (tp_owed I (9 + 15 * i) (tp_open I (9 + 15 * i) a0 m0))) (cwV 2 hts gX0_settle_X0_recoverableIn rfl rfl rfl (by decide +kernel) ⟨Nat.le_of_ble_eq_true rfl, Nat.le_of_ble_eq_true rfl⟩) hK hP hD hS hA (9 + 15 * i) 0 (tp_eh hi) rfl rfl rfl hl.1 rfl (Nat.le_of_ble_eq_true rfl) dX0_settle_26 ⟨Nat.zero_le _, Nat.zero_le _⟩ (fun I9 e9 H locs hP hD hS => ?_)
  subst e9
  refine tp_eqi (y := tp_rec I (9 + 15 * i) m0 (tp_owed I (9 + 15 * i) (tp_open I (9 + 15 * i) a0 m0))) tp_rec_u ?_
  refine tp_callVv ⟨hx, hb, hml, hown, hts⟩ (tp_eqV (hc_lowerDebt l D cy n ad o (tp_u I (9 + 15 * i) 6 (tp_owed I (9 + 15 * i) (tp_open I (9 + 15 * i) a0 m0))) i hi (tp_rec I (9 + 15 * i) m0 (tp_owed I (9 + 15 * i) (tp_open I (9 + 15 * i) a0 m0)))) (by rw [tp_u_s, tp_u_n (j := 6) (b := 7) (by decide)])) (cwV 1 hts gX0_settle_X0_lowerDebt rfl rfl rfl (by decide +kernel) ⟨Nat.le_of_ble_eq_true rfl, Nat.le_of_ble_eq_true rfl⟩) hK hP hD hS hA (9 + 15 * i) 0 (tp_eh hi) rfl rfl rfl hl.1 rfl (Nat.le_of_ble_eq_true rfl) dX0_settle_29 ⟨Nat.zero_le _, Nat.zero_le _⟩ (fun I9 e9 H locs hP hD hS => ?_)
  subst e9
  refine lv_aload_n hx hb dX0_settle_32 rfl (lv_at hl 1 rfl) ?_
  refine va_get (D := D) (ci := 0) (v := .int ((tp_u (tp_u (tp_u I (9 + 15 * i) 6 (tp_owed I (9 + 15 * i) (tp_open I (9 + 15 * i) a0 m0))) (9 + 15 * i) 6 ((tp_owed I (9 + 15 * i) (tp_open I (9 + 15 * i) a0 m0)) - (tp_rec I (9 + 15 * i) m0 (tp_owed I (9 + 15 * i) (tp_open I (9 + 15 * i) a0 m0))))) (9 + 15 * i) 7 (I (9 + 15 * i) 7 + (tp_rec I (9 + 15 * i) m0 (tp_owed I (9 + 15 * i) (tp_open I (9 + 15 * i) a0 m0))))) (9 + 15 * i) 3)) (C := RX0) (T := TX0) (N := 9) hx hb hts (fun _ h => List.mem_cons_of_mem _ (List.mem_append_right _ (h))) hown hK hP (9 + 15 * i) (tp_eh hi) rfl 3 (by decide) (hts _ (List.mem_of_getElem? (i := 2) rfl)) (fun _ h9 => h9) rfl dX0_settle_33 ?_
  refine tp_eqi (y := (I (9 + 15 * i) 3)) (by rw [tp_u_n (b := 3) (j := 7) (by decide), tp_u_n (b := 3) (j := 6) (by decide), tp_u_n (b := 3) (j := 6) (by decide)]) ?_
  refine tp_eqi (y := nI a0) ha ?_
  refine lv_istore_n (lv' := [(3, .int (nI a0)), (2, .int (tp_paym I (9 + 15 * i) a0 m0)), (0, .ref (ad (9 + 15 * i))), (1, .int (nI m0))]) hx hb dX0_settle_36 rfl hl (by decide) rfl (fun ls hl => ?_)
  have hl : lv_has ls 4 [(3, .int (nI (a0 + 0))), (2, .int (tp_paym I (9 + 15 * i) a0 m0)), (0, .ref (ad (9 + 15 * i))), (1, .int (nI m0))] := hl
  rw [← tp_fill_0 (I := tp_u (tp_u (tp_u I (9 + 15 * i) 6 (tp_owed I (9 + 15 * i) (tp_open I (9 + 15 * i) a0 m0))) (9 + 15 * i) 6 ((tp_owed I (9 + 15 * i) (tp_open I (9 + 15 * i) a0 m0)) - (tp_rec I (9 + 15 * i) m0 (tp_owed I (9 + 15 * i) (tp_open I (9 + 15 * i) a0 m0))))) (9 + 15 * i) 7 (I (9 + 15 * i) 7 + (tp_rec I (9 + 15 * i) m0 (tp_owed I (9 + 15 * i) (tp_open I (9 + 15 * i) a0 m0))))) (c := 9 + 15 * i + 13) (lo := a0) (g := (fun s => tp_due I (9 + 15 * i) (a0 + s)))] at hP hD
  refine tp_for (nL := 4) (m0 + 1 - a0) (fun t => tp_fill (tp_u (tp_u (tp_u I (9 + 15 * i) 6 (tp_owed I (9 + 15 * i) (tp_open I (9 + 15 * i) a0 m0))) (9 + 15 * i) 6 ((tp_owed I (9 + 15 * i) (tp_open I (9 + 15 * i) a0 m0)) - (tp_rec I (9 + 15 * i) m0 (tp_owed I (9 + 15 * i) (tp_open I (9 + 15 * i) a0 m0))))) (9 + 15 * i) 7 (I (9 + 15 * i) 7 + (tp_rec I (9 + 15 * i) m0 (tp_owed I (9 + 15 * i) (tp_open I (9 + 15 * i) a0 m0))))) (9 + 15 * i + 13) a0 (fun s => tp_due I (9 + 15 * i) (a0 + s)) t) (fun t => [(3, .int (nI (a0 + t))), (2, .int (tp_paym I (9 + 15 * i) a0 m0)), (0, .ref (ad (9 + 15 * i))), (1, .int (nI m0))]) (fun t ht ls H locs hl hP hD hS ih => ?_) (fun ls H locs hl hP hD hS => ?_) hl hP hD hS
  · refine lv_iload_n hx hb dX0_settle_37 rfl (lv_at hl 0 rfl) ?_
    refine lv_iload_n hx hb dX0_settle_38 rfl (lv_at hl 3 rfl) ?_
    refine lv_icmp_gt (tgt := 59) hx hb dX0_settle_39 (by decide) (fun c39_1 => ?_) (fun c39_1 => ?_)
    · exact absurd c39_1 (nI_nlt (by omega) (by omega))
    · refine lv_aload_n hx hb dX0_settle_42 rfl (lv_at hl 2 rfl) ?_
      refine va_get (D := D) (ci := 0) (v := .ref (ad (9 + 15 * i + 13))) (C := RX0) (T := TX0) (N := 9) hx hb hts (fun _ h => List.mem_cons_of_mem _ (List.mem_append_right _ (h))) hown hK hP (9 + 15 * i) (tp_eh hi) rfl 4 (by decide) (hts _ (List.mem_of_getElem? (i := 3) rfl)) (fun _ h9 => h9) rfl dX0_settle_43 ?_
      refine lv_iload_n hx hb dX0_settle_46 rfl (lv_at hl 0 rfl) ?_
      refine lv_aload_n hx hb dX0_settle_47 rfl (lv_at hl 2 rfl) ?_
      refine lv_iload_n hx hb dX0_settle_48 rfl (lv_at hl 0 rfl) ?_
      refine tp_callV ⟨hx, hb, hml, hown, hts⟩ (hc_dueIn l D cy n ad o (tp_fill (tp_u (tp_u (tp_u I (9 + 15 * i) 6 (tp_owed I (9 + 15 * i) (tp_open I (9 + 15 * i) a0 m0))) (9 + 15 * i) 6 ((tp_owed I (9 + 15 * i) (tp_open I (9 + 15 * i) a0 m0)) - (tp_rec I (9 + 15 * i) m0 (tp_owed I (9 + 15 * i) (tp_open I (9 + 15 * i) a0 m0))))) (9 + 15 * i) 7 (I (9 + 15 * i) 7 + (tp_rec I (9 + 15 * i) m0 (tp_owed I (9 + 15 * i) (tp_open I (9 + 15 * i) a0 m0))))) (9 + 15 * i + 13) a0 (fun s => tp_due I (9 + 15 * i) (a0 + s)) t) i hi (a0 + t) (by omega)) (cwV 1 hts gX0_settle_X0_dueIn rfl rfl rfl (by decide +kernel) ⟨Nat.le_of_ble_eq_true rfl, Nat.le_of_ble_eq_true rfl⟩) hK hP hD hS hA (9 + 15 * i) 0 (tp_eh hi) rfl rfl rfl hl.1 rfl (Nat.le_of_ble_eq_true rfl) dX0_settle_49 ⟨Nat.zero_le _, Nat.zero_le _⟩ (fun I9 e9 H locs hP hD hS => ?_)
      subst e9
      refine tp_eqi (y := tp_due I (9 + 15 * i) (a0 + t)) (by rw [tp_due_fill (fun f hf => by omega), tp_due_u (fun f hf => by omega), tp_due_u (fun f hf => by omega), tp_due_u (fun f hf => by omega)]) ?_
      refine tp_iast hx hb hK hP hD hS (9 + 15 * i + 13) 48 ((a0 + t)) (by omega) (fun I => tp_hA (I := I) i) rfl (by omega) (by decide) dX0_settle_52 (fun H locs hP hD hS => ?_)
      rw [tp_fill_s rfl] at hP hD
      refine lv_iinc (v := (nI ((a0 + t) + 1))) (lv' := [(3, .int (nI ((a0 + t) + 1))), (2, .int (tp_paym I (9 + 15 * i) a0 m0)), (0, .ref (ad (9 + 15 * i))), (1, .int (nI m0))]) hx hb dX0_settle_53 hl (k := 0) rfl (nI_1 _) (by decide) rfl (fun ls hl => ?_)
      refine lv_goto (tgt := 37) hx hb dX0_settle_56 (by decide) ?_
      exact ih ls H locs (lv_sub hl [0, 1, 2, 3] rfl) hP hD hS
  · refine lv_iload_n hx hb dX0_settle_37 rfl (lv_at hl 0 rfl) ?_
    refine lv_iload_n hx hb dX0_settle_38 rfl (lv_at hl 3 rfl) ?_
    refine lv_icmp_gt (tgt := 59) hx hb dX0_settle_39 (by decide) (fun c39_2 => ?_) (fun c39_2 => ?_)
    · refine lv_aload_n hx hb dX0_settle_59 rfl (lv_at hl 2 rfl) ?_
      refine va_get (D := D) (ci := 0) (v := .ref (ad (9 + 15 * i + 14))) (C := RX0) (T := TX0) (N := 9) hx hb hts (fun _ h => List.mem_cons_of_mem _ (List.mem_append_right _ (h))) hown hK hP (9 + 15 * i) (tp_eh hi) rfl 5 (by decide) (hts _ (List.mem_of_getElem? (i := 4) rfl)) (fun _ h9 => h9) rfl dX0_settle_60 ?_
      refine lv_iload_n hx hb dX0_settle_63 rfl (lv_at hl 3 rfl) ?_
      refine lv_iload_n hx hb dX0_settle_64 rfl (lv_at hl 1 rfl) ?_
      refine tp_iast hx hb hK hP hD hS (9 + 15 * i + 14) 48 (m0) (by omega) (fun I => tp_hP (I := I) i) rfl (by omega) (by decide) dX0_settle_65 (fun H locs hP hD hS => ?_)
      refine lv_iload_n hx hb dX0_settle_66 rfl (lv_at hl 1 rfl) ?_
      exact tp_reti hx hb hr hlocks hK hP hD hS rfl rfl rfl dX0_settle_67
    · exact absurd (nI_lt (by omega) (by omega)) c39_2
set_option maxHeartbeats 4000000 in
set_option maxRecDepth 100000 in
/-- change(fact, from, value) -/
theorem hc_change (l : Launch) (D : va_G) (cy : Nat → ClassId) (n : Nat) (ad : Nat → Nat) (o : Int64) (I : Nat → Nat → Int32) (i : Nat) (hi : i < n) (f0 r0 z0 : Nat) (hf5 : f0 < 5) (v : Int32) (hz1 : r0 ≤ z0) (hz2 : z0 ≤ 48) (hz3 : ∀ m, r0 ≤ m → m < z0 → I (9 + 15 * i + 8 + f0) m ≤ nI r0) (hz4 : z0 = 48 ∨ ¬ I (9 + 15 * i + 8 + f0) z0 ≤ nI r0) : tp_V l yX0_change wsX0_change (tp_rm 0 0) D cy n ad o [.ref (ad (9 + 15 * i)), .int (nI f0), .int (nI r0), .int v] I (tp_chg I (9 + 15 * i) f0 r0 v (z0 - r0)) := by
  refine tp_ofV (lv := [(0, .ref (ad (9 + 15 * i))), (1, .int (nI f0)), (2, .int (nI r0)), (3, .int v)]) (by decide) rfl (Nat.le_of_ble_eq_true rfl) rfl (fun p e s m args below meth c A ls S0 => ?_)
  obtain ⟨hx, hb, hr, hml, hown, hts, hlocks, hA, hK, hP, hD, hS, hl⟩ := S0
  refine lv_aload_n hx hb dX0_change_0 rfl (lv_at hl 0 rfl) ?_
  refine lv_dup hx hb dX0_change_1 rfl ?_
  refine va_get (D := D) (ci := 0) (v := .int (I (9 + 15 * i) 2)) (C := RX0) (T := TX0) (N := 9) hx hb hts (fun _ h => List.mem_cons_of_mem _ (List.mem_append_right _ (h))) hown hK hP (9 + 15 * i) (tp_eh hi) rfl 2 (by decide) (hts _ (List.mem_of_getElem? (i := 1) rfl)) (fun _ h9 => h9) rfl dX0_change_2 ?_
  refine lv_iconst (v := 1) hx hb dX0_change_5 (by decide) ?_
  refine lv_iadd hx hb dX0_change_6 ?_
  refine tp_put (ci := 0) (v := ((I (9 + 15 * i) 2) + 1)) (ty := .int) (C := RX0) (T := TX0) (N := 9) hx hb hts (fun _ h => List.mem_cons_of_mem _ (List.mem_append_right _ (h))) tyX0 tyX0_ok nmX0 hown hK hP hD hS (9 + 15 * i) (tp_eh hi) (by omega) rfl 2 (by decide) (hts _ (List.mem_of_getElem? (i := 1) rfl)) rfl (by decide +kernel) rfl rfl (Nat.le_of_ble_eq_true rfl) (tp_ch2 i _) dX0_change_7 (fun H locs hP hD hS => ?_)
  refine lv_iload_n hx hb dX0_change_10 rfl (lv_at hl 2 rfl) ?_
  refine lv_istore (lv' := [(4, .int (nI r0)), (0, .ref (ad (9 + 15 * i))), (1, .int (nI f0)), (2, .int (nI r0)), (3, .int v)]) hx hb dX0_change_11 hl (by decide) rfl (fun ls hl => ?_)
  have hl : lv_has ls 5 [(4, .int (nI (r0 + 0))), (0, .ref (ad (9 + 15 * i))), (1, .int (nI f0)), (2, .int (nI r0)), (3, .int v)] := hl
  have e0 : tp_fill (tp_fill (tp_u I (9 + 15 * i) 2 ((I (9 + 15 * i) 2) + 1)) (9 + 15 * i + 2 + f0) r0 (fun _ => v) 0) (9 + 15 * i + 8 + f0) r0 (fun _ => nI r0) 0 = tp_u I (9 + 15 * i) 2 ((I (9 + 15 * i) 2) + 1) := by rw [tp_fill_0, tp_fill_0]
  rw [← e0] at hP hD
  refine tp_for (nL := 5) (z0 - r0) (fun t => tp_fill (tp_fill (tp_u I (9 + 15 * i) 2 ((I (9 + 15 * i) 2) + 1)) (9 + 15 * i + 2 + f0) r0 (fun _ => v) t) (9 + 15 * i + 8 + f0) r0 (fun _ => nI r0) t) (fun t => [(4, .int (nI (r0 + t))), (0, .ref (ad (9 + 15 * i))), (1, .int (nI f0)), (2, .int (nI r0)), (3, .int v)]) (fun t ht ls H locs hl hP hD hS ih => ?_) (fun ls H locs hl hP hD hS => ?_) hl hP hD hS
  · refine lv_iload hx hb dX0_change_13 (lv_at hl 0 rfl) ?_
    refine lv_bipush (v := 48) hx hb dX0_change_15 (by decide) ?_
    refine lv_icmp_ge (tgt := 59) hx hb dX0_change_17 (by decide) (fun c17_1 => ?_) (fun c17_1 => ?_)
    · exact absurd c17_1 (nI_ge (a := r0 + t) (b := 48) (by omega) (by omega))
    · refine lv_aload_n hx hb dX0_change_20 rfl (lv_at hl 1 rfl) ?_
      refine va_get (D := D) (ci := 0) (v := .ref (ad (9 + 15 * i + 7))) (C := RX0) (T := TX0) (N := 9) hx hb hts (fun _ h => List.mem_cons_of_mem _ (List.mem_append_right _ (h))) hown hK hP (9 + 15 * i) (tp_eh hi) rfl 1 (by decide) (hts _ (List.mem_of_getElem? (i := 2) rfl)) (fun _ h9 => h9) rfl dX0_change_21 ?_
      refine lv_iload_n hx hb dX0_change_24 rfl (lv_at hl 2 rfl) ?_
      refine tp_aald hx hb hK hP (9 + 15 * i + 7) 5 (f0) (by omega) (tp_hSo i) rfl (by omega) (by decide) dX0_change_25 ?_
      refine lv_iload hx hb dX0_change_26 (lv_at hl 0 rfl) ?_
      refine tp_iald hx hb hK hP (9 + 15 * i + 8 + f0) 48 ((r0 + t)) (by omega) (tp_hS i (f := f0) (by omega)) rfl (by omega) (by decide) dX0_change_28 ?_
      refine tp_eqi (y := I (9 + 15 * i + 8 + f0) (r0 + t)) (by rw [tp_fill_up (by omega), tp_fill_oth (a := (9 + 15 * i + 8 + f0)) (c := (9 + 15 * i + 2 + f0)) (by omega), tp_u_oth (a := (9 + 15 * i + 8 + f0)) (k := 9 + 15 * i) (by omega)]) ?_
      refine lv_iload_n hx hb dX0_change_29 rfl (lv_at hl 3 rfl) ?_
      refine lv_icmp_gt (tgt := 59) hx hb dX0_change_30 (by decide) (fun c30_2 => ?_) (fun c30_2 => ?_)
      · exact absurd (hz3 (r0 + t) (by omega) (by omega)) (fun z => absurd (Int32.lt_iff_toInt_lt.mp c30_2) (by have := Int32.le_iff_toInt_le.mp z; omega))
      · refine lv_aload_n hx hb dX0_change_33 rfl (lv_at hl 1 rfl) ?_
        refine va_get (D := D) (ci := 0) (v := .ref (ad (9 + 15 * i + 1))) (C := RX0) (T := TX0) (N := 9) hx hb hts (fun _ h => List.mem_cons_of_mem _ (List.mem_append_right _ (h))) hown hK hP (9 + 15 * i) (tp_eh hi) rfl 0 (by decide) (hts _ (List.mem_of_getElem? (i := 3) rfl)) (fun _ h9 => h9) rfl dX0_change_34 ?_
        refine lv_iload_n hx hb dX0_change_37 rfl (lv_at hl 2 rfl) ?_
        refine tp_aald hx hb hK hP (9 + 15 * i + 1) 5 (f0) (by omega) (tp_hVo i) rfl (by omega) (by decide) dX0_change_38 ?_
        refine lv_iload hx hb dX0_change_39 (lv_at hl 0 rfl) ?_
        refine lv_iload_n hx hb dX0_change_41 rfl (lv_at hl 4 rfl) ?_
        refine tp_iast hx hb hK hP hD hS (9 + 15 * i + 2 + f0) 48 ((r0 + t)) (by omega) (fun I => tp_hV (I := I) i (f := f0) (by omega)) rfl (by omega) (by decide) dX0_change_42 (fun H locs hP hD hS => ?_)
        refine lv_aload_n hx hb dX0_change_43 rfl (lv_at hl 1 rfl) ?_
        refine va_get (D := D) (ci := 0) (v := .ref (ad (9 + 15 * i + 7))) (C := RX0) (T := TX0) (N := 9) hx hb hts (fun _ h => List.mem_cons_of_mem _ (List.mem_append_right _ (h))) hown hK hP (9 + 15 * i) (tp_eh hi) rfl 1 (by decide) (hts _ (List.mem_of_getElem? (i := 2) rfl)) (fun _ h9 => h9) rfl dX0_change_44 ?_
        refine lv_iload_n hx hb dX0_change_47 rfl (lv_at hl 2 rfl) ?_
        refine tp_aald hx hb hK hP (9 + 15 * i + 7) 5 (f0) (by omega) (tp_hSo i) rfl (by omega) (by decide) dX0_change_48 ?_
        refine lv_iload hx hb dX0_change_49 (lv_at hl 0 rfl) ?_
        refine lv_iload_n hx hb dX0_change_51 rfl (lv_at hl 3 rfl) ?_
        refine tp_iast hx hb hK hP hD hS (9 + 15 * i + 8 + f0) 48 ((r0 + t)) (by omega) (fun I => tp_hS (I := I) i (f := f0) (by omega)) rfl (by omega) (by decide) dX0_change_52 (fun H locs hP hD hS => ?_)
        rw [tp_fill_s2 (by omega) rfl rfl] at hP hD
        refine lv_iinc (v := (nI ((r0 + t) + 1))) (lv' := [(4, .int (nI ((r0 + t) + 1))), (0, .ref (ad (9 + 15 * i))), (1, .int (nI f0)), (2, .int (nI r0)), (3, .int v)]) hx hb dX0_change_53 hl (k := 0) rfl (nI_1 _) (by decide) rfl (fun ls hl => ?_)
        refine lv_goto (tgt := 13) hx hb dX0_change_56 (by decide) ?_
        exact ih ls H locs (lv_sub hl [0, 1, 2, 3, 4] rfl) hP hD hS
  · refine lv_iload hx hb dX0_change_13 (lv_at hl 0 rfl) ?_
    refine lv_bipush (v := 48) hx hb dX0_change_15 (by decide) ?_
    refine lv_icmp_ge (tgt := 59) hx hb dX0_change_17 (by decide) (fun c17_3 => ?_) (fun c17_3 => ?_)
    · exact tp_retv hx hb hr hlocks hK hP hD hS rfl dX0_change_59
    · have hz8 : z0 < 48 := by
        rcases Nat.lt_or_ge z0 48 with z | z
        · exact z
        · exact absurd (nI_le (a := 48) (b := r0 + (z0 - r0)) (by omega) (by omega)) c17_3
      refine lv_aload_n hx hb dX0_change_20 rfl (lv_at hl 1 rfl) ?_
      refine va_get (D := D) (ci := 0) (v := .ref (ad (9 + 15 * i + 7))) (C := RX0) (T := TX0) (N := 9) hx hb hts (fun _ h => List.mem_cons_of_mem _ (List.mem_append_right _ (h))) hown hK hP (9 + 15 * i) (tp_eh hi) rfl 1 (by decide) (hts _ (List.mem_of_getElem? (i := 2) rfl)) (fun _ h9 => h9) rfl dX0_change_21 ?_
      refine lv_iload_n hx hb dX0_change_24 rfl (lv_at hl 2 rfl) ?_
      refine tp_aald hx hb hK hP (9 + 15 * i + 7) 5 (f0) (by omega) (tp_hSo i) rfl (by omega) (by decide) dX0_change_25 ?_
      refine lv_iload hx hb dX0_change_26 (lv_at hl 0 rfl) ?_
      refine tp_iald hx hb hK hP (9 + 15 * i + 8 + f0) 48 ((r0 + (z0 - r0))) (by omega) (tp_hS i (f := f0) (by omega)) rfl (by omega) (by decide) dX0_change_28 ?_
      refine tp_eqi (y := I (9 + 15 * i + 8 + f0) z0) (by rw [tp_fill_up (by omega), tp_fill_oth (a := (9 + 15 * i + 8 + f0)) (c := (9 + 15 * i + 2 + f0)) (by omega), tp_u_oth (a := (9 + 15 * i + 8 + f0)) (k := 9 + 15 * i) (by omega), show r0 + (z0 - r0) = z0 by omega]) ?_
      refine lv_iload_n hx hb dX0_change_29 rfl (lv_at hl 3 rfl) ?_
      refine lv_icmp_gt (tgt := 59) hx hb dX0_change_30 (by decide) (fun c30_4 => ?_) (fun c30_4 => ?_)
      · exact tp_retv hx hb hr hlocks hK hP hD hS rfl dX0_change_59
      · rcases hz4 with z | z
        · exact absurd z (by omega)
        · exact absurd (Int32.lt_iff_toInt_lt.mpr (by have h1 : ¬ (I (9 + 15 * i + 8 + f0) z0).toInt ≤ (nI r0).toInt := fun q => z (Int32.le_iff_toInt_le.mpr q); omega)) c30_4
