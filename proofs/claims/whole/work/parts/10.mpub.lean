set_option maxHeartbeats 4000000 in
set_option maxRecDepth 100000 in
/-- households: all -/
theorem mp_households_all (l : Launch) (D : va_G) (cy : Nat → ClassId) (n : Nat) (ad : Nat → Nat) (o : Int64) (I : Nat → Nat → Int32)  : tp_I l yX2_households wsX2_households (tp_rm 0 0) D cy n ad o [.ref (ad (2))] I (I 2 2) (tp_u I 2 0 0) := by
  refine tp_ofI (lv := [(0, .ref (ad (2)))]) (by decide) rfl (Nat.le_of_ble_eq_true rfl) rfl (fun p e s m args below meth c A ls S0 => ?_)
  obtain ⟨hx, hb, hr, hml, hown, hts, hlocks, hA, hK, hP, hD, hS, hl⟩ := S0
  refine lv_aload_n hx hb dX2_households_0 rfl (lv_at hl 0 rfl) ?_
  refine lv_iconst (v := 0) hx hb dX2_households_1 (by decide) ?_
  refine tp_put (ci := 2) (v := 0) (ty := .int) (C := RX2) (T := TX2) (N := 16) hx hb hts (fun _ h => List.mem_cons_of_mem _ (List.mem_append_right _ (h))) tyX2 tyX2_ok nmX2 hown hK hP hD hS 2 tp_e2 (by omega) rfl 0 (by decide) (hts _ (List.mem_of_getElem? (i := 1) rfl)) rfl (by decide +kernel) rfl rfl (Nat.le_of_ble_eq_true rfl) rfl dX2_households_2 (fun H locs hP hD hS => ?_)
  refine lv_aload_n hx hb dX2_households_5 rfl (lv_at hl 0 rfl) ?_
  refine va_get (D := D) (ci := 2) (v := .int (I 2 2)) (C := RX2) (T := TX2) (N := 16) hx hb hts (fun _ h => List.mem_cons_of_mem _ (List.mem_append_right _ (h))) hown hK hP 2 tp_e2 rfl 2 (by decide) (hts _ (List.mem_of_getElem? (i := 2) rfl)) (fun _ h9 => h9) rfl dX2_households_6 ?_
  exact tp_reti hx hb hr hlocks hK hP hD hS rfl rfl rfl dX2_households_9
set_option maxHeartbeats 4000000 in
set_option maxRecDepth 100000 in
/-- month: all -/
theorem mp_month_all (l : Launch) (D : va_G) (cy : Nat → ClassId) (n : Nat) (ad : Nat → Nat) (o : Int64) (I : Nat → Nat → Int32)  : tp_I l yX2_month wsX2_month (tp_rm 0 0) D cy n ad o [.ref (ad (2))] I (if 48 ≤ I 2 1 then -1 else I 2 1) (tp_u I 2 0 0) := by
  refine tp_ofI (lv := [(0, .ref (ad (2)))]) (by decide) rfl (Nat.le_of_ble_eq_true rfl) rfl (fun p e s m args below meth c A ls S0 => ?_)
  obtain ⟨hx, hb, hr, hml, hown, hts, hlocks, hA, hK, hP, hD, hS, hl⟩ := S0
  refine lv_aload_n hx hb dX2_month_0 rfl (lv_at hl 0 rfl) ?_
  refine lv_iconst (v := 0) hx hb dX2_month_1 (by decide) ?_
  refine tp_put (ci := 2) (v := 0) (ty := .int) (C := RX2) (T := TX2) (N := 16) hx hb hts (fun _ h => List.mem_cons_of_mem _ (List.mem_append_right _ (h))) tyX2 tyX2_ok nmX2 hown hK hP hD hS 2 tp_e2 (by omega) rfl 0 (by decide) (hts _ (List.mem_of_getElem? (i := 1) rfl)) rfl (by decide +kernel) rfl rfl (Nat.le_of_ble_eq_true rfl) rfl dX2_month_2 (fun H locs hP hD hS => ?_)
  refine lv_aload_n hx hb dX2_month_5 rfl (lv_at hl 0 rfl) ?_
  refine va_get (D := D) (ci := 2) (v := .int (I 2 1)) (C := RX2) (T := TX2) (N := 16) hx hb hts (fun _ h => List.mem_cons_of_mem _ (List.mem_append_right _ (h))) hown hK hP 2 tp_e2 rfl 1 (by decide) (hts _ (List.mem_of_getElem? (i := 2) rfl)) (fun _ h9 => h9) rfl dX2_month_6 ?_
  refine lv_bipush (v := 48) hx hb dX2_month_9 (by decide) ?_
  refine lv_icmp_ge (tgt := 21) hx hb dX2_month_11 (by decide) (fun c11_1 => ?_) (fun c11_1 => ?_)
  · refine lv_iconst (v := (-1)) hx hb dX2_month_21 (by decide) ?_
    exact tp_reti hx hb hr hlocks hK hP hD hS rfl (by rw [if_pos c11_1]) rfl dX2_month_22
  · refine lv_aload_n hx hb dX2_month_14 rfl (lv_at hl 0 rfl) ?_
    refine va_get (D := D) (ci := 2) (v := .int (I 2 1)) (C := RX2) (T := TX2) (N := 16) hx hb hts (fun _ h => List.mem_cons_of_mem _ (List.mem_append_right _ (h))) hown hK hP 2 tp_e2 rfl 1 (by decide) (hts _ (List.mem_of_getElem? (i := 2) rfl)) (fun _ h9 => h9) rfl dX2_month_15 ?_
    refine lv_goto (tgt := 22) hx hb dX2_month_18 (by decide) ?_
    exact tp_reti hx hb hr hlocks hK hP hD hS rfl (by rw [if_neg c11_1]) rfl dX2_month_22
set_option maxHeartbeats 4000000 in
set_option maxRecDepth 100000 in
/-- debt: no -/
theorem mp_debt_no (l : Launch) (D : va_G) (cy : Nat → ClassId) (n : Nat) (ad : Nat → Nat) (o : Int64) (I : Nat → Nat → Int32) (x : Int32) (hH : tp_in x 0 (I 2 2 - 1) = 0) : tp_I l yX2_debt wsX2_debt (tp_rm 2 43) D cy n ad o [.ref (ad (2)), .int x] I (0) (tp_u (tp_u I 2 0 0) 2 0 1) := by
  refine tp_ofI (lv := [(0, .ref (ad (2))), (1, .int x)]) (by decide) rfl (Nat.le_of_ble_eq_true rfl) rfl (fun p e s m args below meth c A ls S0 => ?_)
  obtain ⟨hx, hb, hr, hml, hown, hts, hlocks, hA, hK, hP, hD, hS, hl⟩ := S0
  refine lv_aload_n hx hb dX2_debt_0 rfl (lv_at hl 0 rfl) ?_
  refine lv_iconst (v := 0) hx hb dX2_debt_1 (by decide) ?_
  refine tp_put (ci := 2) (v := 0) (ty := .int) (C := RX2) (T := TX2) (N := 16) hx hb hts (fun _ h => List.mem_cons_of_mem _ (List.mem_append_right _ (h))) tyX2 tyX2_ok nmX2 hown hK hP hD hS 2 tp_e2 (by omega) rfl 0 (by decide) (hts _ (List.mem_of_getElem? (i := 1) rfl)) rfl (by decide +kernel) rfl rfl (Nat.le_of_ble_eq_true rfl) rfl dX2_debt_2 (fun H locs hP hD hS => ?_)
  refine lv_aload_n hx hb dX2_debt_5 rfl (lv_at hl 0 rfl) ?_
  refine lv_iload_n hx hb dX2_debt_6 rfl (lv_at hl 1 rfl) ?_
  refine tp_callV ⟨hx, hb, hml, hown, hts⟩ (tp_eqI (mc_isHome l D cy n ad o (tp_u I 2 0 0) x) hH rfl) (cwV 1 hts gX2_debt_X2_isHome rfl rfl rfl (by decide +kernel) ⟨Nat.le_of_ble_eq_true rfl, Nat.le_of_ble_eq_true rfl⟩) hK hP hD hS hA 2 2 tp_e2 rfl rfl rfl hl.1 rfl (Nat.le_of_ble_eq_true rfl) dX2_debt_7 ⟨Nat.zero_le _, Nat.zero_le _⟩ (fun I9 e9 H locs hP hD hS => ?_)
  subst e9
  refine lv_if_eq (tgt := 22) hx hb dX2_debt_10 (by decide) (fun c10_1 => ?_) (fun c10_1 => ?_)
  · refine lv_aload_n hx hb dX2_debt_22 rfl (lv_at hl 0 rfl) ?_
    refine lv_iconst (v := 1) hx hb dX2_debt_23 (by decide) ?_
    refine tp_callV ⟨hx, hb, hml, hown, hts⟩ (mc_fails l D cy n ad o (tp_u I 2 0 0) 1) (cwV 1 hts gX2_debt_X2_fails rfl rfl rfl (by decide +kernel) ⟨Nat.le_of_ble_eq_true rfl, Nat.le_of_ble_eq_true rfl⟩) hK hP hD hS hA 2 2 tp_e2 rfl rfl rfl hl.1 rfl (Nat.le_of_ble_eq_true rfl) dX2_debt_24 ⟨Nat.zero_le _, Nat.zero_le _⟩ (fun I9 e9 H locs hP hD hS => ?_)
    subst e9
    exact tp_reti hx hb hr hlocks hK hP hD hS rfl rfl rfl dX2_debt_27
  · exact absurd rfl c10_1
set_option maxHeartbeats 4000000 in
set_option maxRecDepth 100000 in
/-- debt: ok -/
theorem mp_debt_ok (l : Launch) (D : va_G) (cy : Nat → ClassId) (n : Nat) (ad : Nat → Nat) (o : Int64) (I : Nat → Nat → Int32) (h : Nat) (hh : h < 6) (hH : tp_in (nI h) 0 (I 2 2 - 1) = 1) : tp_I l yX2_debt wsX2_debt (tp_rm 2 43) D cy n ad o [.ref (ad (2)), .int (nI h)] I (I 10 h) (tp_u I 2 0 0) := by
  refine tp_ofI (lv := [(0, .ref (ad (2))), (1, .int (nI h))]) (by decide) rfl (Nat.le_of_ble_eq_true rfl) rfl (fun p e s m args below meth c A ls S0 => ?_)
  obtain ⟨hx, hb, hr, hml, hown, hts, hlocks, hA, hK, hP, hD, hS, hl⟩ := S0
  refine lv_aload_n hx hb dX2_debt_0 rfl (lv_at hl 0 rfl) ?_
  refine lv_iconst (v := 0) hx hb dX2_debt_1 (by decide) ?_
  refine tp_put (ci := 2) (v := 0) (ty := .int) (C := RX2) (T := TX2) (N := 16) hx hb hts (fun _ h => List.mem_cons_of_mem _ (List.mem_append_right _ (h))) tyX2 tyX2_ok nmX2 hown hK hP hD hS 2 tp_e2 (by omega) rfl 0 (by decide) (hts _ (List.mem_of_getElem? (i := 1) rfl)) rfl (by decide +kernel) rfl rfl (Nat.le_of_ble_eq_true rfl) rfl dX2_debt_2 (fun H locs hP hD hS => ?_)
  refine lv_aload_n hx hb dX2_debt_5 rfl (lv_at hl 0 rfl) ?_
  refine lv_iload_n hx hb dX2_debt_6 rfl (lv_at hl 1 rfl) ?_
  refine tp_callV ⟨hx, hb, hml, hown, hts⟩ (tp_eqI (mc_isHome l D cy n ad o (tp_u I 2 0 0) (nI h)) hH rfl) (cwV 1 hts gX2_debt_X2_isHome rfl rfl rfl (by decide +kernel) ⟨Nat.le_of_ble_eq_true rfl, Nat.le_of_ble_eq_true rfl⟩) hK hP hD hS hA 2 2 tp_e2 rfl rfl rfl hl.1 rfl (Nat.le_of_ble_eq_true rfl) dX2_debt_7 ⟨Nat.zero_le _, Nat.zero_le _⟩ (fun I9 e9 H locs hP hD hS => ?_)
  subst e9
  refine lv_if_eq (tgt := 22) hx hb dX2_debt_10 (by decide) (fun c10_1 => ?_) (fun c10_1 => ?_)
  · exact absurd c10_1 (by decide)
  · refine lv_aload_n hx hb dX2_debt_13 rfl (lv_at hl 0 rfl) ?_
    refine va_get (D := D) (ci := 2) (v := .ref (ad (10))) (C := RX2) (T := TX2) (N := 16) hx hb hts (fun _ h => List.mem_cons_of_mem _ (List.mem_append_right _ (h))) hown hK hP 2 tp_e2 rfl 10 (by decide) (hts _ (List.mem_of_getElem? (i := 2) rfl)) (fun _ h9 => h9) rfl dX2_debt_14 ?_
    refine lv_iload_n hx hb dX2_debt_17 rfl (lv_at hl 1 rfl) ?_
    refine tp_iald hx hb hK hP 10 6 (h) (by omega) rfl rfl (by omega) (by decide) dX2_debt_18 ?_
    refine tp_eqi (y := (I 10 h)) rfl ?_
    refine lv_goto (tgt := 27) hx hb dX2_debt_19 (by decide) ?_
    exact tp_reti hx hb hr hlocks hK hP hD hS rfl rfl rfl dX2_debt_27
set_option maxHeartbeats 4000000 in
set_option maxRecDepth 100000 in
/-- recovered: no -/
theorem mp_recovered_no (l : Launch) (D : va_G) (cy : Nat → ClassId) (n : Nat) (ad : Nat → Nat) (o : Int64) (I : Nat → Nat → Int32) (x : Int32) (hH : tp_in x 0 (I 2 2 - 1) = 0) : tp_I l yX2_recovered wsX2_recovered (tp_rm 2 43) D cy n ad o [.ref (ad (2)), .int x] I (0) (tp_u (tp_u I 2 0 0) 2 0 1) := by
  refine tp_ofI (lv := [(0, .ref (ad (2))), (1, .int x)]) (by decide) rfl (Nat.le_of_ble_eq_true rfl) rfl (fun p e s m args below meth c A ls S0 => ?_)
  obtain ⟨hx, hb, hr, hml, hown, hts, hlocks, hA, hK, hP, hD, hS, hl⟩ := S0
  refine lv_aload_n hx hb dX2_recovered_0 rfl (lv_at hl 0 rfl) ?_
  refine lv_iconst (v := 0) hx hb dX2_recovered_1 (by decide) ?_
  refine tp_put (ci := 2) (v := 0) (ty := .int) (C := RX2) (T := TX2) (N := 16) hx hb hts (fun _ h => List.mem_cons_of_mem _ (List.mem_append_right _ (h))) tyX2 tyX2_ok nmX2 hown hK hP hD hS 2 tp_e2 (by omega) rfl 0 (by decide) (hts _ (List.mem_of_getElem? (i := 1) rfl)) rfl (by decide +kernel) rfl rfl (Nat.le_of_ble_eq_true rfl) rfl dX2_recovered_2 (fun H locs hP hD hS => ?_)
  refine lv_aload_n hx hb dX2_recovered_5 rfl (lv_at hl 0 rfl) ?_
  refine lv_iload_n hx hb dX2_recovered_6 rfl (lv_at hl 1 rfl) ?_
  refine tp_callV ⟨hx, hb, hml, hown, hts⟩ (tp_eqI (mc_isHome l D cy n ad o (tp_u I 2 0 0) x) hH rfl) (cwV 1 hts gX2_recovered_X2_isHome rfl rfl rfl (by decide +kernel) ⟨Nat.le_of_ble_eq_true rfl, Nat.le_of_ble_eq_true rfl⟩) hK hP hD hS hA 2 2 tp_e2 rfl rfl rfl hl.1 rfl (Nat.le_of_ble_eq_true rfl) dX2_recovered_7 ⟨Nat.zero_le _, Nat.zero_le _⟩ (fun I9 e9 H locs hP hD hS => ?_)
  subst e9
  refine lv_if_eq (tgt := 22) hx hb dX2_recovered_10 (by decide) (fun c10_1 => ?_) (fun c10_1 => ?_)
  · refine lv_aload_n hx hb dX2_recovered_22 rfl (lv_at hl 0 rfl) ?_
    refine lv_iconst (v := 1) hx hb dX2_recovered_23 (by decide) ?_
    refine tp_callV ⟨hx, hb, hml, hown, hts⟩ (mc_fails l D cy n ad o (tp_u I 2 0 0) 1) (cwV 1 hts gX2_recovered_X2_fails rfl rfl rfl (by decide +kernel) ⟨Nat.le_of_ble_eq_true rfl, Nat.le_of_ble_eq_true rfl⟩) hK hP hD hS hA 2 2 tp_e2 rfl rfl rfl hl.1 rfl (Nat.le_of_ble_eq_true rfl) dX2_recovered_24 ⟨Nat.zero_le _, Nat.zero_le _⟩ (fun I9 e9 H locs hP hD hS => ?_)
    subst e9
    exact tp_reti hx hb hr hlocks hK hP hD hS rfl rfl rfl dX2_recovered_27
  · exact absurd rfl c10_1
set_option maxHeartbeats 4000000 in
set_option maxRecDepth 100000 in
/-- recovered: ok -/
theorem mp_recovered_ok (l : Launch) (D : va_G) (cy : Nat → ClassId) (n : Nat) (ad : Nat → Nat) (o : Int64) (I : Nat → Nat → Int32) (h : Nat) (hh : h < 6) (hH : tp_in (nI h) 0 (I 2 2 - 1) = 1) : tp_I l yX2_recovered wsX2_recovered (tp_rm 2 43) D cy n ad o [.ref (ad (2)), .int (nI h)] I (I 11 h) (tp_u I 2 0 0) := by
  refine tp_ofI (lv := [(0, .ref (ad (2))), (1, .int (nI h))]) (by decide) rfl (Nat.le_of_ble_eq_true rfl) rfl (fun p e s m args below meth c A ls S0 => ?_)
  obtain ⟨hx, hb, hr, hml, hown, hts, hlocks, hA, hK, hP, hD, hS, hl⟩ := S0
  refine lv_aload_n hx hb dX2_recovered_0 rfl (lv_at hl 0 rfl) ?_
  refine lv_iconst (v := 0) hx hb dX2_recovered_1 (by decide) ?_
  refine tp_put (ci := 2) (v := 0) (ty := .int) (C := RX2) (T := TX2) (N := 16) hx hb hts (fun _ h => List.mem_cons_of_mem _ (List.mem_append_right _ (h))) tyX2 tyX2_ok nmX2 hown hK hP hD hS 2 tp_e2 (by omega) rfl 0 (by decide) (hts _ (List.mem_of_getElem? (i := 1) rfl)) rfl (by decide +kernel) rfl rfl (Nat.le_of_ble_eq_true rfl) rfl dX2_recovered_2 (fun H locs hP hD hS => ?_)
  refine lv_aload_n hx hb dX2_recovered_5 rfl (lv_at hl 0 rfl) ?_
  refine lv_iload_n hx hb dX2_recovered_6 rfl (lv_at hl 1 rfl) ?_
  refine tp_callV ⟨hx, hb, hml, hown, hts⟩ (tp_eqI (mc_isHome l D cy n ad o (tp_u I 2 0 0) (nI h)) hH rfl) (cwV 1 hts gX2_recovered_X2_isHome rfl rfl rfl (by decide +kernel) ⟨Nat.le_of_ble_eq_true rfl, Nat.le_of_ble_eq_true rfl⟩) hK hP hD hS hA 2 2 tp_e2 rfl rfl rfl hl.1 rfl (Nat.le_of_ble_eq_true rfl) dX2_recovered_7 ⟨Nat.zero_le _, Nat.zero_le _⟩ (fun I9 e9 H locs hP hD hS => ?_)
  subst e9
  refine lv_if_eq (tgt := 22) hx hb dX2_recovered_10 (by decide) (fun c10_1 => ?_) (fun c10_1 => ?_)
  · exact absurd c10_1 (by decide)
  · refine lv_aload_n hx hb dX2_recovered_13 rfl (lv_at hl 0 rfl) ?_
    refine va_get (D := D) (ci := 2) (v := .ref (ad (11))) (C := RX2) (T := TX2) (N := 16) hx hb hts (fun _ h => List.mem_cons_of_mem _ (List.mem_append_right _ (h))) hown hK hP 2 tp_e2 rfl 11 (by decide) (hts _ (List.mem_of_getElem? (i := 2) rfl)) (fun _ h9 => h9) rfl dX2_recovered_14 ?_
    refine lv_iload_n hx hb dX2_recovered_17 rfl (lv_at hl 1 rfl) ?_
    refine tp_iald hx hb hK hP 11 6 (h) (by omega) rfl rfl (by omega) (by decide) dX2_recovered_18 ?_
    refine tp_eqi (y := (I 11 h)) rfl ?_
    refine lv_goto (tgt := 27) hx hb dX2_recovered_19 (by decide) ?_
    exact tp_reti hx hb hr hlocks hK hP hD hS rfl rfl rfl dX2_recovered_27
set_option maxHeartbeats 4000000 in
set_option maxRecDepth 100000 in
/-- unassessed: no -/
theorem mp_unassessed_no (l : Launch) (D : va_G) (cy : Nat → ClassId) (n : Nat) (ad : Nat → Nat) (o : Int64) (I : Nat → Nat → Int32) (x : Int32) (hH : tp_in x 0 (I 2 2 - 1) = 0) : tp_I l yX2_unassessed wsX2_unassessed (tp_rm 2 43) D cy n ad o [.ref (ad (2)), .int x] I (0) (tp_u (tp_u I 2 0 0) 2 0 1) := by
  refine tp_ofI (lv := [(0, .ref (ad (2))), (1, .int x)]) (by decide) rfl (Nat.le_of_ble_eq_true rfl) rfl (fun p e s m args below meth c A ls S0 => ?_)
  obtain ⟨hx, hb, hr, hml, hown, hts, hlocks, hA, hK, hP, hD, hS, hl⟩ := S0
  refine lv_aload_n hx hb dX2_unassessed_0 rfl (lv_at hl 0 rfl) ?_
  refine lv_iconst (v := 0) hx hb dX2_unassessed_1 (by decide) ?_
  refine tp_put (ci := 2) (v := 0) (ty := .int) (C := RX2) (T := TX2) (N := 16) hx hb hts (fun _ h => List.mem_cons_of_mem _ (List.mem_append_right _ (h))) tyX2 tyX2_ok nmX2 hown hK hP hD hS 2 tp_e2 (by omega) rfl 0 (by decide) (hts _ (List.mem_of_getElem? (i := 1) rfl)) rfl (by decide +kernel) rfl rfl (Nat.le_of_ble_eq_true rfl) rfl dX2_unassessed_2 (fun H locs hP hD hS => ?_)
  refine lv_aload_n hx hb dX2_unassessed_5 rfl (lv_at hl 0 rfl) ?_
  refine lv_iload_n hx hb dX2_unassessed_6 rfl (lv_at hl 1 rfl) ?_
  refine tp_callV ⟨hx, hb, hml, hown, hts⟩ (tp_eqI (mc_isHome l D cy n ad o (tp_u I 2 0 0) x) hH rfl) (cwV 1 hts gX2_unassessed_X2_isHome rfl rfl rfl (by decide +kernel) ⟨Nat.le_of_ble_eq_true rfl, Nat.le_of_ble_eq_true rfl⟩) hK hP hD hS hA 2 2 tp_e2 rfl rfl rfl hl.1 rfl (Nat.le_of_ble_eq_true rfl) dX2_unassessed_7 ⟨Nat.zero_le _, Nat.zero_le _⟩ (fun I9 e9 H locs hP hD hS => ?_)
  subst e9
  refine lv_if_eq (tgt := 21) hx hb dX2_unassessed_10 (by decide) (fun c10_1 => ?_) (fun c10_1 => ?_)
  · refine lv_aload_n hx hb dX2_unassessed_21 rfl (lv_at hl 0 rfl) ?_
    refine lv_iconst (v := 1) hx hb dX2_unassessed_22 (by decide) ?_
    refine tp_callV ⟨hx, hb, hml, hown, hts⟩ (mc_fails l D cy n ad o (tp_u I 2 0 0) 1) (cwV 1 hts gX2_unassessed_X2_fails rfl rfl rfl (by decide +kernel) ⟨Nat.le_of_ble_eq_true rfl, Nat.le_of_ble_eq_true rfl⟩) hK hP hD hS hA 2 2 tp_e2 rfl rfl rfl hl.1 rfl (Nat.le_of_ble_eq_true rfl) dX2_unassessed_23 ⟨Nat.zero_le _, Nat.zero_le _⟩ (fun I9 e9 H locs hP hD hS => ?_)
    subst e9
    exact tp_reti hx hb hr hlocks hK hP hD hS rfl rfl rfl dX2_unassessed_26
  · exact absurd rfl c10_1
set_option maxHeartbeats 4000000 in
set_option maxRecDepth 100000 in
/-- unassessed: ok -/
theorem mp_unassessed_ok (l : Launch) (D : va_G) (cy : Nat → ClassId) (n : Nat) (ad : Nat → Nat) (o : Int64) (I : Nat → Nat → Int32) (h : Nat) (hh : h < 6) (hH : tp_in (nI h) 0 (I 2 2 - 1) = 1) (hc : tp_C I h) (a0 e0 : Nat) (ha : I 3 h = nI a0) (he : I 2 1 = nI e0) (ha8 : a0 ≤ 48) (he8 : e0 ≤ 48) : tp_I l yX2_unassessed wsX2_unassessed (tp_rm 5 116) D cy n ad o [.ref (ad (2)), .int (nI h)] I (tp_mopen (tp_u I 2 0 0) h a0 e0) (tp_u I 2 0 0) := by
  refine tp_ofI (lv := [(0, .ref (ad (2))), (1, .int (nI h))]) (by decide) rfl (Nat.le_of_ble_eq_true rfl) rfl (fun p e s m args below meth c A ls S0 => ?_)
  obtain ⟨hx, hb, hr, hml, hown, hts, hlocks, hA, hK, hP, hD, hS, hl⟩ := S0
  refine lv_aload_n hx hb dX2_unassessed_0 rfl (lv_at hl 0 rfl) ?_
  refine lv_iconst (v := 0) hx hb dX2_unassessed_1 (by decide) ?_
  refine tp_put (ci := 2) (v := 0) (ty := .int) (C := RX2) (T := TX2) (N := 16) hx hb hts (fun _ h => List.mem_cons_of_mem _ (List.mem_append_right _ (h))) tyX2 tyX2_ok nmX2 hown hK hP hD hS 2 tp_e2 (by omega) rfl 0 (by decide) (hts _ (List.mem_of_getElem? (i := 1) rfl)) rfl (by decide +kernel) rfl rfl (Nat.le_of_ble_eq_true rfl) rfl dX2_unassessed_2 (fun H locs hP hD hS => ?_)
  refine lv_aload_n hx hb dX2_unassessed_5 rfl (lv_at hl 0 rfl) ?_
  refine lv_iload_n hx hb dX2_unassessed_6 rfl (lv_at hl 1 rfl) ?_
  refine tp_callV ⟨hx, hb, hml, hown, hts⟩ (tp_eqI (mc_isHome l D cy n ad o (tp_u I 2 0 0) (nI h)) hH rfl) (cwV 1 hts gX2_unassessed_X2_isHome rfl rfl rfl (by decide +kernel) ⟨Nat.le_of_ble_eq_true rfl, Nat.le_of_ble_eq_true rfl⟩) hK hP hD hS hA 2 2 tp_e2 rfl rfl rfl hl.1 rfl (Nat.le_of_ble_eq_true rfl) dX2_unassessed_7 ⟨Nat.zero_le _, Nat.zero_le _⟩ (fun I9 e9 H locs hP hD hS => ?_)
  subst e9
  refine lv_if_eq (tgt := 21) hx hb dX2_unassessed_10 (by decide) (fun c10_1 => ?_) (fun c10_1 => ?_)
  · exact absurd c10_1 (by decide)
  · refine lv_aload_n hx hb dX2_unassessed_13 rfl (lv_at hl 0 rfl) ?_
    refine lv_iload_n hx hb dX2_unassessed_14 rfl (lv_at hl 1 rfl) ?_
    refine tp_callV ⟨hx, hb, hml, hown, hts⟩ (mc_openOf l D cy n ad o (tp_u I 2 0 0) h (by omega) hc a0 e0 ha he ha8 he8) (cwV 1 hts gX2_unassessed_X2_openOf rfl rfl rfl (by decide +kernel) ⟨Nat.le_of_ble_eq_true rfl, Nat.le_of_ble_eq_true rfl⟩) hK hP hD hS hA 2 2 tp_e2 rfl rfl rfl hl.1 rfl (Nat.le_of_ble_eq_true rfl) dX2_unassessed_15 ⟨Nat.zero_le _, Nat.zero_le _⟩ (fun I9 e9 H locs hP hD hS => ?_)
    subst e9
    refine lv_goto (tgt := 26) hx hb dX2_unassessed_18 (by decide) ?_
    exact tp_reti hx hb hr hlocks hK hP hD hS rfl rfl rfl dX2_unassessed_26
set_option maxHeartbeats 4000000 in
set_option maxRecDepth 100000 in
/-- wouldPay: no -/
theorem mp_wouldPay_no (l : Launch) (D : va_G) (cy : Nat → ClassId) (n : Nat) (ad : Nat → Nat) (o : Int64) (I : Nat → Nat → Int32) (x : Int32) (hH : tp_in x 0 (I 2 2 - 1) = 0) : tp_I l yX2_wouldPay wsX2_wouldPay (tp_rm 2 43) D cy n ad o [.ref (ad (2)), .int x] I (0) (tp_u (tp_u I 2 0 0) 2 0 1) := by
  refine tp_ofI (lv := [(0, .ref (ad (2))), (1, .int x)]) (by decide) rfl (Nat.le_of_ble_eq_true rfl) rfl (fun p e s m args below meth c A ls S0 => ?_)
  obtain ⟨hx, hb, hr, hml, hown, hts, hlocks, hA, hK, hP, hD, hS, hl⟩ := S0
  refine lv_aload_n hx hb dX2_wouldPay_0 rfl (lv_at hl 0 rfl) ?_
  refine lv_iconst (v := 0) hx hb dX2_wouldPay_1 (by decide) ?_
  refine tp_put (ci := 2) (v := 0) (ty := .int) (C := RX2) (T := TX2) (N := 16) hx hb hts (fun _ h => List.mem_cons_of_mem _ (List.mem_append_right _ (h))) tyX2 tyX2_ok nmX2 hown hK hP hD hS 2 tp_e2 (by omega) rfl 0 (by decide) (hts _ (List.mem_of_getElem? (i := 1) rfl)) rfl (by decide +kernel) rfl rfl (Nat.le_of_ble_eq_true rfl) rfl dX2_wouldPay_2 (fun H locs hP hD hS => ?_)
  refine lv_aload_n hx hb dX2_wouldPay_5 rfl (lv_at hl 0 rfl) ?_
  refine lv_iload_n hx hb dX2_wouldPay_6 rfl (lv_at hl 1 rfl) ?_
  refine tp_callV ⟨hx, hb, hml, hown, hts⟩ (tp_eqI (mc_isHome l D cy n ad o (tp_u I 2 0 0) x) hH rfl) (cwV 1 hts gX2_wouldPay_X2_isHome rfl rfl rfl (by decide +kernel) ⟨Nat.le_of_ble_eq_true rfl, Nat.le_of_ble_eq_true rfl⟩) hK hP hD hS hA 2 2 tp_e2 rfl rfl rfl hl.1 rfl (Nat.le_of_ble_eq_true rfl) dX2_wouldPay_7 ⟨Nat.zero_le _, Nat.zero_le _⟩ (fun I9 e9 H locs hP hD hS => ?_)
  subst e9
  refine lv_if_ne (tgt := 19) hx hb dX2_wouldPay_10 (by decide) (fun c10_1 => ?_) (fun c10_1 => ?_)
  · exact absurd rfl c10_1
  · refine lv_aload_n hx hb dX2_wouldPay_13 rfl (lv_at hl 0 rfl) ?_
    refine lv_iconst (v := 1) hx hb dX2_wouldPay_14 (by decide) ?_
    refine tp_callV ⟨hx, hb, hml, hown, hts⟩ (mc_fails l D cy n ad o (tp_u I 2 0 0) 1) (cwV 1 hts gX2_wouldPay_X2_fails rfl rfl rfl (by decide +kernel) ⟨Nat.le_of_ble_eq_true rfl, Nat.le_of_ble_eq_true rfl⟩) hK hP hD hS hA 2 2 tp_e2 rfl rfl rfl hl.1 rfl (Nat.le_of_ble_eq_true rfl) dX2_wouldPay_15 ⟨Nat.zero_le _, Nat.zero_le _⟩ (fun I9 e9 H locs hP hD hS => ?_)
    subst e9
    exact tp_reti hx hb hr hlocks hK hP hD hS rfl rfl rfl dX2_wouldPay_18
set_option maxHeartbeats 4000000 in
set_option maxRecDepth 100000 in
/-- wouldPay: end -/
theorem mp_wouldPay_end (l : Launch) (D : va_G) (cy : Nat → ClassId) (n : Nat) (ad : Nat → Nat) (o : Int64) (I : Nat → Nat → Int32) (h : Nat) (hh : h < 6) (hH : tp_in (nI h) 0 (I 2 2 - 1) = 1) (he : I 2 1 = 48) : tp_I l yX2_wouldPay wsX2_wouldPay (tp_rm 2 43) D cy n ad o [.ref (ad (2)), .int (nI h)] I (0) (tp_u I 2 0 0) := by
  refine tp_ofI (lv := [(0, .ref (ad (2))), (1, .int (nI h))]) (by decide) rfl (Nat.le_of_ble_eq_true rfl) rfl (fun p e s m args below meth c A ls S0 => ?_)
  obtain ⟨hx, hb, hr, hml, hown, hts, hlocks, hA, hK, hP, hD, hS, hl⟩ := S0
  refine lv_aload_n hx hb dX2_wouldPay_0 rfl (lv_at hl 0 rfl) ?_
  refine lv_iconst (v := 0) hx hb dX2_wouldPay_1 (by decide) ?_
  refine tp_put (ci := 2) (v := 0) (ty := .int) (C := RX2) (T := TX2) (N := 16) hx hb hts (fun _ h => List.mem_cons_of_mem _ (List.mem_append_right _ (h))) tyX2 tyX2_ok nmX2 hown hK hP hD hS 2 tp_e2 (by omega) rfl 0 (by decide) (hts _ (List.mem_of_getElem? (i := 1) rfl)) rfl (by decide +kernel) rfl rfl (Nat.le_of_ble_eq_true rfl) rfl dX2_wouldPay_2 (fun H locs hP hD hS => ?_)
  refine lv_aload_n hx hb dX2_wouldPay_5 rfl (lv_at hl 0 rfl) ?_
  refine lv_iload_n hx hb dX2_wouldPay_6 rfl (lv_at hl 1 rfl) ?_
  refine tp_callV ⟨hx, hb, hml, hown, hts⟩ (tp_eqI (mc_isHome l D cy n ad o (tp_u I 2 0 0) (nI h)) hH rfl) (cwV 1 hts gX2_wouldPay_X2_isHome rfl rfl rfl (by decide +kernel) ⟨Nat.le_of_ble_eq_true rfl, Nat.le_of_ble_eq_true rfl⟩) hK hP hD hS hA 2 2 tp_e2 rfl rfl rfl hl.1 rfl (Nat.le_of_ble_eq_true rfl) dX2_wouldPay_7 ⟨Nat.zero_le _, Nat.zero_le _⟩ (fun I9 e9 H locs hP hD hS => ?_)
  subst e9
  refine lv_if_ne (tgt := 19) hx hb dX2_wouldPay_10 (by decide) (fun c10_1 => ?_) (fun c10_1 => ?_)
  · refine lv_aload_n hx hb dX2_wouldPay_19 rfl (lv_at hl 0 rfl) ?_
    refine va_get (D := D) (ci := 2) (v := .int (I 2 1)) (C := RX2) (T := TX2) (N := 16) hx hb hts (fun _ h => List.mem_cons_of_mem _ (List.mem_append_right _ (h))) hown hK hP 2 tp_e2 rfl 1 (by decide) (hts _ (List.mem_of_getElem? (i := 2) rfl)) (fun _ h9 => h9) rfl dX2_wouldPay_20 ?_
    refine lv_bipush (v := 48) hx hb dX2_wouldPay_23 (by decide) ?_
    refine lv_icmp_ne (tgt := 30) hx hb dX2_wouldPay_25 (by decide) (fun c25_2 => ?_) (fun c25_2 => ?_)
    · exact absurd he c25_2
    · refine lv_iconst (v := 0) hx hb dX2_wouldPay_28 (by decide) ?_
      exact tp_reti hx hb hr hlocks hK hP hD hS rfl rfl rfl dX2_wouldPay_29
  · exact absurd c10_1 (by decide)
set_option maxHeartbeats 4000000 in
set_option maxRecDepth 100000 in
/-- wouldPay: ok -/
theorem mp_wouldPay_ok (l : Launch) (D : va_G) (cy : Nat → ClassId) (n : Nat) (ad : Nat → Nat) (o : Int64) (I : Nat → Nat → Int32) (h : Nat) (hh : h < 6) (hH : tp_in (nI h) 0 (I 2 2 - 1) = 1) (hc : tp_C I h) (a0 e0 : Nat) (ha : I 3 h = nI a0) (he : I 2 1 = nI e0) (ha8 : a0 ≤ 48) (he8 : e0 ≤ 48) (hlt : e0 < 48) : tp_I l yX2_wouldPay wsX2_wouldPay (tp_rm 6 142) D cy n ad o [.ref (ad (2)), .int (nI h)] I (tp_rpay (tp_u I 2 0 0) h (nI e0) (tp_mopen (tp_u I 2 0 0) h a0 e0)) (tp_reck (tp_u I 2 0 0) h (nI e0) (tp_mopen (tp_u I 2 0 0) h a0 e0)) := by
  refine tp_ofI (lv := [(0, .ref (ad (2))), (1, .int (nI h))]) (by decide) rfl (Nat.le_of_ble_eq_true rfl) rfl (fun p e s m args below meth c A ls S0 => ?_)
  obtain ⟨hx, hb, hr, hml, hown, hts, hlocks, hA, hK, hP, hD, hS, hl⟩ := S0
  refine lv_aload_n hx hb dX2_wouldPay_0 rfl (lv_at hl 0 rfl) ?_
  refine lv_iconst (v := 0) hx hb dX2_wouldPay_1 (by decide) ?_
  refine tp_put (ci := 2) (v := 0) (ty := .int) (C := RX2) (T := TX2) (N := 16) hx hb hts (fun _ h => List.mem_cons_of_mem _ (List.mem_append_right _ (h))) tyX2 tyX2_ok nmX2 hown hK hP hD hS 2 tp_e2 (by omega) rfl 0 (by decide) (hts _ (List.mem_of_getElem? (i := 1) rfl)) rfl (by decide +kernel) rfl rfl (Nat.le_of_ble_eq_true rfl) rfl dX2_wouldPay_2 (fun H locs hP hD hS => ?_)
  refine lv_aload_n hx hb dX2_wouldPay_5 rfl (lv_at hl 0 rfl) ?_
  refine lv_iload_n hx hb dX2_wouldPay_6 rfl (lv_at hl 1 rfl) ?_
  refine tp_callV ⟨hx, hb, hml, hown, hts⟩ (tp_eqI (mc_isHome l D cy n ad o (tp_u I 2 0 0) (nI h)) hH rfl) (cwV 1 hts gX2_wouldPay_X2_isHome rfl rfl rfl (by decide +kernel) ⟨Nat.le_of_ble_eq_true rfl, Nat.le_of_ble_eq_true rfl⟩) hK hP hD hS hA 2 2 tp_e2 rfl rfl rfl hl.1 rfl (Nat.le_of_ble_eq_true rfl) dX2_wouldPay_7 ⟨Nat.zero_le _, Nat.zero_le _⟩ (fun I9 e9 H locs hP hD hS => ?_)
  subst e9
  refine lv_if_ne (tgt := 19) hx hb dX2_wouldPay_10 (by decide) (fun c10_1 => ?_) (fun c10_1 => ?_)
  · refine lv_aload_n hx hb dX2_wouldPay_19 rfl (lv_at hl 0 rfl) ?_
    refine va_get (D := D) (ci := 2) (v := .int (I 2 1)) (C := RX2) (T := TX2) (N := 16) hx hb hts (fun _ h => List.mem_cons_of_mem _ (List.mem_append_right _ (h))) hown hK hP 2 tp_e2 rfl 1 (by decide) (hts _ (List.mem_of_getElem? (i := 2) rfl)) (fun _ h9 => h9) rfl dX2_wouldPay_20 ?_
    refine lv_bipush (v := 48) hx hb dX2_wouldPay_23 (by decide) ?_
    refine lv_icmp_ne (tgt := 30) hx hb dX2_wouldPay_25 (by decide) (fun c25_2 => ?_) (fun c25_2 => ?_)
    · refine lv_aload_n hx hb dX2_wouldPay_30 rfl (lv_at hl 0 rfl) ?_
      refine lv_iload_n hx hb dX2_wouldPay_31 rfl (lv_at hl 1 rfl) ?_
      refine tp_callVv ⟨hx, hb, hml, hown, hts⟩ (mc_reckons l D cy n ad o (tp_u I 2 0 0) h (by omega) hc a0 e0 ha he ha8 he8) (cwV 1 hts gX2_wouldPay_X2_reckons rfl rfl rfl (by decide +kernel) ⟨Nat.le_of_ble_eq_true rfl, Nat.le_of_ble_eq_true rfl⟩) hK hP hD hS hA 2 2 tp_e2 rfl rfl rfl hl.1 rfl (Nat.le_of_ble_eq_true rfl) dX2_wouldPay_32 ⟨Nat.zero_le _, Nat.zero_le _⟩ (fun I9 e9 H locs hP hD hS => ?_)
      subst e9
      refine lv_aload_n hx hb dX2_wouldPay_35 rfl (lv_at hl 0 rfl) ?_
      refine va_get (D := D) (ci := 2) (v := .int (tp_rpay (tp_u I 2 0 0) h (nI e0) (tp_mopen (tp_u I 2 0 0) h a0 e0))) (C := RX2) (T := TX2) (N := 16) hx hb hts (fun _ h => List.mem_cons_of_mem _ (List.mem_append_right _ (h))) hown hK hP 2 tp_e2 rfl 15 (by decide) (hts _ (List.mem_of_getElem? (i := 3) rfl)) (fun _ h9 => h9) rfl dX2_wouldPay_36 ?_
      exact tp_reti hx hb hr hlocks hK hP hD hS rfl rfl rfl dX2_wouldPay_39
    · exact absurd ((he.symm.trans c25_2 : nI e0 = nI 48)) (fun z => absurd ((nI_eq (by omega) (by decide)).mp z) (by omega))
  · exact absurd c10_1 (by decide)
set_option maxHeartbeats 4000000 in
set_option maxRecDepth 100000 in
/-- need: no -/
theorem mp_need_no (l : Launch) (D : va_G) (cy : Nat → ClassId) (n : Nat) (ad : Nat → Nat) (o : Int64) (I : Nat → Nat → Int32) (x k : Int32) (hq : tp_ask I x k = 1) : tp_I l yX2_need wsX2_need (tp_rm 3 65) D cy n ad o [.ref (ad (2)), .int x, .int k] I (0) (tp_u I 2 0 1) := by
  refine tp_ofI (lv := [(0, .ref (ad (2))), (1, .int x), (2, .int k)]) (by decide) rfl (Nat.le_of_ble_eq_true rfl) rfl (fun p e s m args below meth c A ls S0 => ?_)
  obtain ⟨hx, hb, hr, hml, hown, hts, hlocks, hA, hK, hP, hD, hS, hl⟩ := S0
  refine lv_aload_n hx hb dX2_need_0 rfl (lv_at hl 0 rfl) ?_
  refine lv_iload_n hx hb dX2_need_1 rfl (lv_at hl 1 rfl) ?_
  refine lv_iload_n hx hb dX2_need_2 rfl (lv_at hl 2 rfl) ?_
  refine tp_callV ⟨hx, hb, hml, hown, hts⟩ (tp_eqI (mc_isAsked l D cy n ad o I x k) (by rw [hq]) (congrArg (tp_u I 2 0) hq)) (cwV 2 hts gX2_need_X2_isAsked rfl rfl rfl (by decide +kernel) ⟨Nat.le_of_ble_eq_true rfl, Nat.le_of_ble_eq_true rfl⟩) hK hP hD hS hA 2 2 tp_e2 rfl rfl rfl hl.1 rfl (Nat.le_of_ble_eq_true rfl) dX2_need_3 ⟨Nat.zero_le _, Nat.zero_le _⟩ (fun I9 e9 H locs hP hD hS => ?_)
  subst e9
  refine lv_if_eq (tgt := 18) hx hb dX2_need_6 (by decide) (fun c6_1 => ?_) (fun c6_1 => ?_)
  · refine lv_iconst (v := 0) hx hb dX2_need_18 (by decide) ?_
    exact tp_reti hx hb hr hlocks hK hP hD hS rfl rfl rfl dX2_need_19
  · exact absurd rfl c6_1
set_option maxHeartbeats 4000000 in
set_option maxRecDepth 100000 in
/-- need: ok -/
theorem mp_need_ok (l : Launch) (D : va_G) (cy : Nat → ClassId) (n : Nat) (ad : Nat → Nat) (o : Int64) (I : Nat → Nat → Int32) (h : Nat) (hh : h < 6) (m0 : Nat) (hm : m0 < 48) (hq : tp_ask I (nI h) (nI m0) = 0) (hc : tp_C I h) : tp_I l yX2_need wsX2_need (tp_rm 3 70) D cy n ad o [.ref (ad (2)), .int (nI h), .int (nI m0)] I (tp_mneed (tp_u I 2 0 0) h (nI m0)) (tp_u I 2 0 0) := by
  refine tp_ofI (lv := [(0, .ref (ad (2))), (1, .int (nI h)), (2, .int (nI m0))]) (by decide) rfl (Nat.le_of_ble_eq_true rfl) rfl (fun p e s m args below meth c A ls S0 => ?_)
  obtain ⟨hx, hb, hr, hml, hown, hts, hlocks, hA, hK, hP, hD, hS, hl⟩ := S0
  refine lv_aload_n hx hb dX2_need_0 rfl (lv_at hl 0 rfl) ?_
  refine lv_iload_n hx hb dX2_need_1 rfl (lv_at hl 1 rfl) ?_
  refine lv_iload_n hx hb dX2_need_2 rfl (lv_at hl 2 rfl) ?_
  refine tp_callV ⟨hx, hb, hml, hown, hts⟩ (tp_eqI (mc_isAsked l D cy n ad o I (nI h) (nI m0)) (if_pos hq) (congrArg (tp_u I 2 0) hq)) (cwV 2 hts gX2_need_X2_isAsked rfl rfl rfl (by decide +kernel) ⟨Nat.le_of_ble_eq_true rfl, Nat.le_of_ble_eq_true rfl⟩) hK hP hD hS hA 2 2 tp_e2 rfl rfl rfl hl.1 rfl (Nat.le_of_ble_eq_true rfl) dX2_need_3 ⟨Nat.zero_le _, Nat.zero_le _⟩ (fun I9 e9 H locs hP hD hS => ?_)
  subst e9
  refine lv_if_eq (tgt := 18) hx hb dX2_need_6 (by decide) (fun c6_1 => ?_) (fun c6_1 => ?_)
  · exact absurd c6_1 (by decide)
  · refine lv_aload_n hx hb dX2_need_9 rfl (lv_at hl 0 rfl) ?_
    refine lv_iload_n hx hb dX2_need_10 rfl (lv_at hl 1 rfl) ?_
    refine lv_iload_n hx hb dX2_need_11 rfl (lv_at hl 2 rfl) ?_
    refine tp_callV ⟨hx, hb, hml, hown, hts⟩ (mc_needOf l D cy n ad o (tp_u I 2 0 0) h (by omega) hc (nI m0)) (cwV 2 hts gX2_need_X2_needOf rfl rfl rfl (by decide +kernel) ⟨Nat.le_of_ble_eq_true rfl, Nat.le_of_ble_eq_true rfl⟩) hK hP hD hS hA 2 2 tp_e2 rfl rfl rfl hl.1 rfl (Nat.le_of_ble_eq_true rfl) dX2_need_12 ⟨Nat.zero_le _, Nat.zero_le _⟩ (fun I9 e9 H locs hP hD hS => ?_)
    subst e9
    refine lv_goto (tgt := 19) hx hb dX2_need_15 (by decide) ?_
    exact tp_reti hx hb hr hlocks hK hP hD hS rfl rfl rfl dX2_need_19
set_option maxHeartbeats 4000000 in
set_option maxRecDepth 100000 in
/-- taper: no -/
theorem mp_taper_no (l : Launch) (D : va_G) (cy : Nat → ClassId) (n : Nat) (ad : Nat → Nat) (o : Int64) (I : Nat → Nat → Int32) (x k : Int32) (hq : tp_ask I x k = 1) : tp_I l yX2_taper wsX2_taper (tp_rm 3 65) D cy n ad o [.ref (ad (2)), .int x, .int k] I (0) (tp_u I 2 0 1) := by
  refine tp_ofI (lv := [(0, .ref (ad (2))), (1, .int x), (2, .int k)]) (by decide) rfl (Nat.le_of_ble_eq_true rfl) rfl (fun p e s m args below meth c A ls S0 => ?_)
  obtain ⟨hx, hb, hr, hml, hown, hts, hlocks, hA, hK, hP, hD, hS, hl⟩ := S0
  refine lv_aload_n hx hb dX2_taper_0 rfl (lv_at hl 0 rfl) ?_
  refine lv_iload_n hx hb dX2_taper_1 rfl (lv_at hl 1 rfl) ?_
  refine lv_iload_n hx hb dX2_taper_2 rfl (lv_at hl 2 rfl) ?_
  refine tp_callV ⟨hx, hb, hml, hown, hts⟩ (tp_eqI (mc_isAsked l D cy n ad o I x k) (by rw [hq]) (congrArg (tp_u I 2 0) hq)) (cwV 2 hts gX2_taper_X2_isAsked rfl rfl rfl (by decide +kernel) ⟨Nat.le_of_ble_eq_true rfl, Nat.le_of_ble_eq_true rfl⟩) hK hP hD hS hA 2 2 tp_e2 rfl rfl rfl hl.1 rfl (Nat.le_of_ble_eq_true rfl) dX2_taper_3 ⟨Nat.zero_le _, Nat.zero_le _⟩ (fun I9 e9 H locs hP hD hS => ?_)
  subst e9
  refine lv_if_eq (tgt := 18) hx hb dX2_taper_6 (by decide) (fun c6_1 => ?_) (fun c6_1 => ?_)
  · refine lv_iconst (v := 0) hx hb dX2_taper_18 (by decide) ?_
    exact tp_reti hx hb hr hlocks hK hP hD hS rfl rfl rfl dX2_taper_19
  · exact absurd rfl c6_1
set_option maxHeartbeats 4000000 in
set_option maxRecDepth 100000 in
/-- taper: ok -/
theorem mp_taper_ok (l : Launch) (D : va_G) (cy : Nat → ClassId) (n : Nat) (ad : Nat → Nat) (o : Int64) (I : Nat → Nat → Int32) (h : Nat) (hh : h < 6) (m0 : Nat) (hm : m0 < 48) (hq : tp_ask I (nI h) (nI m0) = 0) (hc : tp_C I h) : tp_I l yX2_taper wsX2_taper (tp_rm 3 70) D cy n ad o [.ref (ad (2)), .int (nI h), .int (nI m0)] I (tp_mtaper (tp_u I 2 0 0) h (nI m0)) (tp_u I 2 0 0) := by
  refine tp_ofI (lv := [(0, .ref (ad (2))), (1, .int (nI h)), (2, .int (nI m0))]) (by decide) rfl (Nat.le_of_ble_eq_true rfl) rfl (fun p e s m args below meth c A ls S0 => ?_)
  obtain ⟨hx, hb, hr, hml, hown, hts, hlocks, hA, hK, hP, hD, hS, hl⟩ := S0
  refine lv_aload_n hx hb dX2_taper_0 rfl (lv_at hl 0 rfl) ?_
  refine lv_iload_n hx hb dX2_taper_1 rfl (lv_at hl 1 rfl) ?_
  refine lv_iload_n hx hb dX2_taper_2 rfl (lv_at hl 2 rfl) ?_
  refine tp_callV ⟨hx, hb, hml, hown, hts⟩ (tp_eqI (mc_isAsked l D cy n ad o I (nI h) (nI m0)) (if_pos hq) (congrArg (tp_u I 2 0) hq)) (cwV 2 hts gX2_taper_X2_isAsked rfl rfl rfl (by decide +kernel) ⟨Nat.le_of_ble_eq_true rfl, Nat.le_of_ble_eq_true rfl⟩) hK hP hD hS hA 2 2 tp_e2 rfl rfl rfl hl.1 rfl (Nat.le_of_ble_eq_true rfl) dX2_taper_3 ⟨Nat.zero_le _, Nat.zero_le _⟩ (fun I9 e9 H locs hP hD hS => ?_)
  subst e9
  refine lv_if_eq (tgt := 18) hx hb dX2_taper_6 (by decide) (fun c6_1 => ?_) (fun c6_1 => ?_)
  · exact absurd c6_1 (by decide)
  · refine lv_aload_n hx hb dX2_taper_9 rfl (lv_at hl 0 rfl) ?_
    refine lv_iload_n hx hb dX2_taper_10 rfl (lv_at hl 1 rfl) ?_
    refine lv_iload_n hx hb dX2_taper_11 rfl (lv_at hl 2 rfl) ?_
    refine tp_callV ⟨hx, hb, hml, hown, hts⟩ (mc_taperOf l D cy n ad o (tp_u I 2 0 0) h (by omega) hc (nI m0)) (cwV 2 hts gX2_taper_X2_taperOf rfl rfl rfl (by decide +kernel) ⟨Nat.le_of_ble_eq_true rfl, Nat.le_of_ble_eq_true rfl⟩) hK hP hD hS hA 2 2 tp_e2 rfl rfl rfl hl.1 rfl (Nat.le_of_ble_eq_true rfl) dX2_taper_12 ⟨Nat.zero_le _, Nat.zero_le _⟩ (fun I9 e9 H locs hP hD hS => ?_)
    subst e9
    refine lv_goto (tgt := 19) hx hb dX2_taper_15 (by decide) ?_
    exact tp_reti hx hb hr hlocks hK hP hD hS rfl rfl rfl dX2_taper_19
set_option maxHeartbeats 4000000 in
set_option maxRecDepth 100000 in
/-- tariff: no -/
theorem mp_tariff_no (l : Launch) (D : va_G) (cy : Nat → ClassId) (n : Nat) (ad : Nat → Nat) (o : Int64) (I : Nat → Nat → Int32) (x k : Int32) (hq : tp_ask I x k = 1) : tp_I l yX2_tariff wsX2_tariff (tp_rm 3 65) D cy n ad o [.ref (ad (2)), .int x, .int k] I (0) (tp_u I 2 0 1) := by
  refine tp_ofI (lv := [(0, .ref (ad (2))), (1, .int x), (2, .int k)]) (by decide) rfl (Nat.le_of_ble_eq_true rfl) rfl (fun p e s m args below meth c A ls S0 => ?_)
  obtain ⟨hx, hb, hr, hml, hown, hts, hlocks, hA, hK, hP, hD, hS, hl⟩ := S0
  refine lv_aload_n hx hb dX2_tariff_0 rfl (lv_at hl 0 rfl) ?_
  refine lv_iload_n hx hb dX2_tariff_1 rfl (lv_at hl 1 rfl) ?_
  refine lv_iload_n hx hb dX2_tariff_2 rfl (lv_at hl 2 rfl) ?_
  refine tp_callV ⟨hx, hb, hml, hown, hts⟩ (tp_eqI (mc_isAsked l D cy n ad o I x k) (by rw [hq]) (congrArg (tp_u I 2 0) hq)) (cwV 2 hts gX2_tariff_X2_isAsked rfl rfl rfl (by decide +kernel) ⟨Nat.le_of_ble_eq_true rfl, Nat.le_of_ble_eq_true rfl⟩) hK hP hD hS hA 2 2 tp_e2 rfl rfl rfl hl.1 rfl (Nat.le_of_ble_eq_true rfl) dX2_tariff_3 ⟨Nat.zero_le _, Nat.zero_le _⟩ (fun I9 e9 H locs hP hD hS => ?_)
  subst e9
  refine lv_if_eq (tgt := 18) hx hb dX2_tariff_6 (by decide) (fun c6_1 => ?_) (fun c6_1 => ?_)
  · refine lv_iconst (v := 0) hx hb dX2_tariff_18 (by decide) ?_
    exact tp_reti hx hb hr hlocks hK hP hD hS rfl rfl rfl dX2_tariff_19
  · exact absurd rfl c6_1
set_option maxHeartbeats 4000000 in
set_option maxRecDepth 100000 in
/-- tariff: ok -/
theorem mp_tariff_ok (l : Launch) (D : va_G) (cy : Nat → ClassId) (n : Nat) (ad : Nat → Nat) (o : Int64) (I : Nat → Nat → Int32) (h : Nat) (hh : h < 6) (m0 : Nat) (hm : m0 < 48) (hq : tp_ask I (nI h) (nI m0) = 0) (hc : tp_C I h) : tp_I l yX2_tariff wsX2_tariff (tp_rm 3 70) D cy n ad o [.ref (ad (2)), .int (nI h), .int (nI m0)] I (tp_mtariff (tp_u I 2 0 0) h (nI m0)) (tp_u I 2 0 0) := by
  refine tp_ofI (lv := [(0, .ref (ad (2))), (1, .int (nI h)), (2, .int (nI m0))]) (by decide) rfl (Nat.le_of_ble_eq_true rfl) rfl (fun p e s m args below meth c A ls S0 => ?_)
  obtain ⟨hx, hb, hr, hml, hown, hts, hlocks, hA, hK, hP, hD, hS, hl⟩ := S0
  refine lv_aload_n hx hb dX2_tariff_0 rfl (lv_at hl 0 rfl) ?_
  refine lv_iload_n hx hb dX2_tariff_1 rfl (lv_at hl 1 rfl) ?_
  refine lv_iload_n hx hb dX2_tariff_2 rfl (lv_at hl 2 rfl) ?_
  refine tp_callV ⟨hx, hb, hml, hown, hts⟩ (tp_eqI (mc_isAsked l D cy n ad o I (nI h) (nI m0)) (if_pos hq) (congrArg (tp_u I 2 0) hq)) (cwV 2 hts gX2_tariff_X2_isAsked rfl rfl rfl (by decide +kernel) ⟨Nat.le_of_ble_eq_true rfl, Nat.le_of_ble_eq_true rfl⟩) hK hP hD hS hA 2 2 tp_e2 rfl rfl rfl hl.1 rfl (Nat.le_of_ble_eq_true rfl) dX2_tariff_3 ⟨Nat.zero_le _, Nat.zero_le _⟩ (fun I9 e9 H locs hP hD hS => ?_)
  subst e9
  refine lv_if_eq (tgt := 18) hx hb dX2_tariff_6 (by decide) (fun c6_1 => ?_) (fun c6_1 => ?_)
  · exact absurd c6_1 (by decide)
  · refine lv_aload_n hx hb dX2_tariff_9 rfl (lv_at hl 0 rfl) ?_
    refine lv_iload_n hx hb dX2_tariff_10 rfl (lv_at hl 1 rfl) ?_
    refine lv_iload_n hx hb dX2_tariff_11 rfl (lv_at hl 2 rfl) ?_
    refine tp_callV ⟨hx, hb, hml, hown, hts⟩ (mc_tariffOf l D cy n ad o (tp_u I 2 0 0) h (by omega) hc (nI m0)) (cwV 2 hts gX2_tariff_X2_tariffOf rfl rfl rfl (by decide +kernel) ⟨Nat.le_of_ble_eq_true rfl, Nat.le_of_ble_eq_true rfl⟩) hK hP hD hS hA 2 2 tp_e2 rfl rfl rfl hl.1 rfl (Nat.le_of_ble_eq_true rfl) dX2_tariff_12 ⟨Nat.zero_le _, Nat.zero_le _⟩ (fun I9 e9 H locs hP hD hS => ?_)
    subst e9
    refine lv_goto (tgt := 19) hx hb dX2_tariff_15 (by decide) ?_
    exact tp_reti hx hb hr hlocks hK hP hD hS rfl rfl rfl dX2_tariff_19
set_option maxHeartbeats 4000000 in
set_option maxRecDepth 100000 in
/-- due: no -/
theorem mp_due_no (l : Launch) (D : va_G) (cy : Nat → ClassId) (n : Nat) (ad : Nat → Nat) (o : Int64) (I : Nat → Nat → Int32) (x k : Int32) (hq : tp_ask I x k = 1) : tp_I l yX2_due wsX2_due (tp_rm 3 65) D cy n ad o [.ref (ad (2)), .int x, .int k] I (0) (tp_u I 2 0 1) := by
  refine tp_ofI (lv := [(0, .ref (ad (2))), (1, .int x), (2, .int k)]) (by decide) rfl (Nat.le_of_ble_eq_true rfl) rfl (fun p e s m args below meth c A ls S0 => ?_)
  obtain ⟨hx, hb, hr, hml, hown, hts, hlocks, hA, hK, hP, hD, hS, hl⟩ := S0
  refine lv_aload_n hx hb dX2_due_0 rfl (lv_at hl 0 rfl) ?_
  refine lv_iload_n hx hb dX2_due_1 rfl (lv_at hl 1 rfl) ?_
  refine lv_iload_n hx hb dX2_due_2 rfl (lv_at hl 2 rfl) ?_
  refine tp_callV ⟨hx, hb, hml, hown, hts⟩ (tp_eqI (mc_isAsked l D cy n ad o I x k) (by rw [hq]) (congrArg (tp_u I 2 0) hq)) (cwV 2 hts gX2_due_X2_isAsked rfl rfl rfl (by decide +kernel) ⟨Nat.le_of_ble_eq_true rfl, Nat.le_of_ble_eq_true rfl⟩) hK hP hD hS hA 2 2 tp_e2 rfl rfl rfl hl.1 rfl (Nat.le_of_ble_eq_true rfl) dX2_due_3 ⟨Nat.zero_le _, Nat.zero_le _⟩ (fun I9 e9 H locs hP hD hS => ?_)
  subst e9
  refine lv_if_eq (tgt := 18) hx hb dX2_due_6 (by decide) (fun c6_1 => ?_) (fun c6_1 => ?_)
  · refine lv_iconst (v := 0) hx hb dX2_due_18 (by decide) ?_
    exact tp_reti hx hb hr hlocks hK hP hD hS rfl rfl rfl dX2_due_19
  · exact absurd rfl c6_1
set_option maxHeartbeats 4000000 in
set_option maxRecDepth 100000 in
/-- due: ok -/
theorem mp_due_ok (l : Launch) (D : va_G) (cy : Nat → ClassId) (n : Nat) (ad : Nat → Nat) (o : Int64) (I : Nat → Nat → Int32) (h : Nat) (hh : h < 6) (m0 : Nat) (hm : m0 < 48) (hq : tp_ask I (nI h) (nI m0) = 0) (hc : tp_C I h) : tp_I l yX2_due wsX2_due (tp_rm 4 93) D cy n ad o [.ref (ad (2)), .int (nI h), .int (nI m0)] I (tp_mdue (tp_u I 2 0 0) h (nI m0)) (tp_u I 2 0 0) := by
  refine tp_ofI (lv := [(0, .ref (ad (2))), (1, .int (nI h)), (2, .int (nI m0))]) (by decide) rfl (Nat.le_of_ble_eq_true rfl) rfl (fun p e s m args below meth c A ls S0 => ?_)
  obtain ⟨hx, hb, hr, hml, hown, hts, hlocks, hA, hK, hP, hD, hS, hl⟩ := S0
  refine lv_aload_n hx hb dX2_due_0 rfl (lv_at hl 0 rfl) ?_
  refine lv_iload_n hx hb dX2_due_1 rfl (lv_at hl 1 rfl) ?_
  refine lv_iload_n hx hb dX2_due_2 rfl (lv_at hl 2 rfl) ?_
  refine tp_callV ⟨hx, hb, hml, hown, hts⟩ (tp_eqI (mc_isAsked l D cy n ad o I (nI h) (nI m0)) (if_pos hq) (congrArg (tp_u I 2 0) hq)) (cwV 2 hts gX2_due_X2_isAsked rfl rfl rfl (by decide +kernel) ⟨Nat.le_of_ble_eq_true rfl, Nat.le_of_ble_eq_true rfl⟩) hK hP hD hS hA 2 2 tp_e2 rfl rfl rfl hl.1 rfl (Nat.le_of_ble_eq_true rfl) dX2_due_3 ⟨Nat.zero_le _, Nat.zero_le _⟩ (fun I9 e9 H locs hP hD hS => ?_)
  subst e9
  refine lv_if_eq (tgt := 18) hx hb dX2_due_6 (by decide) (fun c6_1 => ?_) (fun c6_1 => ?_)
  · exact absurd c6_1 (by decide)
  · refine lv_aload_n hx hb dX2_due_9 rfl (lv_at hl 0 rfl) ?_
    refine lv_iload_n hx hb dX2_due_10 rfl (lv_at hl 1 rfl) ?_
    refine lv_iload_n hx hb dX2_due_11 rfl (lv_at hl 2 rfl) ?_
    refine tp_callV ⟨hx, hb, hml, hown, hts⟩ (mc_dueOf l D cy n ad o (tp_u I 2 0 0) h (by omega) hc (nI m0)) (cwV 2 hts gX2_due_X2_dueOf rfl rfl rfl (by decide +kernel) ⟨Nat.le_of_ble_eq_true rfl, Nat.le_of_ble_eq_true rfl⟩) hK hP hD hS hA 2 2 tp_e2 rfl rfl rfl hl.1 rfl (Nat.le_of_ble_eq_true rfl) dX2_due_12 ⟨Nat.zero_le _, Nat.zero_le _⟩ (fun I9 e9 H locs hP hD hS => ?_)
    subst e9
    refine lv_goto (tgt := 19) hx hb dX2_due_15 (by decide) ?_
    exact tp_reti hx hb hr hlocks hK hP hD hS rfl rfl rfl dX2_due_19
set_option maxHeartbeats 4000000 in
set_option maxRecDepth 100000 in
/-- assessed: no -/
theorem mp_assessed_no (l : Launch) (D : va_G) (cy : Nat → ClassId) (n : Nat) (ad : Nat → Nat) (o : Int64) (I : Nat → Nat → Int32) (x k : Int32) (hq : tp_ask I x k = 1) : tp_I l yX2_assessed wsX2_assessed (tp_rm 3 65) D cy n ad o [.ref (ad (2)), .int x, .int k] I (0) (tp_u I 2 0 1) := by
  refine tp_ofI (lv := [(0, .ref (ad (2))), (1, .int x), (2, .int k)]) (by decide) rfl (Nat.le_of_ble_eq_true rfl) rfl (fun p e s m args below meth c A ls S0 => ?_)
  obtain ⟨hx, hb, hr, hml, hown, hts, hlocks, hA, hK, hP, hD, hS, hl⟩ := S0
  refine lv_aload_n hx hb dX2_assessed_0 rfl (lv_at hl 0 rfl) ?_
  refine lv_iload_n hx hb dX2_assessed_1 rfl (lv_at hl 1 rfl) ?_
  refine lv_iload_n hx hb dX2_assessed_2 rfl (lv_at hl 2 rfl) ?_
  refine tp_callV ⟨hx, hb, hml, hown, hts⟩ (tp_eqI (mc_isAsked l D cy n ad o I x k) (by rw [hq]) (congrArg (tp_u I 2 0) hq)) (cwV 2 hts gX2_assessed_X2_isAsked rfl rfl rfl (by decide +kernel) ⟨Nat.le_of_ble_eq_true rfl, Nat.le_of_ble_eq_true rfl⟩) hK hP hD hS hA 2 2 tp_e2 rfl rfl rfl hl.1 rfl (Nat.le_of_ble_eq_true rfl) dX2_assessed_3 ⟨Nat.zero_le _, Nat.zero_le _⟩ (fun I9 e9 H locs hP hD hS => ?_)
  subst e9
  refine lv_if_eq (tgt := 23) hx hb dX2_assessed_6 (by decide) (fun c6_1 => ?_) (fun c6_1 => ?_)
  · refine lv_iconst (v := 0) hx hb dX2_assessed_23 (by decide) ?_
    exact tp_reti hx hb hr hlocks hK hP hD hS rfl rfl rfl dX2_assessed_24
  · exact absurd rfl c6_1
set_option maxHeartbeats 4000000 in
set_option maxRecDepth 100000 in
/-- assessed: ok -/
theorem mp_assessed_ok (l : Launch) (D : va_G) (cy : Nat → ClassId) (n : Nat) (ad : Nat → Nat) (o : Int64) (I : Nat → Nat → Int32) (h : Nat) (hh : h < 6) (m0 : Nat) (hm : m0 < 48) (hq : tp_ask I (nI h) (nI m0) = 0) : tp_I l yX2_assessed wsX2_assessed (tp_rm 3 65) D cy n ad o [.ref (ad (2)), .int (nI h), .int (nI m0)] I (I 8 (48 * h + m0)) (tp_u I 2 0 0) := by
  refine tp_ofI (lv := [(0, .ref (ad (2))), (1, .int (nI h)), (2, .int (nI m0))]) (by decide) rfl (Nat.le_of_ble_eq_true rfl) rfl (fun p e s m args below meth c A ls S0 => ?_)
  obtain ⟨hx, hb, hr, hml, hown, hts, hlocks, hA, hK, hP, hD, hS, hl⟩ := S0
  refine lv_aload_n hx hb dX2_assessed_0 rfl (lv_at hl 0 rfl) ?_
  refine lv_iload_n hx hb dX2_assessed_1 rfl (lv_at hl 1 rfl) ?_
  refine lv_iload_n hx hb dX2_assessed_2 rfl (lv_at hl 2 rfl) ?_
  refine tp_callV ⟨hx, hb, hml, hown, hts⟩ (tp_eqI (mc_isAsked l D cy n ad o I (nI h) (nI m0)) (if_pos hq) (congrArg (tp_u I 2 0) hq)) (cwV 2 hts gX2_assessed_X2_isAsked rfl rfl rfl (by decide +kernel) ⟨Nat.le_of_ble_eq_true rfl, Nat.le_of_ble_eq_true rfl⟩) hK hP hD hS hA 2 2 tp_e2 rfl rfl rfl hl.1 rfl (Nat.le_of_ble_eq_true rfl) dX2_assessed_3 ⟨Nat.zero_le _, Nat.zero_le _⟩ (fun I9 e9 H locs hP hD hS => ?_)
  subst e9
  refine lv_if_eq (tgt := 23) hx hb dX2_assessed_6 (by decide) (fun c6_1 => ?_) (fun c6_1 => ?_)
  · exact absurd c6_1 (by decide)
  · refine lv_aload_n hx hb dX2_assessed_9 rfl (lv_at hl 0 rfl) ?_
    refine va_get (D := D) (ci := 2) (v := .ref (ad (8))) (C := RX2) (T := TX2) (N := 16) hx hb hts (fun _ h => List.mem_cons_of_mem _ (List.mem_append_right _ (h))) hown hK hP 2 tp_e2 rfl 8 (by decide) (hts _ (List.mem_of_getElem? (i := 1) rfl)) (fun _ h9 => h9) rfl dX2_assessed_10 ?_
    refine lv_bipush (v := 48) hx hb dX2_assessed_13 (by decide) ?_
    refine lv_iload_n hx hb dX2_assessed_15 rfl (lv_at hl 1 rfl) ?_
    refine lv_imul hx hb dX2_assessed_16 ?_
    refine tp_eqi (y := nI (48 * h)) (pk_mul 48 h) ?_
    refine lv_iload_n hx hb dX2_assessed_17 rfl (lv_at hl 2 rfl) ?_
    refine lv_iadd hx hb dX2_assessed_18 ?_
    refine tp_eqi (y := nI ((48 * h) + m0)) (nI_add (48 * h) m0) ?_
    refine tp_iald hx hb hK hP 8 288 (((48 * h) + m0)) (by omega) rfl rfl (by omega) (by decide) dX2_assessed_19 ?_
    refine tp_eqi (y := (I 8 ((48 * h) + m0))) rfl ?_
    refine lv_goto (tgt := 24) hx hb dX2_assessed_20 (by decide) ?_
    exact tp_reti hx hb hr hlocks hK hP hD hS rfl rfl rfl dX2_assessed_24
set_option maxHeartbeats 4000000 in
set_option maxRecDepth 100000 in
/-- paid: no -/
theorem mp_paid_no (l : Launch) (D : va_G) (cy : Nat → ClassId) (n : Nat) (ad : Nat → Nat) (o : Int64) (I : Nat → Nat → Int32) (x k : Int32) (hq : tp_ask I x k = 1) : tp_I l yX2_paid wsX2_paid (tp_rm 3 65) D cy n ad o [.ref (ad (2)), .int x, .int k] I (0) (tp_u I 2 0 1) := by
  refine tp_ofI (lv := [(0, .ref (ad (2))), (1, .int x), (2, .int k)]) (by decide) rfl (Nat.le_of_ble_eq_true rfl) rfl (fun p e s m args below meth c A ls S0 => ?_)
  obtain ⟨hx, hb, hr, hml, hown, hts, hlocks, hA, hK, hP, hD, hS, hl⟩ := S0
  refine lv_aload_n hx hb dX2_paid_0 rfl (lv_at hl 0 rfl) ?_
  refine lv_iload_n hx hb dX2_paid_1 rfl (lv_at hl 1 rfl) ?_
  refine lv_iload_n hx hb dX2_paid_2 rfl (lv_at hl 2 rfl) ?_
  refine tp_callV ⟨hx, hb, hml, hown, hts⟩ (tp_eqI (mc_isAsked l D cy n ad o I x k) (by rw [hq]) (congrArg (tp_u I 2 0) hq)) (cwV 2 hts gX2_paid_X2_isAsked rfl rfl rfl (by decide +kernel) ⟨Nat.le_of_ble_eq_true rfl, Nat.le_of_ble_eq_true rfl⟩) hK hP hD hS hA 2 2 tp_e2 rfl rfl rfl hl.1 rfl (Nat.le_of_ble_eq_true rfl) dX2_paid_3 ⟨Nat.zero_le _, Nat.zero_le _⟩ (fun I9 e9 H locs hP hD hS => ?_)
  subst e9
  refine lv_if_eq (tgt := 23) hx hb dX2_paid_6 (by decide) (fun c6_1 => ?_) (fun c6_1 => ?_)
  · refine lv_iconst (v := 0) hx hb dX2_paid_23 (by decide) ?_
    exact tp_reti hx hb hr hlocks hK hP hD hS rfl rfl rfl dX2_paid_24
  · exact absurd rfl c6_1
set_option maxHeartbeats 4000000 in
set_option maxRecDepth 100000 in
/-- paid: ok -/
theorem mp_paid_ok (l : Launch) (D : va_G) (cy : Nat → ClassId) (n : Nat) (ad : Nat → Nat) (o : Int64) (I : Nat → Nat → Int32) (h : Nat) (hh : h < 6) (m0 : Nat) (hm : m0 < 48) (hq : tp_ask I (nI h) (nI m0) = 0) : tp_I l yX2_paid wsX2_paid (tp_rm 3 65) D cy n ad o [.ref (ad (2)), .int (nI h), .int (nI m0)] I (I 9 (48 * h + m0)) (tp_u I 2 0 0) := by
  refine tp_ofI (lv := [(0, .ref (ad (2))), (1, .int (nI h)), (2, .int (nI m0))]) (by decide) rfl (Nat.le_of_ble_eq_true rfl) rfl (fun p e s m args below meth c A ls S0 => ?_)
  obtain ⟨hx, hb, hr, hml, hown, hts, hlocks, hA, hK, hP, hD, hS, hl⟩ := S0
  refine lv_aload_n hx hb dX2_paid_0 rfl (lv_at hl 0 rfl) ?_
  refine lv_iload_n hx hb dX2_paid_1 rfl (lv_at hl 1 rfl) ?_
  refine lv_iload_n hx hb dX2_paid_2 rfl (lv_at hl 2 rfl) ?_
  refine tp_callV ⟨hx, hb, hml, hown, hts⟩ (tp_eqI (mc_isAsked l D cy n ad o I (nI h) (nI m0)) (if_pos hq) (congrArg (tp_u I 2 0) hq)) (cwV 2 hts gX2_paid_X2_isAsked rfl rfl rfl (by decide +kernel) ⟨Nat.le_of_ble_eq_true rfl, Nat.le_of_ble_eq_true rfl⟩) hK hP hD hS hA 2 2 tp_e2 rfl rfl rfl hl.1 rfl (Nat.le_of_ble_eq_true rfl) dX2_paid_3 ⟨Nat.zero_le _, Nat.zero_le _⟩ (fun I9 e9 H locs hP hD hS => ?_)
  subst e9
  refine lv_if_eq (tgt := 23) hx hb dX2_paid_6 (by decide) (fun c6_1 => ?_) (fun c6_1 => ?_)
  · exact absurd c6_1 (by decide)
  · refine lv_aload_n hx hb dX2_paid_9 rfl (lv_at hl 0 rfl) ?_
    refine va_get (D := D) (ci := 2) (v := .ref (ad (9))) (C := RX2) (T := TX2) (N := 16) hx hb hts (fun _ h => List.mem_cons_of_mem _ (List.mem_append_right _ (h))) hown hK hP 2 tp_e2 rfl 9 (by decide) (hts _ (List.mem_of_getElem? (i := 1) rfl)) (fun _ h9 => h9) rfl dX2_paid_10 ?_
    refine lv_bipush (v := 48) hx hb dX2_paid_13 (by decide) ?_
    refine lv_iload_n hx hb dX2_paid_15 rfl (lv_at hl 1 rfl) ?_
    refine lv_imul hx hb dX2_paid_16 ?_
    refine tp_eqi (y := nI (48 * h)) (pk_mul 48 h) ?_
    refine lv_iload_n hx hb dX2_paid_17 rfl (lv_at hl 2 rfl) ?_
    refine lv_iadd hx hb dX2_paid_18 ?_
    refine tp_eqi (y := nI ((48 * h) + m0)) (nI_add (48 * h) m0) ?_
    refine tp_iald hx hb hK hP 9 288 (((48 * h) + m0)) (by omega) rfl rfl (by omega) (by decide) dX2_paid_19 ?_
    refine tp_eqi (y := (I 9 ((48 * h) + m0))) rfl ?_
    refine lv_goto (tgt := 24) hx hb dX2_paid_20 (by decide) ?_
    exact tp_reti hx hb hr hlocks hK hP hD hS rfl rfl rfl dX2_paid_24
set_option maxHeartbeats 4000000 in
set_option maxRecDepth 100000 in
/-- fact: no -/
theorem mp_fact_no (l : Launch) (D : va_G) (cy : Nat → ClassId) (n : Nat) (ad : Nat → Nat) (o : Int64) (I : Nat → Nat → Int32) (x f k : Int32) (hq : tp_ask I x k = 1) : tp_I l yX2_fact wsX2_fact (tp_rm 3 65) D cy n ad o [.ref (ad (2)), .int x, .int f, .int k] I (0) (tp_u I 2 0 1) := by
  refine tp_ofI (lv := [(0, .ref (ad (2))), (1, .int x), (2, .int f), (3, .int k)]) (by decide) rfl (Nat.le_of_ble_eq_true rfl) rfl (fun p e s m args below meth c A ls S0 => ?_)
  obtain ⟨hx, hb, hr, hml, hown, hts, hlocks, hA, hK, hP, hD, hS, hl⟩ := S0
  refine lv_aload_n hx hb dX2_fact_0 rfl (lv_at hl 0 rfl) ?_
  refine lv_iload_n hx hb dX2_fact_1 rfl (lv_at hl 1 rfl) ?_
  refine lv_iload_n hx hb dX2_fact_2 rfl (lv_at hl 3 rfl) ?_
  refine tp_callV ⟨hx, hb, hml, hown, hts⟩ (tp_eqI (mc_isAsked l D cy n ad o I x k) (by rw [hq]) (congrArg (tp_u I 2 0) hq)) (cwV 2 hts gX2_fact_X2_isAsked rfl rfl rfl (by decide +kernel) ⟨Nat.le_of_ble_eq_true rfl, Nat.le_of_ble_eq_true rfl⟩) hK hP hD hS hA 2 2 tp_e2 rfl rfl rfl hl.1 rfl (Nat.le_of_ble_eq_true rfl) dX2_fact_3 ⟨Nat.zero_le _, Nat.zero_le _⟩ (fun I9 e9 H locs hP hD hS => ?_)
  subst e9
  refine lv_if_ne (tgt := 11) hx hb dX2_fact_6 (by decide) (fun c6_1 => ?_) (fun c6_1 => ?_)
  · exact absurd rfl c6_1
  · refine lv_iconst (v := 0) hx hb dX2_fact_9 (by decide) ?_
    exact tp_reti hx hb hr hlocks hK hP hD hS rfl rfl rfl dX2_fact_10
set_option maxHeartbeats 4000000 in
set_option maxRecDepth 100000 in
/-- fact: bad -/
theorem mp_fact_bad (l : Launch) (D : va_G) (cy : Nat → ClassId) (n : Nat) (ad : Nat → Nat) (o : Int64) (I : Nat → Nat → Int32) (h : Nat) (hh : h < 6) (m0 : Nat) (hm : m0 < 48) (hq : tp_ask I (nI h) (nI m0) = 0) (f : Int32) (hf : tp_in f 0 4 = 0) : tp_I l yX2_fact wsX2_fact (tp_rm 3 65) D cy n ad o [.ref (ad (2)), .int (nI h), .int f, .int (nI m0)] I (0) (tp_u (tp_u I 2 0 0) 2 0 2) := by
  refine tp_ofI (lv := [(0, .ref (ad (2))), (1, .int (nI h)), (2, .int f), (3, .int (nI m0))]) (by decide) rfl (Nat.le_of_ble_eq_true rfl) rfl (fun p e s m args below meth c A ls S0 => ?_)
  obtain ⟨hx, hb, hr, hml, hown, hts, hlocks, hA, hK, hP, hD, hS, hl⟩ := S0
  refine lv_aload_n hx hb dX2_fact_0 rfl (lv_at hl 0 rfl) ?_
  refine lv_iload_n hx hb dX2_fact_1 rfl (lv_at hl 1 rfl) ?_
  refine lv_iload_n hx hb dX2_fact_2 rfl (lv_at hl 3 rfl) ?_
  refine tp_callV ⟨hx, hb, hml, hown, hts⟩ (tp_eqI (mc_isAsked l D cy n ad o I (nI h) (nI m0)) (if_pos hq) (congrArg (tp_u I 2 0) hq)) (cwV 2 hts gX2_fact_X2_isAsked rfl rfl rfl (by decide +kernel) ⟨Nat.le_of_ble_eq_true rfl, Nat.le_of_ble_eq_true rfl⟩) hK hP hD hS hA 2 2 tp_e2 rfl rfl rfl hl.1 rfl (Nat.le_of_ble_eq_true rfl) dX2_fact_3 ⟨Nat.zero_le _, Nat.zero_le _⟩ (fun I9 e9 H locs hP hD hS => ?_)
  subst e9
  refine lv_if_ne (tgt := 11) hx hb dX2_fact_6 (by decide) (fun c6_1 => ?_) (fun c6_1 => ?_)
  · refine lv_iload_n hx hb dX2_fact_11 rfl (lv_at hl 2 rfl) ?_
    refine lv_iconst (v := 0) hx hb dX2_fact_12 (by decide) ?_
    refine lv_iconst (v := 4) hx hb dX2_fact_13 (by decide) ?_
    refine tp_callS ⟨hx, hb, hml, hown, hts⟩ (mc_in l D cy n ad o (tp_u I 2 0 0) f 0 4) (va_cwS 3 hts gX2_fact_X2_in rfl rfl rfl (by decide +kernel) ⟨Nat.le_of_ble_eq_true rfl, Nat.le_of_ble_eq_true rfl⟩) hK hP hD hS hA rfl hl.1 rfl (Nat.le_of_ble_eq_true rfl) dX2_fact_14 ⟨Nat.zero_le _, Nat.zero_le _⟩ (fun I9 e9 H locs hP hD hS => ?_)
    subst e9
    refine lv_if_eq (tgt := 30) hx hb dX2_fact_17 (by decide) (fun c17_2 => ?_) (fun c17_2 => ?_)
    · refine lv_aload_n hx hb dX2_fact_30 rfl (lv_at hl 0 rfl) ?_
      refine lv_iconst (v := 2) hx hb dX2_fact_31 (by decide) ?_
      refine tp_callV ⟨hx, hb, hml, hown, hts⟩ (mc_fails l D cy n ad o (tp_u I 2 0 0) 2) (cwV 1 hts gX2_fact_X2_fails rfl rfl rfl (by decide +kernel) ⟨Nat.le_of_ble_eq_true rfl, Nat.le_of_ble_eq_true rfl⟩) hK hP hD hS hA 2 2 tp_e2 rfl rfl rfl hl.1 rfl (Nat.le_of_ble_eq_true rfl) dX2_fact_32 ⟨Nat.zero_le _, Nat.zero_le _⟩ (fun I9 e9 H locs hP hD hS => ?_)
      subst e9
      exact tp_reti hx hb hr hlocks hK hP hD hS rfl rfl rfl dX2_fact_35
    · exact absurd hf c17_2
  · exact absurd c6_1 (by decide)
set_option maxHeartbeats 4000000 in
set_option maxRecDepth 100000 in
/-- fact: ok -/
theorem mp_fact_ok (l : Launch) (D : va_G) (cy : Nat → ClassId) (n : Nat) (ad : Nat → Nat) (o : Int64) (I : Nat → Nat → Int32) (h : Nat) (hh : h < 6) (m0 : Nat) (hm : m0 < 48) (hq : tp_ask I (nI h) (nI m0) = 0) (f : Int32) (hf : tp_in f 0 4 = 1) (hc : tp_C I h) : tp_I l yX2_fact wsX2_fact (tp_rm 3 65) D cy n ad o [.ref (ad (2)), .int (nI h), .int f, .int (nI m0)] I (tp_mfact (tp_u I 2 0 0) h f (nI m0)) (tp_u I 2 0 0) := by
  refine tp_ofI (lv := [(0, .ref (ad (2))), (1, .int (nI h)), (2, .int f), (3, .int (nI m0))]) (by decide) rfl (Nat.le_of_ble_eq_true rfl) rfl (fun p e s m args below meth c A ls S0 => ?_)
  obtain ⟨hx, hb, hr, hml, hown, hts, hlocks, hA, hK, hP, hD, hS, hl⟩ := S0
  refine lv_aload_n hx hb dX2_fact_0 rfl (lv_at hl 0 rfl) ?_
  refine lv_iload_n hx hb dX2_fact_1 rfl (lv_at hl 1 rfl) ?_
  refine lv_iload_n hx hb dX2_fact_2 rfl (lv_at hl 3 rfl) ?_
  refine tp_callV ⟨hx, hb, hml, hown, hts⟩ (tp_eqI (mc_isAsked l D cy n ad o I (nI h) (nI m0)) (if_pos hq) (congrArg (tp_u I 2 0) hq)) (cwV 2 hts gX2_fact_X2_isAsked rfl rfl rfl (by decide +kernel) ⟨Nat.le_of_ble_eq_true rfl, Nat.le_of_ble_eq_true rfl⟩) hK hP hD hS hA 2 2 tp_e2 rfl rfl rfl hl.1 rfl (Nat.le_of_ble_eq_true rfl) dX2_fact_3 ⟨Nat.zero_le _, Nat.zero_le _⟩ (fun I9 e9 H locs hP hD hS => ?_)
  subst e9
  refine lv_if_ne (tgt := 11) hx hb dX2_fact_6 (by decide) (fun c6_1 => ?_) (fun c6_1 => ?_)
  · refine lv_iload_n hx hb dX2_fact_11 rfl (lv_at hl 2 rfl) ?_
    refine lv_iconst (v := 0) hx hb dX2_fact_12 (by decide) ?_
    refine lv_iconst (v := 4) hx hb dX2_fact_13 (by decide) ?_
    refine tp_callS ⟨hx, hb, hml, hown, hts⟩ (mc_in l D cy n ad o (tp_u I 2 0 0) f 0 4) (va_cwS 3 hts gX2_fact_X2_in rfl rfl rfl (by decide +kernel) ⟨Nat.le_of_ble_eq_true rfl, Nat.le_of_ble_eq_true rfl⟩) hK hP hD hS hA rfl hl.1 rfl (Nat.le_of_ble_eq_true rfl) dX2_fact_14 ⟨Nat.zero_le _, Nat.zero_le _⟩ (fun I9 e9 H locs hP hD hS => ?_)
    subst e9
    refine lv_if_eq (tgt := 30) hx hb dX2_fact_17 (by decide) (fun c17_2 => ?_) (fun c17_2 => ?_)
    · exact absurd (hf.symm.trans c17_2) (by decide)
    · refine lv_aload_n hx hb dX2_fact_20 rfl (lv_at hl 0 rfl) ?_
      refine lv_iload_n hx hb dX2_fact_21 rfl (lv_at hl 1 rfl) ?_
      refine lv_iload_n hx hb dX2_fact_22 rfl (lv_at hl 2 rfl) ?_
      refine lv_iload_n hx hb dX2_fact_23 rfl (lv_at hl 3 rfl) ?_
      refine tp_callV ⟨hx, hb, hml, hown, hts⟩ (mc_factOf l D cy n ad o (tp_u I 2 0 0) h (by omega) hc f (nI m0)) (cwV 3 hts gX2_fact_X2_factOf rfl rfl rfl (by decide +kernel) ⟨Nat.le_of_ble_eq_true rfl, Nat.le_of_ble_eq_true rfl⟩) hK hP hD hS hA 2 2 tp_e2 rfl rfl rfl hl.1 rfl (Nat.le_of_ble_eq_true rfl) dX2_fact_24 ⟨Nat.zero_le _, Nat.zero_le _⟩ (fun I9 e9 H locs hP hD hS => ?_)
      subst e9
      refine lv_goto (tgt := 35) hx hb dX2_fact_27 (by decide) ?_
      exact tp_reti hx hb hr hlocks hK hP hD hS rfl rfl rfl dX2_fact_35
  · exact absurd c6_1 (by decide)
set_option maxHeartbeats 4000000 in
set_option maxRecDepth 100000 in
/-- dispute: no -/
theorem mp_dispute_no (l : Launch) (D : va_G) (cy : Nat → ClassId) (n : Nat) (ad : Nat → Nat) (o : Int64) (I : Nat → Nat → Int32) (x v : Int32) (hH : tp_in x 0 (I 2 2 - 1) = 0) : tp_I l yX2_dispute wsX2_dispute (tp_rm 2 43) D cy n ad o [.ref (ad (2)), .int x, .int v] I (0) (tp_u I 2 0 1) := by
  refine tp_ofI (lv := [(0, .ref (ad (2))), (1, .int x), (2, .int v)]) (by decide) rfl (Nat.le_of_ble_eq_true rfl) rfl (fun p e s m args below meth c A ls S0 => ?_)
  obtain ⟨hx, hb, hr, hml, hown, hts, hlocks, hA, hK, hP, hD, hS, hl⟩ := S0
  refine lv_aload_n hx hb dX2_dispute_0 rfl (lv_at hl 0 rfl) ?_
  refine lv_aload_n hx hb dX2_dispute_1 rfl (lv_at hl 0 rfl) ?_
  refine lv_iload_n hx hb dX2_dispute_2 rfl (lv_at hl 1 rfl) ?_
  refine tp_callV ⟨hx, hb, hml, hown, hts⟩ (tp_eqI (mc_isHome l D cy n ad o I x) hH rfl) (cwV 1 hts gX2_dispute_X2_isHome rfl rfl rfl (by decide +kernel) ⟨Nat.le_of_ble_eq_true rfl, Nat.le_of_ble_eq_true rfl⟩) hK hP hD hS hA 2 2 tp_e2 rfl rfl rfl hl.1 rfl (Nat.le_of_ble_eq_true rfl) dX2_dispute_3 ⟨Nat.zero_le _, Nat.zero_le _⟩ (fun I9 e9 H locs hP hD hS => ?_)
  subst e9
  refine lv_if_eq (tgt := 13) hx hb dX2_dispute_6 (by decide) (fun c6_1 => ?_) (fun c6_1 => ?_)
  · refine lv_iconst (v := 1) hx hb dX2_dispute_13 (by decide) ?_
    refine tp_put (ci := 2) (v := 1) (ty := .int) (C := RX2) (T := TX2) (N := 16) hx hb hts (fun _ h => List.mem_cons_of_mem _ (List.mem_append_right _ (h))) tyX2 tyX2_ok nmX2 hown hK hP hD hS 2 tp_e2 (by omega) rfl 0 (by decide) (hts _ (List.mem_of_getElem? (i := 1) rfl)) rfl (by decide +kernel) rfl rfl (Nat.le_of_ble_eq_true rfl) rfl dX2_dispute_14 (fun H locs hP hD hS => ?_)
    refine lv_aload_n hx hb dX2_dispute_17 rfl (lv_at hl 0 rfl) ?_
    refine va_get (D := D) (ci := 2) (v := .int 1) (C := RX2) (T := TX2) (N := 16) hx hb hts (fun _ h => List.mem_cons_of_mem _ (List.mem_append_right _ (h))) hown hK hP 2 tp_e2 rfl 0 (by decide) (hts _ (List.mem_of_getElem? (i := 1) rfl)) (fun _ h9 => h9) rfl dX2_dispute_18 ?_
    refine lv_if_ne (tgt := 37) hx hb dX2_dispute_21 (by decide) (fun c21_2 => ?_) (fun c21_2 => ?_)
    · refine lv_iconst (v := 0) hx hb dX2_dispute_37 (by decide) ?_
      refine lv_istore_n (lv' := [(3, .int 0), (0, .ref (ad (2))), (1, .int x), (2, .int v)]) hx hb dX2_dispute_38 rfl hl (by decide) rfl (fun ls hl => ?_)
      refine lv_aload_n hx hb dX2_dispute_39 rfl (lv_at hl 1 rfl) ?_
      refine va_get (D := D) (ci := 2) (v := .int 1) (C := RX2) (T := TX2) (N := 16) hx hb hts (fun _ h => List.mem_cons_of_mem _ (List.mem_append_right _ (h))) hown hK hP 2 tp_e2 rfl 0 (by decide) (hts _ (List.mem_of_getElem? (i := 1) rfl)) (fun _ h9 => h9) rfl dX2_dispute_40 ?_
      refine lv_if_ne (tgt := 53) hx hb dX2_dispute_43 (by decide) (fun c43_3 => ?_) (fun c43_3 => ?_)
      · refine lv_iload_n hx hb dX2_dispute_53 rfl (lv_at hl 0 rfl) ?_
        exact tp_reti hx hb hr hlocks hK hP hD hS rfl rfl rfl dX2_dispute_54
      · exact absurd c43_3 (by decide)
    · exact absurd c21_2 (by decide)
  · exact absurd rfl c6_1
set_option maxHeartbeats 4000000 in
set_option maxRecDepth 100000 in
/-- dispute: ok -/
theorem mp_dispute_ok (l : Launch) (D : va_G) (cy : Nat → ClassId) (n : Nat) (ad : Nat → Nat) (o : Int64) (I : Nat → Nat → Int32) (h : Nat) (hh : h < 6) (hH : tp_in (nI h) 0 (I 2 2 - 1) = 1) (v : Int32) (hv : vp_nar .boolean v = v) : tp_I l yX2_dispute wsX2_dispute (tp_rm 2 43) D cy n ad o [.ref (ad (2)), .int (nI h), .int v] I (if I 12 h = 0 then 0 else 1) (tp_u (tp_u I 2 0 0) 12 h v) := by
  refine tp_ofI (lv := [(0, .ref (ad (2))), (1, .int (nI h)), (2, .int v)]) (by decide) rfl (Nat.le_of_ble_eq_true rfl) rfl (fun p e s m args below meth c A ls S0 => ?_)
  obtain ⟨hx, hb, hr, hml, hown, hts, hlocks, hA, hK, hP, hD, hS, hl⟩ := S0
  refine lv_aload_n hx hb dX2_dispute_0 rfl (lv_at hl 0 rfl) ?_
  refine lv_aload_n hx hb dX2_dispute_1 rfl (lv_at hl 0 rfl) ?_
  refine lv_iload_n hx hb dX2_dispute_2 rfl (lv_at hl 1 rfl) ?_
  refine tp_callV ⟨hx, hb, hml, hown, hts⟩ (tp_eqI (mc_isHome l D cy n ad o I (nI h)) hH rfl) (cwV 1 hts gX2_dispute_X2_isHome rfl rfl rfl (by decide +kernel) ⟨Nat.le_of_ble_eq_true rfl, Nat.le_of_ble_eq_true rfl⟩) hK hP hD hS hA 2 2 tp_e2 rfl rfl rfl hl.1 rfl (Nat.le_of_ble_eq_true rfl) dX2_dispute_3 ⟨Nat.zero_le _, Nat.zero_le _⟩ (fun I9 e9 H locs hP hD hS => ?_)
  subst e9
  refine lv_if_eq (tgt := 13) hx hb dX2_dispute_6 (by decide) (fun c6_1 => ?_) (fun c6_1 => ?_)
  · exact absurd c6_1 (by decide)
  · refine lv_iconst (v := 0) hx hb dX2_dispute_9 (by decide) ?_
    refine lv_goto (tgt := 14) hx hb dX2_dispute_10 (by decide) ?_
    refine tp_put (ci := 2) (v := 0) (ty := .int) (C := RX2) (T := TX2) (N := 16) hx hb hts (fun _ h => List.mem_cons_of_mem _ (List.mem_append_right _ (h))) tyX2 tyX2_ok nmX2 hown hK hP hD hS 2 tp_e2 (by omega) rfl 0 (by decide) (hts _ (List.mem_of_getElem? (i := 1) rfl)) rfl (by decide +kernel) rfl rfl (Nat.le_of_ble_eq_true rfl) rfl dX2_dispute_14 (fun H locs hP hD hS => ?_)
    refine lv_aload_n hx hb dX2_dispute_17 rfl (lv_at hl 0 rfl) ?_
    refine va_get (D := D) (ci := 2) (v := .int 0) (C := RX2) (T := TX2) (N := 16) hx hb hts (fun _ h => List.mem_cons_of_mem _ (List.mem_append_right _ (h))) hown hK hP 2 tp_e2 rfl 0 (by decide) (hts _ (List.mem_of_getElem? (i := 1) rfl)) (fun _ h9 => h9) rfl dX2_dispute_18 ?_
    refine lv_if_ne (tgt := 37) hx hb dX2_dispute_21 (by decide) (fun c21_2 => ?_) (fun c21_2 => ?_)
    · exact absurd rfl c21_2
    · refine lv_aload_n hx hb dX2_dispute_24 rfl (lv_at hl 0 rfl) ?_
      refine va_get (D := D) (ci := 2) (v := .ref (ad (12))) (C := RX2) (T := TX2) (N := 16) hx hb hts (fun _ h => List.mem_cons_of_mem _ (List.mem_append_right _ (h))) hown hK hP 2 tp_e2 rfl 12 (by decide) (hts _ (List.mem_of_getElem? (i := 2) rfl)) (fun _ h9 => h9) rfl dX2_dispute_25 ?_
      refine lv_iload_n hx hb dX2_dispute_28 rfl (lv_at hl 1 rfl) ?_
      refine tp_zald hx hb hK hP 12 6 (h) (by omega) rfl rfl (by omega) (by decide) dX2_dispute_29 ?_
      refine tp_eqi (y := (I 12 h)) rfl ?_
      refine lv_if_eq (tgt := 37) hx hb dX2_dispute_30 (by decide) (fun c30_3 => ?_) (fun c30_3 => ?_)
      · refine lv_iconst (v := 0) hx hb dX2_dispute_37 (by decide) ?_
        refine lv_istore_n (lv' := [(3, .int 0), (0, .ref (ad (2))), (1, .int (nI h)), (2, .int v)]) hx hb dX2_dispute_38 rfl hl (by decide) rfl (fun ls hl => ?_)
        refine lv_aload_n hx hb dX2_dispute_39 rfl (lv_at hl 1 rfl) ?_
        refine va_get (D := D) (ci := 2) (v := .int 0) (C := RX2) (T := TX2) (N := 16) hx hb hts (fun _ h => List.mem_cons_of_mem _ (List.mem_append_right _ (h))) hown hK hP 2 tp_e2 rfl 0 (by decide) (hts _ (List.mem_of_getElem? (i := 1) rfl)) (fun _ h9 => h9) rfl dX2_dispute_40 ?_
        refine lv_if_ne (tgt := 53) hx hb dX2_dispute_43 (by decide) (fun c43_4 => ?_) (fun c43_4 => ?_)
        · exact absurd rfl c43_4
        · refine lv_aload_n hx hb dX2_dispute_46 rfl (lv_at hl 1 rfl) ?_
          refine va_get (D := D) (ci := 2) (v := .ref (ad (12))) (C := RX2) (T := TX2) (N := 16) hx hb hts (fun _ h => List.mem_cons_of_mem _ (List.mem_append_right _ (h))) hown hK hP 2 tp_e2 rfl 12 (by decide) (hts _ (List.mem_of_getElem? (i := 2) rfl)) (fun _ h9 => h9) rfl dX2_dispute_47 ?_
          refine lv_iload_n hx hb dX2_dispute_50 rfl (lv_at hl 2 rfl) ?_
          refine lv_iload_n hx hb dX2_dispute_51 rfl (lv_at hl 3 rfl) ?_
          refine tp_zast hx hb hK hP hD hS (12) 6 (h) (by omega) (fun _ => rfl) rfl (by omega) (by decide) (by assumption) dX2_dispute_52 (fun H locs hP hD hS => ?_)
          refine lv_iload_n hx hb dX2_dispute_53 rfl (lv_at hl 0 rfl) ?_
          exact tp_reti hx hb hr hlocks hK hP hD hS rfl (by rw [if_pos c30_3]) rfl dX2_dispute_54
      · refine lv_iconst (v := 1) hx hb dX2_dispute_33 (by decide) ?_
        refine lv_goto (tgt := 38) hx hb dX2_dispute_34 (by decide) ?_
        refine lv_istore_n (lv' := [(3, .int 1), (0, .ref (ad (2))), (1, .int (nI h)), (2, .int v)]) hx hb dX2_dispute_38 rfl hl (by decide) rfl (fun ls hl => ?_)
        refine lv_aload_n hx hb dX2_dispute_39 rfl (lv_at hl 1 rfl) ?_
        refine va_get (D := D) (ci := 2) (v := .int 0) (C := RX2) (T := TX2) (N := 16) hx hb hts (fun _ h => List.mem_cons_of_mem _ (List.mem_append_right _ (h))) hown hK hP 2 tp_e2 rfl 0 (by decide) (hts _ (List.mem_of_getElem? (i := 1) rfl)) (fun _ h9 => h9) rfl dX2_dispute_40 ?_
        refine lv_if_ne (tgt := 53) hx hb dX2_dispute_43 (by decide) (fun c43_4 => ?_) (fun c43_4 => ?_)
        · exact absurd rfl c43_4
        · refine lv_aload_n hx hb dX2_dispute_46 rfl (lv_at hl 1 rfl) ?_
          refine va_get (D := D) (ci := 2) (v := .ref (ad (12))) (C := RX2) (T := TX2) (N := 16) hx hb hts (fun _ h => List.mem_cons_of_mem _ (List.mem_append_right _ (h))) hown hK hP 2 tp_e2 rfl 12 (by decide) (hts _ (List.mem_of_getElem? (i := 2) rfl)) (fun _ h9 => h9) rfl dX2_dispute_47 ?_
          refine lv_iload_n hx hb dX2_dispute_50 rfl (lv_at hl 2 rfl) ?_
          refine lv_iload_n hx hb dX2_dispute_51 rfl (lv_at hl 3 rfl) ?_
          refine tp_zast hx hb hK hP hD hS (12) 6 (h) (by omega) (fun _ => rfl) rfl (by omega) (by decide) (by assumption) dX2_dispute_52 (fun H locs hP hD hS => ?_)
          refine lv_iload_n hx hb dX2_dispute_53 rfl (lv_at hl 0 rfl) ?_
          exact tp_reti hx hb hr hlocks hK hP hD hS rfl (by rw [if_neg c30_3]) rfl dX2_dispute_54
set_option maxHeartbeats 4000000 in
set_option maxRecDepth 100000 in
/-- payBack: no -/
theorem mp_payBack_no (l : Launch) (D : va_G) (cy : Nat → ClassId) (n : Nat) (ad : Nat → Nat) (o : Int64) (I : Nat → Nat → Int32) (y x : Int32) (hH : tp_in y 0 (I 2 2 - 1) = 0) : tp_I l yX2_payBack wsX2_payBack (tp_rm 2 43) D cy n ad o [.ref (ad (2)), .int y, .int x] I (0) (tp_u (tp_u I 2 0 0) 2 0 1) := by
  refine tp_ofI (lv := [(0, .ref (ad (2))), (1, .int y), (2, .int x)]) (by decide) rfl (Nat.le_of_ble_eq_true rfl) rfl (fun p e s m args below meth c A ls S0 => ?_)
  obtain ⟨hx, hb, hr, hml, hown, hts, hlocks, hA, hK, hP, hD, hS, hl⟩ := S0
  refine lv_aload_n hx hb dX2_payBack_0 rfl (lv_at hl 0 rfl) ?_
  refine lv_iconst (v := 0) hx hb dX2_payBack_1 (by decide) ?_
  refine tp_put (ci := 2) (v := 0) (ty := .int) (C := RX2) (T := TX2) (N := 16) hx hb hts (fun _ h => List.mem_cons_of_mem _ (List.mem_append_right _ (h))) tyX2 tyX2_ok nmX2 hown hK hP hD hS 2 tp_e2 (by omega) rfl 0 (by decide) (hts _ (List.mem_of_getElem? (i := 1) rfl)) rfl (by decide +kernel) rfl rfl (Nat.le_of_ble_eq_true rfl) rfl dX2_payBack_2 (fun H locs hP hD hS => ?_)
  refine lv_aload_n hx hb dX2_payBack_5 rfl (lv_at hl 0 rfl) ?_
  refine lv_iload_n hx hb dX2_payBack_6 rfl (lv_at hl 1 rfl) ?_
  refine tp_callV ⟨hx, hb, hml, hown, hts⟩ (tp_eqI (mc_isHome l D cy n ad o (tp_u I 2 0 0) y) hH rfl) (cwV 1 hts gX2_payBack_X2_isHome rfl rfl rfl (by decide +kernel) ⟨Nat.le_of_ble_eq_true rfl, Nat.le_of_ble_eq_true rfl⟩) hK hP hD hS hA 2 2 tp_e2 rfl rfl rfl hl.1 rfl (Nat.le_of_ble_eq_true rfl) dX2_payBack_7 ⟨Nat.zero_le _, Nat.zero_le _⟩ (fun I9 e9 H locs hP hD hS => ?_)
  subst e9
  refine lv_if_ne (tgt := 19) hx hb dX2_payBack_10 (by decide) (fun c10_1 => ?_) (fun c10_1 => ?_)
  · exact absurd rfl c10_1
  · refine lv_aload_n hx hb dX2_payBack_13 rfl (lv_at hl 0 rfl) ?_
    refine lv_iconst (v := 1) hx hb dX2_payBack_14 (by decide) ?_
    refine tp_callV ⟨hx, hb, hml, hown, hts⟩ (mc_fails l D cy n ad o (tp_u I 2 0 0) 1) (cwV 1 hts gX2_payBack_X2_fails rfl rfl rfl (by decide +kernel) ⟨Nat.le_of_ble_eq_true rfl, Nat.le_of_ble_eq_true rfl⟩) hK hP hD hS hA 2 2 tp_e2 rfl rfl rfl hl.1 rfl (Nat.le_of_ble_eq_true rfl) dX2_payBack_15 ⟨Nat.zero_le _, Nat.zero_le _⟩ (fun I9 e9 H locs hP hD hS => ?_)
    subst e9
    exact tp_reti hx hb hr hlocks hK hP hD hS rfl rfl rfl dX2_payBack_18
set_option maxHeartbeats 4000000 in
set_option maxRecDepth 100000 in
/-- payBack: bad -/
theorem mp_payBack_bad (l : Launch) (D : va_G) (cy : Nat → ClassId) (n : Nat) (ad : Nat → Nat) (o : Int64) (I : Nat → Nat → Int32) (h : Nat) (hh : h < 6) (hH : tp_in (nI h) 0 (I 2 2 - 1) = 1) (x : Int32) (hx2 : tp_in x 1 1000000 = 0) : tp_I l yX2_payBack wsX2_payBack (tp_rm 2 43) D cy n ad o [.ref (ad (2)), .int (nI h), .int x] I (0) (tp_u (tp_u I 2 0 0) 2 0 2) := by
  refine tp_ofI (lv := [(0, .ref (ad (2))), (1, .int (nI h)), (2, .int x)]) (by decide) rfl (Nat.le_of_ble_eq_true rfl) rfl (fun p e s m args below meth c A ls S0 => ?_)
  obtain ⟨hx, hb, hr, hml, hown, hts, hlocks, hA, hK, hP, hD, hS, hl⟩ := S0
  refine lv_aload_n hx hb dX2_payBack_0 rfl (lv_at hl 0 rfl) ?_
  refine lv_iconst (v := 0) hx hb dX2_payBack_1 (by decide) ?_
  refine tp_put (ci := 2) (v := 0) (ty := .int) (C := RX2) (T := TX2) (N := 16) hx hb hts (fun _ h => List.mem_cons_of_mem _ (List.mem_append_right _ (h))) tyX2 tyX2_ok nmX2 hown hK hP hD hS 2 tp_e2 (by omega) rfl 0 (by decide) (hts _ (List.mem_of_getElem? (i := 1) rfl)) rfl (by decide +kernel) rfl rfl (Nat.le_of_ble_eq_true rfl) rfl dX2_payBack_2 (fun H locs hP hD hS => ?_)
  refine lv_aload_n hx hb dX2_payBack_5 rfl (lv_at hl 0 rfl) ?_
  refine lv_iload_n hx hb dX2_payBack_6 rfl (lv_at hl 1 rfl) ?_
  refine tp_callV ⟨hx, hb, hml, hown, hts⟩ (tp_eqI (mc_isHome l D cy n ad o (tp_u I 2 0 0) (nI h)) hH rfl) (cwV 1 hts gX2_payBack_X2_isHome rfl rfl rfl (by decide +kernel) ⟨Nat.le_of_ble_eq_true rfl, Nat.le_of_ble_eq_true rfl⟩) hK hP hD hS hA 2 2 tp_e2 rfl rfl rfl hl.1 rfl (Nat.le_of_ble_eq_true rfl) dX2_payBack_7 ⟨Nat.zero_le _, Nat.zero_le _⟩ (fun I9 e9 H locs hP hD hS => ?_)
  subst e9
  refine lv_if_ne (tgt := 19) hx hb dX2_payBack_10 (by decide) (fun c10_1 => ?_) (fun c10_1 => ?_)
  · refine lv_iload_n hx hb dX2_payBack_19 rfl (lv_at hl 2 rfl) ?_
    refine lv_iconst (v := 1) hx hb dX2_payBack_20 (by decide) ?_
    refine lv_ldc (v := 1000000) hx hb hown (hts _ (List.mem_of_getElem? (i := 2) rfl)) dX2_payBack_21 ?_
    refine tp_callS ⟨hx, hb, hml, hown, hts⟩ (mc_in l D cy n ad o (tp_u I 2 0 0) x 1 1000000) (va_cwS 3 hts gX2_payBack_X2_in rfl rfl rfl (by decide +kernel) ⟨Nat.le_of_ble_eq_true rfl, Nat.le_of_ble_eq_true rfl⟩) hK hP hD hS hA rfl hl.1 rfl (Nat.le_of_ble_eq_true rfl) dX2_payBack_23 ⟨Nat.zero_le _, Nat.zero_le _⟩ (fun I9 e9 H locs hP hD hS => ?_)
    subst e9
    refine lv_if_ne (tgt := 35) hx hb dX2_payBack_26 (by decide) (fun c26_2 => ?_) (fun c26_2 => ?_)
    · exact absurd hx2 c26_2
    · refine lv_aload_n hx hb dX2_payBack_29 rfl (lv_at hl 0 rfl) ?_
      refine lv_iconst (v := 2) hx hb dX2_payBack_30 (by decide) ?_
      refine tp_callV ⟨hx, hb, hml, hown, hts⟩ (mc_fails l D cy n ad o (tp_u I 2 0 0) 2) (cwV 1 hts gX2_payBack_X2_fails rfl rfl rfl (by decide +kernel) ⟨Nat.le_of_ble_eq_true rfl, Nat.le_of_ble_eq_true rfl⟩) hK hP hD hS hA 2 2 tp_e2 rfl rfl rfl hl.1 rfl (Nat.le_of_ble_eq_true rfl) dX2_payBack_31 ⟨Nat.zero_le _, Nat.zero_le _⟩ (fun I9 e9 H locs hP hD hS => ?_)
      subst e9
      exact tp_reti hx hb hr hlocks hK hP hD hS rfl rfl rfl dX2_payBack_34
  · exact absurd c10_1 (by decide)
set_option maxHeartbeats 4000000 in
set_option maxRecDepth 100000 in
/-- payBack: less -/
theorem mp_payBack_less (l : Launch) (D : va_G) (cy : Nat → ClassId) (n : Nat) (ad : Nat → Nat) (o : Int64) (I : Nat → Nat → Int32) (h : Nat) (hh : h < 6) (hH : tp_in (nI h) 0 (I 2 2 - 1) = 1) (x : Int32) (hx2 : tp_in x 1 1000000 = 1) (hx3 : ¬ x ≤ I 10 h) : tp_I l yX2_payBack wsX2_payBack (tp_rm 2 43) D cy n ad o [.ref (ad (2)), .int (nI h), .int x] I (0) (tp_u (tp_u I 2 0 0) 2 0 3) := by
  refine tp_ofI (lv := [(0, .ref (ad (2))), (1, .int (nI h)), (2, .int x)]) (by decide) rfl (Nat.le_of_ble_eq_true rfl) rfl (fun p e s m args below meth c A ls S0 => ?_)
  obtain ⟨hx, hb, hr, hml, hown, hts, hlocks, hA, hK, hP, hD, hS, hl⟩ := S0
  refine lv_aload_n hx hb dX2_payBack_0 rfl (lv_at hl 0 rfl) ?_
  refine lv_iconst (v := 0) hx hb dX2_payBack_1 (by decide) ?_
  refine tp_put (ci := 2) (v := 0) (ty := .int) (C := RX2) (T := TX2) (N := 16) hx hb hts (fun _ h => List.mem_cons_of_mem _ (List.mem_append_right _ (h))) tyX2 tyX2_ok nmX2 hown hK hP hD hS 2 tp_e2 (by omega) rfl 0 (by decide) (hts _ (List.mem_of_getElem? (i := 1) rfl)) rfl (by decide +kernel) rfl rfl (Nat.le_of_ble_eq_true rfl) rfl dX2_payBack_2 (fun H locs hP hD hS => ?_)
  refine lv_aload_n hx hb dX2_payBack_5 rfl (lv_at hl 0 rfl) ?_
  refine lv_iload_n hx hb dX2_payBack_6 rfl (lv_at hl 1 rfl) ?_
  refine tp_callV ⟨hx, hb, hml, hown, hts⟩ (tp_eqI (mc_isHome l D cy n ad o (tp_u I 2 0 0) (nI h)) hH rfl) (cwV 1 hts gX2_payBack_X2_isHome rfl rfl rfl (by decide +kernel) ⟨Nat.le_of_ble_eq_true rfl, Nat.le_of_ble_eq_true rfl⟩) hK hP hD hS hA 2 2 tp_e2 rfl rfl rfl hl.1 rfl (Nat.le_of_ble_eq_true rfl) dX2_payBack_7 ⟨Nat.zero_le _, Nat.zero_le _⟩ (fun I9 e9 H locs hP hD hS => ?_)
  subst e9
  refine lv_if_ne (tgt := 19) hx hb dX2_payBack_10 (by decide) (fun c10_1 => ?_) (fun c10_1 => ?_)
  · refine lv_iload_n hx hb dX2_payBack_19 rfl (lv_at hl 2 rfl) ?_
    refine lv_iconst (v := 1) hx hb dX2_payBack_20 (by decide) ?_
    refine lv_ldc (v := 1000000) hx hb hown (hts _ (List.mem_of_getElem? (i := 2) rfl)) dX2_payBack_21 ?_
    refine tp_callS ⟨hx, hb, hml, hown, hts⟩ (mc_in l D cy n ad o (tp_u I 2 0 0) x 1 1000000) (va_cwS 3 hts gX2_payBack_X2_in rfl rfl rfl (by decide +kernel) ⟨Nat.le_of_ble_eq_true rfl, Nat.le_of_ble_eq_true rfl⟩) hK hP hD hS hA rfl hl.1 rfl (Nat.le_of_ble_eq_true rfl) dX2_payBack_23 ⟨Nat.zero_le _, Nat.zero_le _⟩ (fun I9 e9 H locs hP hD hS => ?_)
    subst e9
    refine lv_if_ne (tgt := 35) hx hb dX2_payBack_26 (by decide) (fun c26_2 => ?_) (fun c26_2 => ?_)
    · refine lv_aload_n hx hb dX2_payBack_35 rfl (lv_at hl 0 rfl) ?_
      refine va_get (D := D) (ci := 2) (v := .ref (ad (10))) (C := RX2) (T := TX2) (N := 16) hx hb hts (fun _ h => List.mem_cons_of_mem _ (List.mem_append_right _ (h))) hown hK hP 2 tp_e2 rfl 10 (by decide) (hts _ (List.mem_of_getElem? (i := 3) rfl)) (fun _ h9 => h9) rfl dX2_payBack_36 ?_
      refine lv_iload_n hx hb dX2_payBack_39 rfl (lv_at hl 1 rfl) ?_
      refine tp_iald hx hb hK hP 10 6 (h) (by omega) rfl rfl (by omega) (by decide) dX2_payBack_40 ?_
      refine tp_eqi (y := (I 10 h)) rfl ?_
      refine lv_iload_n hx hb dX2_payBack_41 rfl (lv_at hl 2 rfl) ?_
      refine lv_icmp_ge (tgt := 51) hx hb dX2_payBack_42 (by decide) (fun c42_3 => ?_) (fun c42_3 => ?_)
      · exact absurd c42_3 hx3
      · refine lv_aload_n hx hb dX2_payBack_45 rfl (lv_at hl 0 rfl) ?_
        refine lv_iconst (v := 3) hx hb dX2_payBack_46 (by decide) ?_
        refine tp_callV ⟨hx, hb, hml, hown, hts⟩ (mc_fails l D cy n ad o (tp_u I 2 0 0) 3) (cwV 1 hts gX2_payBack_X2_fails rfl rfl rfl (by decide +kernel) ⟨Nat.le_of_ble_eq_true rfl, Nat.le_of_ble_eq_true rfl⟩) hK hP hD hS hA 2 2 tp_e2 rfl rfl rfl hl.1 rfl (Nat.le_of_ble_eq_true rfl) dX2_payBack_47 ⟨Nat.zero_le _, Nat.zero_le _⟩ (fun I9 e9 H locs hP hD hS => ?_)
        subst e9
        exact tp_reti hx hb hr hlocks hK hP hD hS rfl rfl rfl dX2_payBack_50
    · exact absurd (hx2.symm.trans c26_2) (by decide)
  · exact absurd c10_1 (by decide)
set_option maxHeartbeats 4000000 in
set_option maxRecDepth 100000 in
/-- payBack: ok -/
theorem mp_payBack_ok (l : Launch) (D : va_G) (cy : Nat → ClassId) (n : Nat) (ad : Nat → Nat) (o : Int64) (I : Nat → Nat → Int32) (h : Nat) (hh : h < 6) (hH : tp_in (nI h) 0 (I 2 2 - 1) = 1) (x : Int32) (hx2 : tp_in x 1 1000000 = 1) (hx3 : x ≤ I 10 h) : tp_I l yX2_payBack wsX2_payBack (tp_rm 2 43) D cy n ad o [.ref (ad (2)), .int (nI h), .int x] I (I 10 h - x) (tp_u (tp_u (tp_u I 2 0 0) 10 h (I 10 h - x)) 11 h (I 11 h + x)) := by
  refine tp_ofI (lv := [(0, .ref (ad (2))), (1, .int (nI h)), (2, .int x)]) (by decide) rfl (Nat.le_of_ble_eq_true rfl) rfl (fun p e s m args below meth c A ls S0 => ?_)
  obtain ⟨hx, hb, hr, hml, hown, hts, hlocks, hA, hK, hP, hD, hS, hl⟩ := S0
  refine lv_aload_n hx hb dX2_payBack_0 rfl (lv_at hl 0 rfl) ?_
  refine lv_iconst (v := 0) hx hb dX2_payBack_1 (by decide) ?_
  refine tp_put (ci := 2) (v := 0) (ty := .int) (C := RX2) (T := TX2) (N := 16) hx hb hts (fun _ h => List.mem_cons_of_mem _ (List.mem_append_right _ (h))) tyX2 tyX2_ok nmX2 hown hK hP hD hS 2 tp_e2 (by omega) rfl 0 (by decide) (hts _ (List.mem_of_getElem? (i := 1) rfl)) rfl (by decide +kernel) rfl rfl (Nat.le_of_ble_eq_true rfl) rfl dX2_payBack_2 (fun H locs hP hD hS => ?_)
  refine lv_aload_n hx hb dX2_payBack_5 rfl (lv_at hl 0 rfl) ?_
  refine lv_iload_n hx hb dX2_payBack_6 rfl (lv_at hl 1 rfl) ?_
  refine tp_callV ⟨hx, hb, hml, hown, hts⟩ (tp_eqI (mc_isHome l D cy n ad o (tp_u I 2 0 0) (nI h)) hH rfl) (cwV 1 hts gX2_payBack_X2_isHome rfl rfl rfl (by decide +kernel) ⟨Nat.le_of_ble_eq_true rfl, Nat.le_of_ble_eq_true rfl⟩) hK hP hD hS hA 2 2 tp_e2 rfl rfl rfl hl.1 rfl (Nat.le_of_ble_eq_true rfl) dX2_payBack_7 ⟨Nat.zero_le _, Nat.zero_le _⟩ (fun I9 e9 H locs hP hD hS => ?_)
  subst e9
  refine lv_if_ne (tgt := 19) hx hb dX2_payBack_10 (by decide) (fun c10_1 => ?_) (fun c10_1 => ?_)
  · refine lv_iload_n hx hb dX2_payBack_19 rfl (lv_at hl 2 rfl) ?_
    refine lv_iconst (v := 1) hx hb dX2_payBack_20 (by decide) ?_
    refine lv_ldc (v := 1000000) hx hb hown (hts _ (List.mem_of_getElem? (i := 2) rfl)) dX2_payBack_21 ?_
    refine tp_callS ⟨hx, hb, hml, hown, hts⟩ (mc_in l D cy n ad o (tp_u I 2 0 0) x 1 1000000) (va_cwS 3 hts gX2_payBack_X2_in rfl rfl rfl (by decide +kernel) ⟨Nat.le_of_ble_eq_true rfl, Nat.le_of_ble_eq_true rfl⟩) hK hP hD hS hA rfl hl.1 rfl (Nat.le_of_ble_eq_true rfl) dX2_payBack_23 ⟨Nat.zero_le _, Nat.zero_le _⟩ (fun I9 e9 H locs hP hD hS => ?_)
    subst e9
    refine lv_if_ne (tgt := 35) hx hb dX2_payBack_26 (by decide) (fun c26_2 => ?_) (fun c26_2 => ?_)
    · refine lv_aload_n hx hb dX2_payBack_35 rfl (lv_at hl 0 rfl) ?_
      refine va_get (D := D) (ci := 2) (v := .ref (ad (10))) (C := RX2) (T := TX2) (N := 16) hx hb hts (fun _ h => List.mem_cons_of_mem _ (List.mem_append_right _ (h))) hown hK hP 2 tp_e2 rfl 10 (by decide) (hts _ (List.mem_of_getElem? (i := 3) rfl)) (fun _ h9 => h9) rfl dX2_payBack_36 ?_
      refine lv_iload_n hx hb dX2_payBack_39 rfl (lv_at hl 1 rfl) ?_
      refine tp_iald hx hb hK hP 10 6 (h) (by omega) rfl rfl (by omega) (by decide) dX2_payBack_40 ?_
      refine tp_eqi (y := (I 10 h)) rfl ?_
      refine lv_iload_n hx hb dX2_payBack_41 rfl (lv_at hl 2 rfl) ?_
      refine lv_icmp_ge (tgt := 51) hx hb dX2_payBack_42 (by decide) (fun c42_3 => ?_) (fun c42_3 => ?_)
      · refine lv_aload_n hx hb dX2_payBack_51 rfl (lv_at hl 0 rfl) ?_
        refine va_get (D := D) (ci := 2) (v := .ref (ad (10))) (C := RX2) (T := TX2) (N := 16) hx hb hts (fun _ h => List.mem_cons_of_mem _ (List.mem_append_right _ (h))) hown hK hP 2 tp_e2 rfl 10 (by decide) (hts _ (List.mem_of_getElem? (i := 3) rfl)) (fun _ h9 => h9) rfl dX2_payBack_52 ?_
        refine lv_iload_n hx hb dX2_payBack_55 rfl (lv_at hl 1 rfl) ?_
        refine lv_dup2_11 hx hb dX2_payBack_56 rfl rfl ?_
        refine tp_iald hx hb hK hP 10 6 (h) (by omega) rfl rfl (by omega) (by decide) dX2_payBack_57 ?_
        refine tp_eqi (y := (I 10 h)) rfl ?_
        refine lv_iload_n hx hb dX2_payBack_58 rfl (lv_at hl 2 rfl) ?_
        refine lv_isub hx hb dX2_payBack_59 ?_
        refine tp_iast hx hb hK hP hD hS (10) 6 (h) (by omega) (fun _ => rfl) rfl (by omega) (by decide) dX2_payBack_60 (fun H locs hP hD hS => ?_)
        refine lv_aload_n hx hb dX2_payBack_61 rfl (lv_at hl 0 rfl) ?_
        refine va_get (D := D) (ci := 2) (v := .ref (ad (11))) (C := RX2) (T := TX2) (N := 16) hx hb hts (fun _ h => List.mem_cons_of_mem _ (List.mem_append_right _ (h))) hown hK hP 2 tp_e2 rfl 11 (by decide) (hts _ (List.mem_of_getElem? (i := 4) rfl)) (fun _ h9 => h9) rfl dX2_payBack_62 ?_
        refine lv_iload_n hx hb dX2_payBack_65 rfl (lv_at hl 1 rfl) ?_
        refine lv_dup2_11 hx hb dX2_payBack_66 rfl rfl ?_
        refine tp_iald hx hb hK hP 11 6 (h) (by omega) rfl rfl (by omega) (by decide) dX2_payBack_67 ?_
        refine tp_eqi (y := (I 11 h)) rfl ?_
        refine lv_iload_n hx hb dX2_payBack_68 rfl (lv_at hl 2 rfl) ?_
        refine lv_iadd hx hb dX2_payBack_69 ?_
        refine tp_iast hx hb hK hP hD hS (11) 6 (h) (by omega) (fun _ => rfl) rfl (by omega) (by decide) dX2_payBack_70 (fun H locs hP hD hS => ?_)
        refine lv_aload_n hx hb dX2_payBack_71 rfl (lv_at hl 0 rfl) ?_
        refine va_get (D := D) (ci := 2) (v := .ref (ad (10))) (C := RX2) (T := TX2) (N := 16) hx hb hts (fun _ h => List.mem_cons_of_mem _ (List.mem_append_right _ (h))) hown hK hP 2 tp_e2 rfl 10 (by decide) (hts _ (List.mem_of_getElem? (i := 3) rfl)) (fun _ h9 => h9) rfl dX2_payBack_72 ?_
        refine lv_iload_n hx hb dX2_payBack_75 rfl (lv_at hl 1 rfl) ?_
        refine tp_iald hx hb hK hP 10 6 (h) (by omega) rfl rfl (by omega) (by decide) dX2_payBack_76 ?_
        refine tp_eqi (y := ((I 10 h) - x)) (by rw [tp_u_oth (a := 10) (k := 11) (by decide), tp_u_s]) ?_
        exact tp_reti hx hb hr hlocks hK hP hD hS rfl rfl rfl dX2_payBack_77
      · exact absurd hx3 c42_3
    · exact absurd (hx2.symm.trans c26_2) (by decide)
  · exact absurd c10_1 (by decide)
set_option maxHeartbeats 4000000 in
set_option maxRecDepth 100000 in
/-- tell: no -/
theorem mp_tell_no (l : Launch) (D : va_G) (cy : Nat → ClassId) (n : Nat) (ad : Nat → Nat) (o : Int64) (I : Nat → Nat → Int32) (x f d v : Int32) (hH : tp_in x 0 (I 2 2 - 1) = 0) : tp_I l yX2_tell wsX2_tell (tp_rm 2 43) D cy n ad o [.ref (ad (2)), .int x, .int f, .int d, .int v] I (0) (tp_u (tp_u I 2 0 0) 2 0 1) := by
  refine tp_ofI (lv := [(0, .ref (ad (2))), (1, .int x), (2, .int f), (3, .int d), (4, .int v)]) (by decide) rfl (Nat.le_of_ble_eq_true rfl) rfl (fun p e s m args below meth c A ls S0 => ?_)
  obtain ⟨hx, hb, hr, hml, hown, hts, hlocks, hA, hK, hP, hD, hS, hl⟩ := S0
  refine lv_aload_n hx hb dX2_tell_0 rfl (lv_at hl 0 rfl) ?_
  refine lv_iconst (v := 0) hx hb dX2_tell_1 (by decide) ?_
  refine tp_put (ci := 2) (v := 0) (ty := .int) (C := RX2) (T := TX2) (N := 16) hx hb hts (fun _ h => List.mem_cons_of_mem _ (List.mem_append_right _ (h))) tyX2 tyX2_ok nmX2 hown hK hP hD hS 2 tp_e2 (by omega) rfl 0 (by decide) (hts _ (List.mem_of_getElem? (i := 1) rfl)) rfl (by decide +kernel) rfl rfl (Nat.le_of_ble_eq_true rfl) rfl dX2_tell_2 (fun H locs hP hD hS => ?_)
  refine lv_aload_n hx hb dX2_tell_5 rfl (lv_at hl 0 rfl) ?_
  refine lv_iload_n hx hb dX2_tell_6 rfl (lv_at hl 1 rfl) ?_
  refine tp_callV ⟨hx, hb, hml, hown, hts⟩ (tp_eqI (mc_isHome l D cy n ad o (tp_u I 2 0 0) x) hH rfl) (cwV 1 hts gX2_tell_X2_isHome rfl rfl rfl (by decide +kernel) ⟨Nat.le_of_ble_eq_true rfl, Nat.le_of_ble_eq_true rfl⟩) hK hP hD hS hA 2 2 tp_e2 rfl rfl rfl hl.1 rfl (Nat.le_of_ble_eq_true rfl) dX2_tell_7 ⟨Nat.zero_le _, Nat.zero_le _⟩ (fun I9 e9 H locs hP hD hS => ?_)
  subst e9
  refine lv_if_ne (tgt := 19) hx hb dX2_tell_10 (by decide) (fun c10_1 => ?_) (fun c10_1 => ?_)
  · exact absurd rfl c10_1
  · refine lv_aload_n hx hb dX2_tell_13 rfl (lv_at hl 0 rfl) ?_
    refine lv_iconst (v := 1) hx hb dX2_tell_14 (by decide) ?_
    refine tp_callV ⟨hx, hb, hml, hown, hts⟩ (mc_fails l D cy n ad o (tp_u I 2 0 0) 1) (cwV 1 hts gX2_tell_X2_fails rfl rfl rfl (by decide +kernel) ⟨Nat.le_of_ble_eq_true rfl, Nat.le_of_ble_eq_true rfl⟩) hK hP hD hS hA 2 2 tp_e2 rfl rfl rfl hl.1 rfl (Nat.le_of_ble_eq_true rfl) dX2_tell_15 ⟨Nat.zero_le _, Nat.zero_le _⟩ (fun I9 e9 H locs hP hD hS => ?_)
    subst e9
    exact tp_reti hx hb hr hlocks hK hP hD hS rfl rfl rfl dX2_tell_18
set_option maxHeartbeats 4000000 in
set_option maxRecDepth 100000 in
/-- tell: bad -/
theorem mp_tell_bad (l : Launch) (D : va_G) (cy : Nat → ClassId) (n : Nat) (ad : Nat → Nat) (o : Int64) (I : Nat → Nat → Int32) (h : Nat) (hh : h < 6) (hH : tp_in (nI h) 0 (I 2 2 - 1) = 1) (f d v : Int32) (hq : tp_tok f d v = 0) : tp_I l yX2_tell wsX2_tell (tp_rm 2 43) D cy n ad o [.ref (ad (2)), .int (nI h), .int f, .int d, .int v] I (0) (tp_u (tp_u I 2 0 0) 2 0 2) := by
  refine tp_ofI (lv := [(0, .ref (ad (2))), (1, .int (nI h)), (2, .int f), (3, .int d), (4, .int v)]) (by decide) rfl (Nat.le_of_ble_eq_true rfl) rfl (fun p e s m args below meth c A ls S0 => ?_)
  obtain ⟨hx, hb, hr, hml, hown, hts, hlocks, hA, hK, hP, hD, hS, hl⟩ := S0
  refine lv_aload_n hx hb dX2_tell_0 rfl (lv_at hl 0 rfl) ?_
  refine lv_iconst (v := 0) hx hb dX2_tell_1 (by decide) ?_
  refine tp_put (ci := 2) (v := 0) (ty := .int) (C := RX2) (T := TX2) (N := 16) hx hb hts (fun _ h => List.mem_cons_of_mem _ (List.mem_append_right _ (h))) tyX2 tyX2_ok nmX2 hown hK hP hD hS 2 tp_e2 (by omega) rfl 0 (by decide) (hts _ (List.mem_of_getElem? (i := 1) rfl)) rfl (by decide +kernel) rfl rfl (Nat.le_of_ble_eq_true rfl) rfl dX2_tell_2 (fun H locs hP hD hS => ?_)
  refine lv_aload_n hx hb dX2_tell_5 rfl (lv_at hl 0 rfl) ?_
  refine lv_iload_n hx hb dX2_tell_6 rfl (lv_at hl 1 rfl) ?_
  refine tp_callV ⟨hx, hb, hml, hown, hts⟩ (tp_eqI (mc_isHome l D cy n ad o (tp_u I 2 0 0) (nI h)) hH rfl) (cwV 1 hts gX2_tell_X2_isHome rfl rfl rfl (by decide +kernel) ⟨Nat.le_of_ble_eq_true rfl, Nat.le_of_ble_eq_true rfl⟩) hK hP hD hS hA 2 2 tp_e2 rfl rfl rfl hl.1 rfl (Nat.le_of_ble_eq_true rfl) dX2_tell_7 ⟨Nat.zero_le _, Nat.zero_le _⟩ (fun I9 e9 H locs hP hD hS => ?_)
  subst e9
  refine lv_if_ne (tgt := 19) hx hb dX2_tell_10 (by decide) (fun c10_1 => ?_) (fun c10_1 => ?_)
  · refine lv_iload_n hx hb dX2_tell_19 rfl (lv_at hl 2 rfl) ?_
    refine lv_iconst (v := 0) hx hb dX2_tell_20 (by decide) ?_
    refine lv_iconst (v := 4) hx hb dX2_tell_21 (by decide) ?_
    refine tp_callS ⟨hx, hb, hml, hown, hts⟩ (mc_in l D cy n ad o (tp_u I 2 0 0) f 0 4) (va_cwS 3 hts gX2_tell_X2_in rfl rfl rfl (by decide +kernel) ⟨Nat.le_of_ble_eq_true rfl, Nat.le_of_ble_eq_true rfl⟩) hK hP hD hS hA rfl hl.1 rfl (Nat.le_of_ble_eq_true rfl) dX2_tell_22 ⟨Nat.zero_le _, Nat.zero_le _⟩ (fun I9 e9 H locs hP hD hS => ?_)
    subst e9
    refine lv_if_eq (tgt := 55) hx hb dX2_tell_25 (by decide) (fun c25_2 => ?_) (fun c25_2 => ?_)
    · refine lv_aload_n hx hb dX2_tell_55 rfl (lv_at hl 0 rfl) ?_
      refine lv_iconst (v := 2) hx hb dX2_tell_56 (by decide) ?_
      refine tp_callV ⟨hx, hb, hml, hown, hts⟩ (mc_fails l D cy n ad o (tp_u I 2 0 0) 2) (cwV 1 hts gX2_tell_X2_fails rfl rfl rfl (by decide +kernel) ⟨Nat.le_of_ble_eq_true rfl, Nat.le_of_ble_eq_true rfl⟩) hK hP hD hS hA 2 2 tp_e2 rfl rfl rfl hl.1 rfl (Nat.le_of_ble_eq_true rfl) dX2_tell_57 ⟨Nat.zero_le _, Nat.zero_le _⟩ (fun I9 e9 H locs hP hD hS => ?_)
      subst e9
      exact tp_reti hx hb hr hlocks hK hP hD hS rfl rfl rfl dX2_tell_60
    · refine lv_iload_n hx hb dX2_tell_28 rfl (lv_at hl 3 rfl) ?_
      refine lv_iconst (v := 0) hx hb dX2_tell_29 (by decide) ?_
      refine lv_sipush (v := 1439) hx hb dX2_tell_30 (by decide) ?_
      refine tp_callS ⟨hx, hb, hml, hown, hts⟩ (mc_in l D cy n ad o (tp_u I 2 0 0) d 0 1439) (va_cwS 3 hts gX2_tell_X2_in rfl rfl rfl (by decide +kernel) ⟨Nat.le_of_ble_eq_true rfl, Nat.le_of_ble_eq_true rfl⟩) hK hP hD hS hA rfl hl.1 rfl (Nat.le_of_ble_eq_true rfl) dX2_tell_33 ⟨Nat.zero_le _, Nat.zero_le _⟩ (fun I9 e9 H locs hP hD hS => ?_)
      subst e9
      refine lv_if_eq (tgt := 55) hx hb dX2_tell_36 (by decide) (fun c36_3 => ?_) (fun c36_3 => ?_)
      · refine lv_aload_n hx hb dX2_tell_55 rfl (lv_at hl 0 rfl) ?_
        refine lv_iconst (v := 2) hx hb dX2_tell_56 (by decide) ?_
        refine tp_callV ⟨hx, hb, hml, hown, hts⟩ (mc_fails l D cy n ad o (tp_u I 2 0 0) 2) (cwV 1 hts gX2_tell_X2_fails rfl rfl rfl (by decide +kernel) ⟨Nat.le_of_ble_eq_true rfl, Nat.le_of_ble_eq_true rfl⟩) hK hP hD hS hA 2 2 tp_e2 rfl rfl rfl hl.1 rfl (Nat.le_of_ble_eq_true rfl) dX2_tell_57 ⟨Nat.zero_le _, Nat.zero_le _⟩ (fun I9 e9 H locs hP hD hS => ?_)
        subst e9
        exact tp_reti hx hb hr hlocks hK hP hD hS rfl rfl rfl dX2_tell_60
      · refine lv_iload hx hb dX2_tell_39 (lv_at hl 4 rfl) ?_
        refine lv_iload_n hx hb dX2_tell_41 rfl (lv_at hl 2 rfl) ?_
        refine tp_callS ⟨hx, hb, hml, hown, hts⟩ (mc_lowest l D cy n ad o (tp_u I 2 0 0) f) (va_cwS 1 hts gX2_tell_X2_lowest rfl rfl rfl (by decide +kernel) ⟨Nat.le_of_ble_eq_true rfl, Nat.le_of_ble_eq_true rfl⟩) hK hP hD hS hA rfl hl.1 rfl (Nat.le_of_ble_eq_true rfl) dX2_tell_42 ⟨Nat.zero_le _, Nat.zero_le _⟩ (fun I9 e9 H locs hP hD hS => ?_)
        subst e9
        refine lv_iload_n hx hb dX2_tell_45 rfl (lv_at hl 2 rfl) ?_
        refine tp_callS ⟨hx, hb, hml, hown, hts⟩ (mc_greatest l D cy n ad o (tp_u I 2 0 0) f) (va_cwS 1 hts gX2_tell_X2_greatest rfl rfl rfl (by decide +kernel) ⟨Nat.le_of_ble_eq_true rfl, Nat.le_of_ble_eq_true rfl⟩) hK hP hD hS hA rfl hl.1 rfl (Nat.le_of_ble_eq_true rfl) dX2_tell_46 ⟨Nat.zero_le _, Nat.zero_le _⟩ (fun I9 e9 H locs hP hD hS => ?_)
        subst e9
        refine tp_callS ⟨hx, hb, hml, hown, hts⟩ (mc_in l D cy n ad o (tp_u I 2 0 0) v (tp_low f) (tp_great f)) (va_cwS 3 hts gX2_tell_X2_in rfl rfl rfl (by decide +kernel) ⟨Nat.le_of_ble_eq_true rfl, Nat.le_of_ble_eq_true rfl⟩) hK hP hD hS hA rfl hl.1 rfl (Nat.le_of_ble_eq_true rfl) dX2_tell_49 ⟨Nat.zero_le _, Nat.zero_le _⟩ (fun I9 e9 H locs hP hD hS => ?_)
        subst e9
        refine lv_if_ne (tgt := 61) hx hb dX2_tell_52 (by decide) (fun c52_4 => ?_) (fun c52_4 => ?_)
        · exact absurd (show tp_tok f d v = 0 from hq) (by unfold tp_tok; rw [if_neg c25_2, if_neg c36_3]; exact c52_4)
        · refine lv_aload_n hx hb dX2_tell_55 rfl (lv_at hl 0 rfl) ?_
          refine lv_iconst (v := 2) hx hb dX2_tell_56 (by decide) ?_
          refine tp_callV ⟨hx, hb, hml, hown, hts⟩ (mc_fails l D cy n ad o (tp_u I 2 0 0) 2) (cwV 1 hts gX2_tell_X2_fails rfl rfl rfl (by decide +kernel) ⟨Nat.le_of_ble_eq_true rfl, Nat.le_of_ble_eq_true rfl⟩) hK hP hD hS hA 2 2 tp_e2 rfl rfl rfl hl.1 rfl (Nat.le_of_ble_eq_true rfl) dX2_tell_57 ⟨Nat.zero_le _, Nat.zero_le _⟩ (fun I9 e9 H locs hP hD hS => ?_)
          subst e9
          exact tp_reti hx hb hr hlocks hK hP hD hS rfl rfl rfl dX2_tell_60
  · exact absurd c10_1 (by decide)
set_option maxHeartbeats 4000000 in
set_option maxRecDepth 100000 in
/-- tell: full -/
theorem mp_tell_full (l : Launch) (D : va_G) (cy : Nat → ClassId) (n : Nat) (ad : Nat → Nat) (o : Int64) (I : Nat → Nat → Int32) (h : Nat) (hh : h < 6) (hH : tp_in (nI h) 0 (I 2 2 - 1) = 1) (f d v : Int32) (hq : tp_tok f d v = 1) (h100 : I 4 h = 100) : tp_I l yX2_tell wsX2_tell (tp_rm 2 43) D cy n ad o [.ref (ad (2)), .int (nI h), .int f, .int d, .int v] I (0) (tp_u (tp_u I 2 0 0) 2 0 3) := by
  refine tp_ofI (lv := [(0, .ref (ad (2))), (1, .int (nI h)), (2, .int f), (3, .int d), (4, .int v)]) (by decide) rfl (Nat.le_of_ble_eq_true rfl) rfl (fun p e s m args below meth c A ls S0 => ?_)
  obtain ⟨hx, hb, hr, hml, hown, hts, hlocks, hA, hK, hP, hD, hS, hl⟩ := S0
  refine lv_aload_n hx hb dX2_tell_0 rfl (lv_at hl 0 rfl) ?_
  refine lv_iconst (v := 0) hx hb dX2_tell_1 (by decide) ?_
  refine tp_put (ci := 2) (v := 0) (ty := .int) (C := RX2) (T := TX2) (N := 16) hx hb hts (fun _ h => List.mem_cons_of_mem _ (List.mem_append_right _ (h))) tyX2 tyX2_ok nmX2 hown hK hP hD hS 2 tp_e2 (by omega) rfl 0 (by decide) (hts _ (List.mem_of_getElem? (i := 1) rfl)) rfl (by decide +kernel) rfl rfl (Nat.le_of_ble_eq_true rfl) rfl dX2_tell_2 (fun H locs hP hD hS => ?_)
  refine lv_aload_n hx hb dX2_tell_5 rfl (lv_at hl 0 rfl) ?_
  refine lv_iload_n hx hb dX2_tell_6 rfl (lv_at hl 1 rfl) ?_
  refine tp_callV ⟨hx, hb, hml, hown, hts⟩ (tp_eqI (mc_isHome l D cy n ad o (tp_u I 2 0 0) (nI h)) hH rfl) (cwV 1 hts gX2_tell_X2_isHome rfl rfl rfl (by decide +kernel) ⟨Nat.le_of_ble_eq_true rfl, Nat.le_of_ble_eq_true rfl⟩) hK hP hD hS hA 2 2 tp_e2 rfl rfl rfl hl.1 rfl (Nat.le_of_ble_eq_true rfl) dX2_tell_7 ⟨Nat.zero_le _, Nat.zero_le _⟩ (fun I9 e9 H locs hP hD hS => ?_)
  subst e9
  refine lv_if_ne (tgt := 19) hx hb dX2_tell_10 (by decide) (fun c10_1 => ?_) (fun c10_1 => ?_)
  · refine lv_iload_n hx hb dX2_tell_19 rfl (lv_at hl 2 rfl) ?_
    refine lv_iconst (v := 0) hx hb dX2_tell_20 (by decide) ?_
    refine lv_iconst (v := 4) hx hb dX2_tell_21 (by decide) ?_
    refine tp_callS ⟨hx, hb, hml, hown, hts⟩ (mc_in l D cy n ad o (tp_u I 2 0 0) f 0 4) (va_cwS 3 hts gX2_tell_X2_in rfl rfl rfl (by decide +kernel) ⟨Nat.le_of_ble_eq_true rfl, Nat.le_of_ble_eq_true rfl⟩) hK hP hD hS hA rfl hl.1 rfl (Nat.le_of_ble_eq_true rfl) dX2_tell_22 ⟨Nat.zero_le _, Nat.zero_le _⟩ (fun I9 e9 H locs hP hD hS => ?_)
    subst e9
    refine lv_if_eq (tgt := 55) hx hb dX2_tell_25 (by decide) (fun c25_2 => ?_) (fun c25_2 => ?_)
    · exact absurd (hq.symm.trans (show tp_tok f d v = 0 by unfold tp_tok; rw [if_pos c25_2])) (by decide)
    · refine lv_iload_n hx hb dX2_tell_28 rfl (lv_at hl 3 rfl) ?_
      refine lv_iconst (v := 0) hx hb dX2_tell_29 (by decide) ?_
      refine lv_sipush (v := 1439) hx hb dX2_tell_30 (by decide) ?_
      refine tp_callS ⟨hx, hb, hml, hown, hts⟩ (mc_in l D cy n ad o (tp_u I 2 0 0) d 0 1439) (va_cwS 3 hts gX2_tell_X2_in rfl rfl rfl (by decide +kernel) ⟨Nat.le_of_ble_eq_true rfl, Nat.le_of_ble_eq_true rfl⟩) hK hP hD hS hA rfl hl.1 rfl (Nat.le_of_ble_eq_true rfl) dX2_tell_33 ⟨Nat.zero_le _, Nat.zero_le _⟩ (fun I9 e9 H locs hP hD hS => ?_)
      subst e9
      refine lv_if_eq (tgt := 55) hx hb dX2_tell_36 (by decide) (fun c36_3 => ?_) (fun c36_3 => ?_)
      · exact absurd (hq.symm.trans (show tp_tok f d v = 0 by unfold tp_tok; rw [if_neg c25_2, if_pos c36_3])) (by decide)
      · refine lv_iload hx hb dX2_tell_39 (lv_at hl 4 rfl) ?_
        refine lv_iload_n hx hb dX2_tell_41 rfl (lv_at hl 2 rfl) ?_
        refine tp_callS ⟨hx, hb, hml, hown, hts⟩ (mc_lowest l D cy n ad o (tp_u I 2 0 0) f) (va_cwS 1 hts gX2_tell_X2_lowest rfl rfl rfl (by decide +kernel) ⟨Nat.le_of_ble_eq_true rfl, Nat.le_of_ble_eq_true rfl⟩) hK hP hD hS hA rfl hl.1 rfl (Nat.le_of_ble_eq_true rfl) dX2_tell_42 ⟨Nat.zero_le _, Nat.zero_le _⟩ (fun I9 e9 H locs hP hD hS => ?_)
        subst e9
        refine lv_iload_n hx hb dX2_tell_45 rfl (lv_at hl 2 rfl) ?_
        refine tp_callS ⟨hx, hb, hml, hown, hts⟩ (mc_greatest l D cy n ad o (tp_u I 2 0 0) f) (va_cwS 1 hts gX2_tell_X2_greatest rfl rfl rfl (by decide +kernel) ⟨Nat.le_of_ble_eq_true rfl, Nat.le_of_ble_eq_true rfl⟩) hK hP hD hS hA rfl hl.1 rfl (Nat.le_of_ble_eq_true rfl) dX2_tell_46 ⟨Nat.zero_le _, Nat.zero_le _⟩ (fun I9 e9 H locs hP hD hS => ?_)
        subst e9
        refine tp_callS ⟨hx, hb, hml, hown, hts⟩ (mc_in l D cy n ad o (tp_u I 2 0 0) v (tp_low f) (tp_great f)) (va_cwS 3 hts gX2_tell_X2_in rfl rfl rfl (by decide +kernel) ⟨Nat.le_of_ble_eq_true rfl, Nat.le_of_ble_eq_true rfl⟩) hK hP hD hS hA rfl hl.1 rfl (Nat.le_of_ble_eq_true rfl) dX2_tell_49 ⟨Nat.zero_le _, Nat.zero_le _⟩ (fun I9 e9 H locs hP hD hS => ?_)
        subst e9
        refine lv_if_ne (tgt := 61) hx hb dX2_tell_52 (by decide) (fun c52_4 => ?_) (fun c52_4 => ?_)
        · refine lv_aload_n hx hb dX2_tell_61 rfl (lv_at hl 0 rfl) ?_
          refine va_get (D := D) (ci := 2) (v := .ref (ad (4))) (C := RX2) (T := TX2) (N := 16) hx hb hts (fun _ h => List.mem_cons_of_mem _ (List.mem_append_right _ (h))) hown hK hP 2 tp_e2 rfl 4 (by decide) (hts _ (List.mem_of_getElem? (i := 2) rfl)) (fun _ h9 => h9) rfl dX2_tell_62 ?_
          refine lv_iload_n hx hb dX2_tell_65 rfl (lv_at hl 1 rfl) ?_
          refine tp_iald hx hb hK hP 4 6 (h) (by omega) rfl rfl (by omega) (by decide) dX2_tell_66 ?_
          refine tp_eqi (y := (I 4 h)) rfl ?_
          refine lv_bipush (v := 100) hx hb dX2_tell_67 (by decide) ?_
          refine lv_icmp_ne (tgt := 78) hx hb dX2_tell_69 (by decide) (fun c69_5 => ?_) (fun c69_5 => ?_)
          · exact absurd h100 c69_5
          · refine lv_aload_n hx hb dX2_tell_72 rfl (lv_at hl 0 rfl) ?_
            refine lv_iconst (v := 3) hx hb dX2_tell_73 (by decide) ?_
            refine tp_callV ⟨hx, hb, hml, hown, hts⟩ (mc_fails l D cy n ad o (tp_u I 2 0 0) 3) (cwV 1 hts gX2_tell_X2_fails rfl rfl rfl (by decide +kernel) ⟨Nat.le_of_ble_eq_true rfl, Nat.le_of_ble_eq_true rfl⟩) hK hP hD hS hA 2 2 tp_e2 rfl rfl rfl hl.1 rfl (Nat.le_of_ble_eq_true rfl) dX2_tell_74 ⟨Nat.zero_le _, Nat.zero_le _⟩ (fun I9 e9 H locs hP hD hS => ?_)
            subst e9
            exact tp_reti hx hb hr hlocks hK hP hD hS rfl rfl rfl dX2_tell_77
        · exact absurd (hq.symm.trans (show tp_tok f d v = 0 by unfold tp_tok; rw [if_neg c25_2, if_neg c36_3]; exact c52_4)) (by decide)
  · exact absurd c10_1 (by decide)
set_option maxHeartbeats 4000000 in
set_option maxRecDepth 100000 in
/-- tell: ok -/
theorem mp_tell_ok (l : Launch) (D : va_G) (cy : Nat → ClassId) (n : Nat) (ad : Nat → Nat) (o : Int64) (I : Nat → Nat → Int32) (h : Nat) (hh : h < 6) (hH : tp_in (nI h) 0 (I 2 2 - 1) = 1) (f d v : Int32) (hq : tp_tok f d v = 1) (c0 : Nat) (hc0 : I 4 h = nI c0) (hc100 : c0 < 100) : tp_I l yX2_tell wsX2_tell (tp_rm 2 43) D cy n ad o [.ref (ad (2)), .int (nI h), .int f, .int d, .int v] I (d / 30 + (if 15 ≤ d - d / 30 * 30 then 1 else 0)) (tp_u (tp_u (tp_u (tp_u (tp_u I 2 0 0) 5 (100 * h + c0) f) 6 (100 * h + c0) (d / 30 + (if 15 ≤ d - d / 30 * 30 then 1 else 0))) 7 (100 * h + c0) v) 4 h (nI (c0 + 1))) := by
  refine tp_ofI (lv := [(0, .ref (ad (2))), (1, .int (nI h)), (2, .int f), (3, .int d), (4, .int v)]) (by decide) rfl (Nat.le_of_ble_eq_true rfl) rfl (fun p e s m args below meth c A ls S0 => ?_)
  obtain ⟨hx, hb, hr, hml, hown, hts, hlocks, hA, hK, hP, hD, hS, hl⟩ := S0
  refine lv_aload_n hx hb dX2_tell_0 rfl (lv_at hl 0 rfl) ?_
  refine lv_iconst (v := 0) hx hb dX2_tell_1 (by decide) ?_
  refine tp_put (ci := 2) (v := 0) (ty := .int) (C := RX2) (T := TX2) (N := 16) hx hb hts (fun _ h => List.mem_cons_of_mem _ (List.mem_append_right _ (h))) tyX2 tyX2_ok nmX2 hown hK hP hD hS 2 tp_e2 (by omega) rfl 0 (by decide) (hts _ (List.mem_of_getElem? (i := 1) rfl)) rfl (by decide +kernel) rfl rfl (Nat.le_of_ble_eq_true rfl) rfl dX2_tell_2 (fun H locs hP hD hS => ?_)
  refine lv_aload_n hx hb dX2_tell_5 rfl (lv_at hl 0 rfl) ?_
  refine lv_iload_n hx hb dX2_tell_6 rfl (lv_at hl 1 rfl) ?_
  refine tp_callV ⟨hx, hb, hml, hown, hts⟩ (tp_eqI (mc_isHome l D cy n ad o (tp_u I 2 0 0) (nI h)) hH rfl) (cwV 1 hts gX2_tell_X2_isHome rfl rfl rfl (by decide +kernel) ⟨Nat.le_of_ble_eq_true rfl, Nat.le_of_ble_eq_true rfl⟩) hK hP hD hS hA 2 2 tp_e2 rfl rfl rfl hl.1 rfl (Nat.le_of_ble_eq_true rfl) dX2_tell_7 ⟨Nat.zero_le _, Nat.zero_le _⟩ (fun I9 e9 H locs hP hD hS => ?_)
  subst e9
  refine lv_if_ne (tgt := 19) hx hb dX2_tell_10 (by decide) (fun c10_1 => ?_) (fun c10_1 => ?_)
  · refine lv_iload_n hx hb dX2_tell_19 rfl (lv_at hl 2 rfl) ?_
    refine lv_iconst (v := 0) hx hb dX2_tell_20 (by decide) ?_
    refine lv_iconst (v := 4) hx hb dX2_tell_21 (by decide) ?_
    refine tp_callS ⟨hx, hb, hml, hown, hts⟩ (mc_in l D cy n ad o (tp_u I 2 0 0) f 0 4) (va_cwS 3 hts gX2_tell_X2_in rfl rfl rfl (by decide +kernel) ⟨Nat.le_of_ble_eq_true rfl, Nat.le_of_ble_eq_true rfl⟩) hK hP hD hS hA rfl hl.1 rfl (Nat.le_of_ble_eq_true rfl) dX2_tell_22 ⟨Nat.zero_le _, Nat.zero_le _⟩ (fun I9 e9 H locs hP hD hS => ?_)
    subst e9
    refine lv_if_eq (tgt := 55) hx hb dX2_tell_25 (by decide) (fun c25_2 => ?_) (fun c25_2 => ?_)
    · exact absurd (hq.symm.trans (show tp_tok f d v = 0 by unfold tp_tok; rw [if_pos c25_2])) (by decide)
    · refine lv_iload_n hx hb dX2_tell_28 rfl (lv_at hl 3 rfl) ?_
      refine lv_iconst (v := 0) hx hb dX2_tell_29 (by decide) ?_
      refine lv_sipush (v := 1439) hx hb dX2_tell_30 (by decide) ?_
      refine tp_callS ⟨hx, hb, hml, hown, hts⟩ (mc_in l D cy n ad o (tp_u I 2 0 0) d 0 1439) (va_cwS 3 hts gX2_tell_X2_in rfl rfl rfl (by decide +kernel) ⟨Nat.le_of_ble_eq_true rfl, Nat.le_of_ble_eq_true rfl⟩) hK hP hD hS hA rfl hl.1 rfl (Nat.le_of_ble_eq_true rfl) dX2_tell_33 ⟨Nat.zero_le _, Nat.zero_le _⟩ (fun I9 e9 H locs hP hD hS => ?_)
      subst e9
      refine lv_if_eq (tgt := 55) hx hb dX2_tell_36 (by decide) (fun c36_3 => ?_) (fun c36_3 => ?_)
      · exact absurd (hq.symm.trans (show tp_tok f d v = 0 by unfold tp_tok; rw [if_neg c25_2, if_pos c36_3])) (by decide)
      · refine lv_iload hx hb dX2_tell_39 (lv_at hl 4 rfl) ?_
        refine lv_iload_n hx hb dX2_tell_41 rfl (lv_at hl 2 rfl) ?_
        refine tp_callS ⟨hx, hb, hml, hown, hts⟩ (mc_lowest l D cy n ad o (tp_u I 2 0 0) f) (va_cwS 1 hts gX2_tell_X2_lowest rfl rfl rfl (by decide +kernel) ⟨Nat.le_of_ble_eq_true rfl, Nat.le_of_ble_eq_true rfl⟩) hK hP hD hS hA rfl hl.1 rfl (Nat.le_of_ble_eq_true rfl) dX2_tell_42 ⟨Nat.zero_le _, Nat.zero_le _⟩ (fun I9 e9 H locs hP hD hS => ?_)
        subst e9
        refine lv_iload_n hx hb dX2_tell_45 rfl (lv_at hl 2 rfl) ?_
        refine tp_callS ⟨hx, hb, hml, hown, hts⟩ (mc_greatest l D cy n ad o (tp_u I 2 0 0) f) (va_cwS 1 hts gX2_tell_X2_greatest rfl rfl rfl (by decide +kernel) ⟨Nat.le_of_ble_eq_true rfl, Nat.le_of_ble_eq_true rfl⟩) hK hP hD hS hA rfl hl.1 rfl (Nat.le_of_ble_eq_true rfl) dX2_tell_46 ⟨Nat.zero_le _, Nat.zero_le _⟩ (fun I9 e9 H locs hP hD hS => ?_)
        subst e9
        refine tp_callS ⟨hx, hb, hml, hown, hts⟩ (mc_in l D cy n ad o (tp_u I 2 0 0) v (tp_low f) (tp_great f)) (va_cwS 3 hts gX2_tell_X2_in rfl rfl rfl (by decide +kernel) ⟨Nat.le_of_ble_eq_true rfl, Nat.le_of_ble_eq_true rfl⟩) hK hP hD hS hA rfl hl.1 rfl (Nat.le_of_ble_eq_true rfl) dX2_tell_49 ⟨Nat.zero_le _, Nat.zero_le _⟩ (fun I9 e9 H locs hP hD hS => ?_)
        subst e9
        refine lv_if_ne (tgt := 61) hx hb dX2_tell_52 (by decide) (fun c52_4 => ?_) (fun c52_4 => ?_)
        · refine lv_aload_n hx hb dX2_tell_61 rfl (lv_at hl 0 rfl) ?_
          refine va_get (D := D) (ci := 2) (v := .ref (ad (4))) (C := RX2) (T := TX2) (N := 16) hx hb hts (fun _ h => List.mem_cons_of_mem _ (List.mem_append_right _ (h))) hown hK hP 2 tp_e2 rfl 4 (by decide) (hts _ (List.mem_of_getElem? (i := 2) rfl)) (fun _ h9 => h9) rfl dX2_tell_62 ?_
          refine lv_iload_n hx hb dX2_tell_65 rfl (lv_at hl 1 rfl) ?_
          refine tp_iald hx hb hK hP 4 6 (h) (by omega) rfl rfl (by omega) (by decide) dX2_tell_66 ?_
          refine tp_eqi (y := (I 4 h)) rfl ?_
          refine tp_eqi (y := nI c0) hc0 ?_
          refine lv_bipush (v := 100) hx hb dX2_tell_67 (by decide) ?_
          refine lv_icmp_ne (tgt := 78) hx hb dX2_tell_69 (by decide) (fun c69_5 => ?_) (fun c69_5 => ?_)
          · refine lv_bipush (v := 100) hx hb dX2_tell_78 (by decide) ?_
            refine lv_iload_n hx hb dX2_tell_80 rfl (lv_at hl 1 rfl) ?_
            refine lv_imul hx hb dX2_tell_81 ?_
            refine tp_eqi (y := nI (100 * h)) (pk_mul 100 h) ?_
            refine lv_aload_n hx hb dX2_tell_82 rfl (lv_at hl 0 rfl) ?_
            refine va_get (D := D) (ci := 2) (v := .ref (ad (4))) (C := RX2) (T := TX2) (N := 16) hx hb hts (fun _ h => List.mem_cons_of_mem _ (List.mem_append_right _ (h))) hown hK hP 2 tp_e2 rfl 4 (by decide) (hts _ (List.mem_of_getElem? (i := 2) rfl)) (fun _ h9 => h9) rfl dX2_tell_83 ?_
            refine lv_iload_n hx hb dX2_tell_86 rfl (lv_at hl 1 rfl) ?_
            refine tp_iald hx hb hK hP 4 6 (h) (by omega) rfl rfl (by omega) (by decide) dX2_tell_87 ?_
            refine tp_eqi (y := (I 4 h)) rfl ?_
            refine tp_eqi (y := nI c0) hc0 ?_
            refine lv_iadd hx hb dX2_tell_88 ?_
            refine tp_eqi (y := nI ((100 * h) + c0)) (nI_add (100 * h) c0) ?_
            refine lv_istore (lv' := [(5, .int (nI ((100 * h) + c0))), (0, .ref (ad (2))), (1, .int (nI h)), (2, .int f), (3, .int d), (4, .int v)]) hx hb dX2_tell_89 hl (by decide) rfl (fun ls hl => ?_)
            refine lv_aload_n hx hb dX2_tell_91 rfl (lv_at hl 1 rfl) ?_
            refine va_get (D := D) (ci := 2) (v := .ref (ad (5))) (C := RX2) (T := TX2) (N := 16) hx hb hts (fun _ h => List.mem_cons_of_mem _ (List.mem_append_right _ (h))) hown hK hP 2 tp_e2 rfl 5 (by decide) (hts _ (List.mem_of_getElem? (i := 3) rfl)) (fun _ h9 => h9) rfl dX2_tell_92 ?_
            refine lv_iload hx hb dX2_tell_95 (lv_at hl 0 rfl) ?_
            refine lv_iload_n hx hb dX2_tell_97 rfl (lv_at hl 3 rfl) ?_
            refine tp_iast hx hb hK hP hD hS (5) 600 (((100 * h) + c0)) (by omega) (fun _ => rfl) rfl (by omega) (by decide) dX2_tell_98 (fun H locs hP hD hS => ?_)
            refine lv_aload_n hx hb dX2_tell_99 rfl (lv_at hl 1 rfl) ?_
            refine va_get (D := D) (ci := 2) (v := .ref (ad (6))) (C := RX2) (T := TX2) (N := 16) hx hb hts (fun _ h => List.mem_cons_of_mem _ (List.mem_append_right _ (h))) hown hK hP 2 tp_e2 rfl 6 (by decide) (hts _ (List.mem_of_getElem? (i := 4) rfl)) (fun _ h9 => h9) rfl dX2_tell_100 ?_
            refine lv_iload hx hb dX2_tell_103 (lv_at hl 0 rfl) ?_
            refine lv_iload_n hx hb dX2_tell_105 rfl (lv_at hl 4 rfl) ?_
            refine lv_bipush (v := 30) hx hb dX2_tell_106 (by decide) ?_
            refine lv_idiv hx hb dX2_tell_108 (by decide) ?_
            refine tp_meetH (D := D) (cy := cy) (n := n) (ad := ad) (I := tp_u (tp_u I 2 0 0) 5 ((100 * h) + c0) f) (o := o) (A := A) (H0 := s.heap) (if 15 ≤ d - d / 30 * 30 then 1 else 0 : Int32) (fun y => F0 m 123 ls (.int y :: [.int (d / 30), .int (nI ((100 * h) + c0)), .ref (ad (6))])) (fun hj123 => ?_) (fun H locs hP hD hS => ?_)
            · refine lv_iload_n hx hb dX2_tell_109 rfl (lv_at hl 4 rfl) ?_
              refine lv_bipush (v := 30) hx hb dX2_tell_110 (by decide) ?_
              refine lv_irem hx hb dX2_tell_112 (by decide) ?_
              refine lv_bipush (v := 15) hx hb dX2_tell_113 (by decide) ?_
              refine lv_icmp_ge (tgt := 122) hx hb dX2_tell_115 (by decide) (fun c115_6 => ?_) (fun c115_6 => ?_)
              · refine lv_iconst (v := 1) hx hb dX2_tell_122 (by decide) ?_
                exact hj123 _ (by rw [if_pos c115_6]) H locs hP hD hS
              · refine lv_iconst (v := 0) hx hb dX2_tell_118 (by decide) ?_
                refine lv_goto (tgt := 123) hx hb dX2_tell_119 (by decide) ?_
                exact hj123 _ (by rw [if_neg c115_6]) H locs hP hD hS
            refine lv_iadd hx hb dX2_tell_123 ?_
            refine tp_iast hx hb hK hP hD hS (6) 600 (((100 * h) + c0)) (by omega) (fun _ => rfl) rfl (by omega) (by decide) dX2_tell_124 (fun H locs hP hD hS => ?_)
            refine lv_aload_n hx hb dX2_tell_125 rfl (lv_at hl 1 rfl) ?_
            refine va_get (D := D) (ci := 2) (v := .ref (ad (7))) (C := RX2) (T := TX2) (N := 16) hx hb hts (fun _ h => List.mem_cons_of_mem _ (List.mem_append_right _ (h))) hown hK hP 2 tp_e2 rfl 7 (by decide) (hts _ (List.mem_of_getElem? (i := 5) rfl)) (fun _ h9 => h9) rfl dX2_tell_126 ?_
            refine lv_iload hx hb dX2_tell_129 (lv_at hl 0 rfl) ?_
            refine lv_iload hx hb dX2_tell_131 (lv_at hl 5 rfl) ?_
            refine tp_iast hx hb hK hP hD hS (7) 600 (((100 * h) + c0)) (by omega) (fun _ => rfl) rfl (by omega) (by decide) dX2_tell_133 (fun H locs hP hD hS => ?_)
            refine lv_aload_n hx hb dX2_tell_134 rfl (lv_at hl 1 rfl) ?_
            refine va_get (D := D) (ci := 2) (v := .ref (ad (4))) (C := RX2) (T := TX2) (N := 16) hx hb hts (fun _ h => List.mem_cons_of_mem _ (List.mem_append_right _ (h))) hown hK hP 2 tp_e2 rfl 4 (by decide) (hts _ (List.mem_of_getElem? (i := 2) rfl)) (fun _ h9 => h9) rfl dX2_tell_135 ?_
            refine lv_iload_n hx hb dX2_tell_138 rfl (lv_at hl 2 rfl) ?_
            refine lv_dup2_11 hx hb dX2_tell_139 rfl rfl ?_
            refine tp_iald hx hb hK hP 4 6 (h) (by omega) rfl rfl (by omega) (by decide) dX2_tell_140 ?_
            refine tp_eqi (y := (I 4 h)) rfl ?_
            refine tp_eqi (y := nI c0) hc0 ?_
            refine lv_iconst (v := 1) hx hb dX2_tell_141 (by decide) ?_
            refine lv_iadd hx hb dX2_tell_142 ?_
            refine tp_eqi (y := nI (c0 + 1)) (nI_add c0 1) ?_
            refine tp_iast hx hb hK hP hD hS (4) 6 (h) (by omega) (fun _ => rfl) rfl (by omega) (by decide) dX2_tell_143 (fun H locs hP hD hS => ?_)
            refine lv_aload_n hx hb dX2_tell_144 rfl (lv_at hl 1 rfl) ?_
            refine va_get (D := D) (ci := 2) (v := .ref (ad (6))) (C := RX2) (T := TX2) (N := 16) hx hb hts (fun _ h => List.mem_cons_of_mem _ (List.mem_append_right _ (h))) hown hK hP 2 tp_e2 rfl 6 (by decide) (hts _ (List.mem_of_getElem? (i := 4) rfl)) (fun _ h9 => h9) rfl dX2_tell_145 ?_
            refine lv_iload hx hb dX2_tell_148 (lv_at hl 0 rfl) ?_
            refine tp_iald hx hb hK hP 6 600 (((100 * h) + c0)) (by omega) rfl rfl (by omega) (by decide) dX2_tell_150 ?_
            refine tp_eqi (y := ((d / 30) + (if 15 ≤ d - d / 30 * 30 then 1 else 0))) (by rw [tp_u_oth (a := 6) (k := 4) (by decide), tp_u_oth (a := 6) (k := 7) (by decide), tp_u_s]) ?_
            exact tp_reti hx hb hr hlocks hK hP hD hS rfl rfl rfl dX2_tell_151
          · exact absurd ((nI_eq (by omega) (by decide)).mp (show nI c0 = nI 100 from c69_5)) (by omega)
        · exact absurd (hq.symm.trans (show tp_tok f d v = 0 by unfold tp_tok; rw [if_neg c25_2, if_neg c36_3]; exact c52_4)) (by decide)
  · exact absurd c10_1 (by decide)
set_option maxHeartbeats 4000000 in
set_option maxRecDepth 100000 in
/-- add: full -/
theorem mp_add_full (l : Launch) (D : va_G) (cy : Nat → ClassId) (n : Nat) (ad : Nat → Nat) (o : Int64) (I : Nat → Nat → Int32) (hf : I 2 2 = 6) : tp_I l yX2_add wsX2_add (tp_rm 1 21) D cy n ad o [.ref (ad (2))] I (0) (tp_u (tp_u I 2 0 0) 2 0 1) := by
  refine tp_ofI (lv := [(0, .ref (ad (2)))]) (by decide) rfl (Nat.le_of_ble_eq_true rfl) rfl (fun p e s m args below meth c A ls S0 => ?_)
  obtain ⟨hx, hb, hr, hml, hown, hts, hlocks, hA, hK, hP, hD, hS, hl⟩ := S0
  refine lv_aload_n hx hb dX2_add_0 rfl (lv_at hl 0 rfl) ?_
  refine lv_iconst (v := 0) hx hb dX2_add_1 (by decide) ?_
  refine tp_put (ci := 2) (v := 0) (ty := .int) (C := RX2) (T := TX2) (N := 16) hx hb hts (fun _ h => List.mem_cons_of_mem _ (List.mem_append_right _ (h))) tyX2 tyX2_ok nmX2 hown hK hP hD hS 2 tp_e2 (by omega) rfl 0 (by decide) (hts _ (List.mem_of_getElem? (i := 1) rfl)) rfl (by decide +kernel) rfl rfl (Nat.le_of_ble_eq_true rfl) rfl dX2_add_2 (fun H locs hP hD hS => ?_)
  refine lv_aload_n hx hb dX2_add_5 rfl (lv_at hl 0 rfl) ?_
  refine va_get (D := D) (ci := 2) (v := .int (I 2 2)) (C := RX2) (T := TX2) (N := 16) hx hb hts (fun _ h => List.mem_cons_of_mem _ (List.mem_append_right _ (h))) hown hK hP 2 tp_e2 rfl 2 (by decide) (hts _ (List.mem_of_getElem? (i := 2) rfl)) (fun _ h9 => h9) rfl dX2_add_6 ?_
  refine lv_bipush (v := 6) hx hb dX2_add_9 (by decide) ?_
  refine lv_icmp_eq (tgt := 23) hx hb dX2_add_11 (by decide) (fun c11_1 => ?_) (fun c11_1 => ?_)
  · refine lv_aload_n hx hb dX2_add_23 rfl (lv_at hl 0 rfl) ?_
    refine lv_iconst (v := 1) hx hb dX2_add_24 (by decide) ?_
    refine tp_callV ⟨hx, hb, hml, hown, hts⟩ (mc_fails l D cy n ad o (tp_u I 2 0 0) 1) (cwV 1 hts gX2_add_X2_fails rfl rfl rfl (by decide +kernel) ⟨Nat.le_of_ble_eq_true rfl, Nat.le_of_ble_eq_true rfl⟩) hK hP hD hS hA 2 2 tp_e2 rfl rfl rfl hl.1 rfl (Nat.le_of_ble_eq_true rfl) dX2_add_25 ⟨Nat.zero_le _, Nat.zero_le _⟩ (fun I9 e9 H locs hP hD hS => ?_)
    subst e9
    exact tp_reti hx hb hr hlocks hK hP hD hS rfl rfl rfl dX2_add_28
  · exact absurd hf c11_1
set_option maxHeartbeats 4000000 in
set_option maxRecDepth 100000 in
/-- add: end -/
theorem mp_add_end (l : Launch) (D : va_G) (cy : Nat → ClassId) (n : Nat) (ad : Nat → Nat) (o : Int64) (I : Nat → Nat → Int32) (hf : ¬ I 2 2 = 6) (he : I 2 1 = 48) : tp_I l yX2_add wsX2_add (tp_rm 1 21) D cy n ad o [.ref (ad (2))] I (0) (tp_u (tp_u I 2 0 0) 2 0 1) := by
  refine tp_ofI (lv := [(0, .ref (ad (2)))]) (by decide) rfl (Nat.le_of_ble_eq_true rfl) rfl (fun p e s m args below meth c A ls S0 => ?_)
  obtain ⟨hx, hb, hr, hml, hown, hts, hlocks, hA, hK, hP, hD, hS, hl⟩ := S0
  refine lv_aload_n hx hb dX2_add_0 rfl (lv_at hl 0 rfl) ?_
  refine lv_iconst (v := 0) hx hb dX2_add_1 (by decide) ?_
  refine tp_put (ci := 2) (v := 0) (ty := .int) (C := RX2) (T := TX2) (N := 16) hx hb hts (fun _ h => List.mem_cons_of_mem _ (List.mem_append_right _ (h))) tyX2 tyX2_ok nmX2 hown hK hP hD hS 2 tp_e2 (by omega) rfl 0 (by decide) (hts _ (List.mem_of_getElem? (i := 1) rfl)) rfl (by decide +kernel) rfl rfl (Nat.le_of_ble_eq_true rfl) rfl dX2_add_2 (fun H locs hP hD hS => ?_)
  refine lv_aload_n hx hb dX2_add_5 rfl (lv_at hl 0 rfl) ?_
  refine va_get (D := D) (ci := 2) (v := .int (I 2 2)) (C := RX2) (T := TX2) (N := 16) hx hb hts (fun _ h => List.mem_cons_of_mem _ (List.mem_append_right _ (h))) hown hK hP 2 tp_e2 rfl 2 (by decide) (hts _ (List.mem_of_getElem? (i := 2) rfl)) (fun _ h9 => h9) rfl dX2_add_6 ?_
  refine lv_bipush (v := 6) hx hb dX2_add_9 (by decide) ?_
  refine lv_icmp_eq (tgt := 23) hx hb dX2_add_11 (by decide) (fun c11_1 => ?_) (fun c11_1 => ?_)
  · exact absurd c11_1 hf
  · refine lv_aload_n hx hb dX2_add_14 rfl (lv_at hl 0 rfl) ?_
    refine va_get (D := D) (ci := 2) (v := .int (I 2 1)) (C := RX2) (T := TX2) (N := 16) hx hb hts (fun _ h => List.mem_cons_of_mem _ (List.mem_append_right _ (h))) hown hK hP 2 tp_e2 rfl 1 (by decide) (hts _ (List.mem_of_getElem? (i := 3) rfl)) (fun _ h9 => h9) rfl dX2_add_15 ?_
    refine lv_bipush (v := 48) hx hb dX2_add_18 (by decide) ?_
    refine lv_icmp_ne (tgt := 29) hx hb dX2_add_20 (by decide) (fun c20_2 => ?_) (fun c20_2 => ?_)
    · exact absurd he c20_2
    · refine lv_aload_n hx hb dX2_add_23 rfl (lv_at hl 0 rfl) ?_
      refine lv_iconst (v := 1) hx hb dX2_add_24 (by decide) ?_
      refine tp_callV ⟨hx, hb, hml, hown, hts⟩ (mc_fails l D cy n ad o (tp_u I 2 0 0) 1) (cwV 1 hts gX2_add_X2_fails rfl rfl rfl (by decide +kernel) ⟨Nat.le_of_ble_eq_true rfl, Nat.le_of_ble_eq_true rfl⟩) hK hP hD hS hA 2 2 tp_e2 rfl rfl rfl hl.1 rfl (Nat.le_of_ble_eq_true rfl) dX2_add_25 ⟨Nat.zero_le _, Nat.zero_le _⟩ (fun I9 e9 H locs hP hD hS => ?_)
      subst e9
      exact tp_reti hx hb hr hlocks hK hP hD hS rfl rfl rfl dX2_add_28
set_option maxHeartbeats 4000000 in
set_option maxRecDepth 100000 in
/-- add: ok -/
theorem mp_add_ok (l : Launch) (D : va_G) (cy : Nat → ClassId) (n : Nat) (ad : Nat → Nat) (o : Int64) (I : Nat → Nat → Int32) (n0 : Nat) (hn0 : I 2 2 = nI n0) (hn6 : n0 < 6) (he : ¬ I 2 1 = 48) : tp_I l yX2_add wsX2_add (tp_rm 0 0) D cy n ad o [.ref (ad (2))] I (nI n0) (tp_u (tp_u (tp_u I 2 0 0) 3 n0 (I 2 1)) 2 2 (nI (n0 + 1))) := by
  refine tp_ofI (lv := [(0, .ref (ad (2)))]) (by decide) rfl (Nat.le_of_ble_eq_true rfl) rfl (fun p e s m args below meth c A ls S0 => ?_)
  obtain ⟨hx, hb, hr, hml, hown, hts, hlocks, hA, hK, hP, hD, hS, hl⟩ := S0
  refine lv_aload_n hx hb dX2_add_0 rfl (lv_at hl 0 rfl) ?_
  refine lv_iconst (v := 0) hx hb dX2_add_1 (by decide) ?_
  refine tp_put (ci := 2) (v := 0) (ty := .int) (C := RX2) (T := TX2) (N := 16) hx hb hts (fun _ h => List.mem_cons_of_mem _ (List.mem_append_right _ (h))) tyX2 tyX2_ok nmX2 hown hK hP hD hS 2 tp_e2 (by omega) rfl 0 (by decide) (hts _ (List.mem_of_getElem? (i := 1) rfl)) rfl (by decide +kernel) rfl rfl (Nat.le_of_ble_eq_true rfl) rfl dX2_add_2 (fun H locs hP hD hS => ?_)
  refine lv_aload_n hx hb dX2_add_5 rfl (lv_at hl 0 rfl) ?_
  refine va_get (D := D) (ci := 2) (v := .int (I 2 2)) (C := RX2) (T := TX2) (N := 16) hx hb hts (fun _ h => List.mem_cons_of_mem _ (List.mem_append_right _ (h))) hown hK hP 2 tp_e2 rfl 2 (by decide) (hts _ (List.mem_of_getElem? (i := 2) rfl)) (fun _ h9 => h9) rfl dX2_add_6 ?_
  refine tp_eqi (y := nI n0) hn0 ?_
  refine lv_bipush (v := 6) hx hb dX2_add_9 (by decide) ?_
  refine lv_icmp_eq (tgt := 23) hx hb dX2_add_11 (by decide) (fun c11_1 => ?_) (fun c11_1 => ?_)
  · exact absurd ((nI_eq (by omega) (by decide)).mp (show nI n0 = nI 6 from c11_1)) (by omega)
  · refine lv_aload_n hx hb dX2_add_14 rfl (lv_at hl 0 rfl) ?_
    refine va_get (D := D) (ci := 2) (v := .int (I 2 1)) (C := RX2) (T := TX2) (N := 16) hx hb hts (fun _ h => List.mem_cons_of_mem _ (List.mem_append_right _ (h))) hown hK hP 2 tp_e2 rfl 1 (by decide) (hts _ (List.mem_of_getElem? (i := 3) rfl)) (fun _ h9 => h9) rfl dX2_add_15 ?_
    refine lv_bipush (v := 48) hx hb dX2_add_18 (by decide) ?_
    refine lv_icmp_ne (tgt := 29) hx hb dX2_add_20 (by decide) (fun c20_2 => ?_) (fun c20_2 => ?_)
    · refine lv_aload_n hx hb dX2_add_29 rfl (lv_at hl 0 rfl) ?_
      refine va_get (D := D) (ci := 2) (v := .ref (ad (3))) (C := RX2) (T := TX2) (N := 16) hx hb hts (fun _ h => List.mem_cons_of_mem _ (List.mem_append_right _ (h))) hown hK hP 2 tp_e2 rfl 3 (by decide) (hts _ (List.mem_of_getElem? (i := 4) rfl)) (fun _ h9 => h9) rfl dX2_add_30 ?_
      refine lv_aload_n hx hb dX2_add_33 rfl (lv_at hl 0 rfl) ?_
      refine va_get (D := D) (ci := 2) (v := .int (I 2 2)) (C := RX2) (T := TX2) (N := 16) hx hb hts (fun _ h => List.mem_cons_of_mem _ (List.mem_append_right _ (h))) hown hK hP 2 tp_e2 rfl 2 (by decide) (hts _ (List.mem_of_getElem? (i := 2) rfl)) (fun _ h9 => h9) rfl dX2_add_34 ?_
      refine tp_eqi (y := nI n0) hn0 ?_
      refine lv_aload_n hx hb dX2_add_37 rfl (lv_at hl 0 rfl) ?_
      refine va_get (D := D) (ci := 2) (v := .int (I 2 1)) (C := RX2) (T := TX2) (N := 16) hx hb hts (fun _ h => List.mem_cons_of_mem _ (List.mem_append_right _ (h))) hown hK hP 2 tp_e2 rfl 1 (by decide) (hts _ (List.mem_of_getElem? (i := 3) rfl)) (fun _ h9 => h9) rfl dX2_add_38 ?_
      refine tp_iast hx hb hK hP hD hS (3) 6 (n0) (by omega) (fun _ => rfl) rfl (by omega) (by decide) dX2_add_41 (fun H locs hP hD hS => ?_)
      refine lv_aload_n hx hb dX2_add_42 rfl (lv_at hl 0 rfl) ?_
      refine lv_dup hx hb dX2_add_43 rfl ?_
      refine va_get (D := D) (ci := 2) (v := .int (I 2 2)) (C := RX2) (T := TX2) (N := 16) hx hb hts (fun _ h => List.mem_cons_of_mem _ (List.mem_append_right _ (h))) hown hK hP 2 tp_e2 rfl 2 (by decide) (hts _ (List.mem_of_getElem? (i := 2) rfl)) (fun _ h9 => h9) rfl dX2_add_44 ?_
      refine tp_eqi (y := nI n0) hn0 ?_
      refine lv_iconst (v := 1) hx hb dX2_add_47 (by decide) ?_
      refine lv_iadd hx hb dX2_add_48 ?_
      refine tp_eqi (y := nI (n0 + 1)) (nI_add n0 1) ?_
      refine tp_put (ci := 2) (v := (nI (n0 + 1))) (ty := .int) (C := RX2) (T := TX2) (N := 16) hx hb hts (fun _ h => List.mem_cons_of_mem _ (List.mem_append_right _ (h))) tyX2 tyX2_ok nmX2 hown hK hP hD hS 2 tp_e2 (by omega) rfl 2 (by decide) (hts _ (List.mem_of_getElem? (i := 2) rfl)) rfl (by decide +kernel) rfl rfl (Nat.le_of_ble_eq_true rfl) rfl dX2_add_49 (fun H locs hP hD hS => ?_)
      refine lv_aload_n hx hb dX2_add_52 rfl (lv_at hl 0 rfl) ?_
      refine va_get (D := D) (ci := 2) (v := .int (nI (n0 + 1))) (C := RX2) (T := TX2) (N := 16) hx hb hts (fun _ h => List.mem_cons_of_mem _ (List.mem_append_right _ (h))) hown hK hP 2 tp_e2 rfl 2 (by decide) (hts _ (List.mem_of_getElem? (i := 2) rfl)) (fun _ h9 => h9) rfl dX2_add_53 ?_
      refine lv_iconst (v := 1) hx hb dX2_add_56 (by decide) ?_
      refine lv_isub hx hb dX2_add_57 ?_
      exact tp_reti hx hb hr hlocks hK hP hD hS rfl (nI_pred _) rfl dX2_add_58
    · exact absurd c20_2 he
