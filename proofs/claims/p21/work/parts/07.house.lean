set_option maxHeartbeats 4000000 in
set_option maxRecDepth 100000 in
/-- needIn(month) -/
theorem hc_needIn (l : Launch) (D : va_G) (cy : Nat → ClassId) (n : Nat) (ad : Nat → Nat) (o : Int64) (I : Nat → Nat → Int32) (i : Nat) (hi : i < n) (m0 : Nat) (hm : m0 < 48) : tp_I l yX0_needIn wsX0_needIn (tp_rm 1 21) D cy n ad o [.ref (ad (9 + 15 * i)), .int (nI m0)] I (tp_need I (9 + 15 * i) m0) (I) := by
  refine tp_ofI (lv := [(0, .ref (ad (9 + 15 * i))), (1, .int (nI m0))]) (by decide) rfl (Nat.le_of_ble_eq_true rfl) rfl (fun p e s m args below meth c A ls S0 => ?_)
  obtain ⟨hx, hb, hr, hml, hown, hts, hlocks, hA, hK, hP, hD, hS, hl⟩ := S0
  refine lv_sipush (v := 30000) hx hb dX0_needIn_0 (by decide) ?_
  refine lv_aload_n hx hb dX0_needIn_3 rfl (lv_at hl 0 rfl) ?_
  refine va_get (D := D) (ci := 0) (v := .ref (ad (9 + 15 * i + 1))) (C := RX0) (T := TX0) (N := 9) hx hb hts (fun _ h => List.mem_cons_of_mem _ (List.mem_append_right _ (h))) hown hK hP (9 + 15 * i) (tp_eh hi) rfl 0 (by decide) (hts _ (List.mem_of_getElem? (i := 1) rfl)) (fun _ h9 => h9) rfl dX0_needIn_4 ?_
  refine lv_iconst (v := 1) hx hb dX0_needIn_7 (by decide) ?_
  refine tp_aald hx hb hK hP (9 + 15 * i + 1) 5 (1) (by omega) (tp_hVo i) (by decide) (by decide) (by decide) dX0_needIn_8 ?_
  refine lv_iload_n hx hb dX0_needIn_9 rfl (lv_at hl 1 rfl) ?_
  refine tp_iald hx hb hK hP (9 + 15 * i + 2 + 1) 48 (m0) (by omega) (tp_hV i (f := 1) (by decide)) rfl (by omega) (by decide) dX0_needIn_10 ?_
  refine lv_sipush (v := 8000) hx hb dX0_needIn_11 (by decide) ?_
  refine lv_imul hx hb dX0_needIn_14 ?_
  refine lv_iadd hx hb dX0_needIn_15 ?_
  refine lv_istore_n (lv' := [(2, .int (30000 + ((I (9 + 15 * i + 2 + 1) m0) * 8000))), (0, .ref (ad (9 + 15 * i))), (1, .int (nI m0))]) hx hb dX0_needIn_16 rfl hl (by decide) rfl (fun ls hl => ?_)
  refine lv_aload_n hx hb dX0_needIn_17 rfl (lv_at hl 1 rfl) ?_
  refine va_get (D := D) (ci := 0) (v := .ref (ad (9 + 15 * i + 1))) (C := RX0) (T := TX0) (N := 9) hx hb hts (fun _ h => List.mem_cons_of_mem _ (List.mem_append_right _ (h))) hown hK hP (9 + 15 * i) (tp_eh hi) rfl 0 (by decide) (hts _ (List.mem_of_getElem? (i := 1) rfl)) (fun _ h9 => h9) rfl dX0_needIn_18 ?_
  refine lv_iconst (v := 0) hx hb dX0_needIn_21 (by decide) ?_
  refine tp_aald hx hb hK hP (9 + 15 * i + 1) 5 (0) (by omega) (tp_hVo i) (by decide) (by decide) (by decide) dX0_needIn_22 ?_
  refine lv_iload_n hx hb dX0_needIn_23 rfl (lv_at hl 2 rfl) ?_
  refine tp_iald hx hb hK hP (9 + 15 * i + 2 + 0) 48 (m0) (by omega) (tp_hV i (f := 0) (by decide)) rfl (by omega) (by decide) dX0_needIn_24 ?_
  refine lv_iconst (v := 1) hx hb dX0_needIn_25 (by decide) ?_
  refine lv_icmp_le (tgt := 35) hx hb dX0_needIn_26 (by decide) (fun c26_1 => ?_) (fun c26_1 => ?_)
  · refine lv_iload_n hx hb dX0_needIn_35 rfl (lv_at hl 0 rfl) ?_
    refine lv_aload_n hx hb dX0_needIn_36 rfl (lv_at hl 1 rfl) ?_
    refine va_get (D := D) (ci := 0) (v := .ref (ad (9 + 15 * i + 1))) (C := RX0) (T := TX0) (N := 9) hx hb hts (fun _ h => List.mem_cons_of_mem _ (List.mem_append_right _ (h))) hown hK hP (9 + 15 * i) (tp_eh hi) rfl 0 (by decide) (hts _ (List.mem_of_getElem? (i := 1) rfl)) (fun _ h9 => h9) rfl dX0_needIn_37 ?_
    refine lv_iconst (v := 2) hx hb dX0_needIn_40 (by decide) ?_
    refine tp_aald hx hb hK hP (9 + 15 * i + 1) 5 (2) (by omega) (tp_hVo i) (by decide) (by decide) (by decide) dX0_needIn_41 ?_
    refine lv_iload_n hx hb dX0_needIn_42 rfl (lv_at hl 2 rfl) ?_
    refine tp_iald hx hb hK hP (9 + 15 * i + 2 + 2) 48 (m0) (by omega) (tp_hV i (f := 2) (by decide)) rfl (by omega) (by decide) dX0_needIn_43 ?_
    refine lv_ldc (v := 60000) hx hb hown (hts _ (List.mem_of_getElem? (i := 2) rfl)) dX0_needIn_44 ?_
    refine va_mmin hx hb (hml.trans hl.1.symm) hown (hts _ (List.mem_of_getElem? (i := 3) rfl)) (hts _ (List.mem_of_getElem? (i := 4) rfl)) (hts _ (List.mem_of_getElem? (i := 5) rfl)) (hts _ (List.mem_of_getElem? (i := 6) rfl)) (Nat.le_of_ble_eq_true rfl) (Nat.le_of_ble_eq_true rfl) (Nat.zero_le _) (Nat.zero_le _) dX0_needIn_46 ?_
    refine lv_iadd hx hb dX0_needIn_49 ?_
    exact tp_reti hx hb hr hlocks hK hP hD hS rfl (by unfold tp_need; rw [if_pos c26_1]) rfl dX0_needIn_50
  · refine lv_iincW (v := ((30000 + ((I (9 + 15 * i + 2 + 1) m0) * 8000)) + 12000)) (lv' := [(2, .int ((30000 + ((I (9 + 15 * i + 2 + 1) m0) * 8000)) + 12000)), (0, .ref (ad (9 + 15 * i))), (1, .int (nI m0))]) hx hb dX0_needIn_29 hl (k := 0) rfl rfl (by decide) rfl (fun ls hl => ?_)
    refine lv_iload_n hx hb dX0_needIn_35 rfl (lv_at hl 0 rfl) ?_
    refine lv_aload_n hx hb dX0_needIn_36 rfl (lv_at hl 1 rfl) ?_
    refine va_get (D := D) (ci := 0) (v := .ref (ad (9 + 15 * i + 1))) (C := RX0) (T := TX0) (N := 9) hx hb hts (fun _ h => List.mem_cons_of_mem _ (List.mem_append_right _ (h))) hown hK hP (9 + 15 * i) (tp_eh hi) rfl 0 (by decide) (hts _ (List.mem_of_getElem? (i := 1) rfl)) (fun _ h9 => h9) rfl dX0_needIn_37 ?_
    refine lv_iconst (v := 2) hx hb dX0_needIn_40 (by decide) ?_
    refine tp_aald hx hb hK hP (9 + 15 * i + 1) 5 (2) (by omega) (tp_hVo i) (by decide) (by decide) (by decide) dX0_needIn_41 ?_
    refine lv_iload_n hx hb dX0_needIn_42 rfl (lv_at hl 2 rfl) ?_
    refine tp_iald hx hb hK hP (9 + 15 * i + 2 + 2) 48 (m0) (by omega) (tp_hV i (f := 2) (by decide)) rfl (by omega) (by decide) dX0_needIn_43 ?_
    refine lv_ldc (v := 60000) hx hb hown (hts _ (List.mem_of_getElem? (i := 2) rfl)) dX0_needIn_44 ?_
    refine va_mmin hx hb (hml.trans hl.1.symm) hown (hts _ (List.mem_of_getElem? (i := 3) rfl)) (hts _ (List.mem_of_getElem? (i := 4) rfl)) (hts _ (List.mem_of_getElem? (i := 5) rfl)) (hts _ (List.mem_of_getElem? (i := 6) rfl)) (Nat.le_of_ble_eq_true rfl) (Nat.le_of_ble_eq_true rfl) (Nat.zero_le _) (Nat.zero_le _) dX0_needIn_46 ?_
    refine lv_iadd hx hb dX0_needIn_49 ?_
    exact tp_reti hx hb hr hlocks hK hP hD hS rfl (by unfold tp_need; rw [if_neg c26_1]) rfl dX0_needIn_50
set_option maxHeartbeats 4000000 in
set_option maxRecDepth 100000 in
/-- taperIn(month) -/
theorem hc_taperIn (l : Launch) (D : va_G) (cy : Nat → ClassId) (n : Nat) (ad : Nat → Nat) (o : Int64) (I : Nat → Nat → Int32) (i : Nat) (hi : i < n) (m0 : Nat) (hm : m0 < 48) : tp_I l yX0_taperIn wsX0_taperIn (tp_rm 1 21) D cy n ad o [.ref (ad (9 + 15 * i)), .int (nI m0)] I (tp_taper I (9 + 15 * i) m0) (I) := by
  refine tp_ofI (lv := [(0, .ref (ad (9 + 15 * i))), (1, .int (nI m0))]) (by decide) rfl (Nat.le_of_ble_eq_true rfl) rfl (fun p e s m args below meth c A ls S0 => ?_)
  obtain ⟨hx, hb, hr, hml, hown, hts, hlocks, hA, hK, hP, hD, hS, hl⟩ := S0
  refine lv_iconst (v := 0) hx hb dX0_taperIn_0 (by decide) ?_
  refine lv_aload_n hx hb dX0_taperIn_1 rfl (lv_at hl 0 rfl) ?_
  refine va_get (D := D) (ci := 0) (v := .ref (ad (9 + 15 * i + 1))) (C := RX0) (T := TX0) (N := 9) hx hb hts (fun _ h => List.mem_cons_of_mem _ (List.mem_append_right _ (h))) hown hK hP (9 + 15 * i) (tp_eh hi) rfl 0 (by decide) (hts _ (List.mem_of_getElem? (i := 1) rfl)) (fun _ h9 => h9) rfl dX0_taperIn_2 ?_
  refine lv_iconst (v := 3) hx hb dX0_taperIn_5 (by decide) ?_
  refine tp_aald hx hb hK hP (9 + 15 * i + 1) 5 (3) (by omega) (tp_hVo i) (by decide) (by decide) (by decide) dX0_taperIn_6 ?_
  refine lv_iload_n hx hb dX0_taperIn_7 rfl (lv_at hl 1 rfl) ?_
  refine tp_iald hx hb hK hP (9 + 15 * i + 2 + 3) 48 (m0) (by omega) (tp_hV i (f := 3) (by decide)) rfl (by omega) (by decide) dX0_taperIn_8 ?_
  refine lv_sipush (v := 20000) hx hb dX0_taperIn_9 (by decide) ?_
  refine lv_isub hx hb dX0_taperIn_12 ?_
  refine va_mmax hx hb (hml.trans hl.1.symm) hown (hts _ (List.mem_of_getElem? (i := 2) rfl)) (hts _ (List.mem_of_getElem? (i := 3) rfl)) (hts _ (List.mem_of_getElem? (i := 4) rfl)) (hts _ (List.mem_of_getElem? (i := 5) rfl)) (Nat.le_of_ble_eq_true rfl) (Nat.le_of_ble_eq_true rfl) (Nat.zero_le _) (Nat.zero_le _) dX0_taperIn_13 ?_
  refine lv_istore_n (lv' := [(2, .int (if 0 < ((I (9 + 15 * i + 2 + 3) m0) - 20000) then ((I (9 + 15 * i + 2 + 3) m0) - 20000) else 0)), (0, .ref (ad (9 + 15 * i))), (1, .int (nI m0))]) hx hb dX0_taperIn_16 rfl hl (by decide) rfl (fun ls hl => ?_)
  refine lv_iload_n hx hb dX0_taperIn_17 rfl (lv_at hl 0 rfl) ?_
  refine lv_bipush (v := 60) hx hb dX0_taperIn_18 (by decide) ?_
  refine lv_imul hx hb dX0_taperIn_20 ?_
  refine lv_bipush (v := 100) hx hb dX0_taperIn_21 (by decide) ?_
  refine lv_idiv hx hb dX0_taperIn_23 (by decide) ?_
  exact tp_reti hx hb hr hlocks hK hP hD hS rfl (by rfl) rfl dX0_taperIn_24
set_option maxHeartbeats 4000000 in
set_option maxRecDepth 100000 in
/-- tariffIn(month) -/
theorem hc_tariffIn (l : Launch) (D : va_G) (cy : Nat → ClassId) (n : Nat) (ad : Nat → Nat) (o : Int64) (I : Nat → Nat → Int32) (i : Nat) (hi : i < n) (m0 : Nat) (hm : m0 < 48) : tp_I l yX0_tariffIn wsX0_tariffIn (tp_rm 1 21) D cy n ad o [.ref (ad (9 + 15 * i)), .int (nI m0)] I (tp_tariff I (9 + 15 * i) m0) (I) := by
  refine tp_ofI (lv := [(0, .ref (ad (9 + 15 * i))), (1, .int (nI m0))]) (by decide) rfl (Nat.le_of_ble_eq_true rfl) rfl (fun p e s m args below meth c A ls S0 => ?_)
  obtain ⟨hx, hb, hr, hml, hown, hts, hlocks, hA, hK, hP, hD, hS, hl⟩ := S0
  refine lv_iconst (v := 0) hx hb dX0_tariffIn_0 (by decide) ?_
  refine lv_aload_n hx hb dX0_tariffIn_1 rfl (lv_at hl 0 rfl) ?_
  refine va_get (D := D) (ci := 0) (v := .ref (ad (9 + 15 * i + 1))) (C := RX0) (T := TX0) (N := 9) hx hb hts (fun _ h => List.mem_cons_of_mem _ (List.mem_append_right _ (h))) hown hK hP (9 + 15 * i) (tp_eh hi) rfl 0 (by decide) (hts _ (List.mem_of_getElem? (i := 1) rfl)) (fun _ h9 => h9) rfl dX0_tariffIn_2 ?_
  refine lv_iconst (v := 4) hx hb dX0_tariffIn_5 (by decide) ?_
  refine tp_aald hx hb hK hP (9 + 15 * i + 1) 5 (4) (by omega) (tp_hVo i) (by decide) (by decide) (by decide) dX0_tariffIn_6 ?_
  refine lv_iload_n hx hb dX0_tariffIn_7 rfl (lv_at hl 1 rfl) ?_
  refine tp_iald hx hb hK hP (9 + 15 * i + 2 + 4) 48 (m0) (by omega) (tp_hV i (f := 4) (by decide)) rfl (by omega) (by decide) dX0_tariffIn_8 ?_
  refine lv_ldc (v := 600000) hx hb hown (hts _ (List.mem_of_getElem? (i := 2) rfl)) dX0_tariffIn_9 ?_
  refine lv_isub hx hb dX0_tariffIn_11 ?_
  refine va_mmax hx hb (hml.trans hl.1.symm) hown (hts _ (List.mem_of_getElem? (i := 3) rfl)) (hts _ (List.mem_of_getElem? (i := 4) rfl)) (hts _ (List.mem_of_getElem? (i := 5) rfl)) (hts _ (List.mem_of_getElem? (i := 6) rfl)) (Nat.le_of_ble_eq_true rfl) (Nat.le_of_ble_eq_true rfl) (Nat.zero_le _) (Nat.zero_le _) dX0_tariffIn_12 ?_
  refine lv_istore_n (lv' := [(2, .int (if 0 < ((I (9 + 15 * i + 2 + 4) m0) - 600000) then ((I (9 + 15 * i + 2 + 4) m0) - 600000) else 0)), (0, .ref (ad (9 + 15 * i))), (1, .int (nI m0))]) hx hb dX0_tariffIn_15 rfl hl (by decide) rfl (fun ls hl => ?_)
  refine lv_iload_n hx hb dX0_tariffIn_16 rfl (lv_at hl 0 rfl) ?_
  refine lv_sipush (v := 25000) hx hb dX0_tariffIn_17 (by decide) ?_
  refine lv_iadd hx hb dX0_tariffIn_20 ?_
  refine lv_iconst (v := 1) hx hb dX0_tariffIn_21 (by decide) ?_
  refine lv_isub hx hb dX0_tariffIn_22 ?_
  refine lv_sipush (v := 25000) hx hb dX0_tariffIn_23 (by decide) ?_
  refine lv_idiv hx hb dX0_tariffIn_26 (by decide) ?_
  refine lv_istore_n (lv' := [(3, .int ((((if 0 < ((I (9 + 15 * i + 2 + 4) m0) - 600000) then ((I (9 + 15 * i + 2 + 4) m0) - 600000) else 0) + 25000) - 1) / 25000)), (2, .int (if 0 < ((I (9 + 15 * i + 2 + 4) m0) - 600000) then ((I (9 + 15 * i + 2 + 4) m0) - 600000) else 0)), (0, .ref (ad (9 + 15 * i))), (1, .int (nI m0))]) hx hb dX0_tariffIn_27 rfl hl (by decide) rfl (fun ls hl => ?_)
  refine lv_iload_n hx hb dX0_tariffIn_28 rfl (lv_at hl 0 rfl) ?_
  refine lv_sipush (v := 500) hx hb dX0_tariffIn_29 (by decide) ?_
  refine lv_imul hx hb dX0_tariffIn_32 ?_
  exact tp_reti hx hb hr hlocks hK hP hD hS rfl (by rfl) rfl dX0_tariffIn_33
set_option maxHeartbeats 4000000 in
set_option maxRecDepth 100000 in
/-- dueIn(month) -/
theorem hc_dueIn (l : Launch) (D : va_G) (cy : Nat → ClassId) (n : Nat) (ad : Nat → Nat) (o : Int64) (I : Nat → Nat → Int32) (i : Nat) (hi : i < n) (m0 : Nat) (hm : m0 < 48) : tp_I l yX0_dueIn wsX0_dueIn (tp_rm 2 44) D cy n ad o [.ref (ad (9 + 15 * i)), .int (nI m0)] I (tp_due I (9 + 15 * i) m0) (I) := by
  refine tp_ofI (lv := [(0, .ref (ad (9 + 15 * i))), (1, .int (nI m0))]) (by decide) rfl (Nat.le_of_ble_eq_true rfl) rfl (fun p e s m args below meth c A ls S0 => ?_)
  obtain ⟨hx, hb, hr, hml, hown, hts, hlocks, hA, hK, hP, hD, hS, hl⟩ := S0
  refine lv_aload_n hx hb dX0_dueIn_0 rfl (lv_at hl 0 rfl) ?_
  refine va_get (D := D) (ci := 0) (v := .ref (ad (9 + 15 * i + 1))) (C := RX0) (T := TX0) (N := 9) hx hb hts (fun _ h => List.mem_cons_of_mem _ (List.mem_append_right _ (h))) hown hK hP (9 + 15 * i) (tp_eh hi) rfl 0 (by decide) (hts _ (List.mem_of_getElem? (i := 1) rfl)) (fun _ h9 => h9) rfl dX0_dueIn_1 ?_
  refine lv_iconst (v := 4) hx hb dX0_dueIn_4 (by decide) ?_
  refine tp_aald hx hb hK hP (9 + 15 * i + 1) 5 (4) (by omega) (tp_hVo i) (by decide) (by decide) (by decide) dX0_dueIn_5 ?_
  refine lv_iload_n hx hb dX0_dueIn_6 rfl (lv_at hl 1 rfl) ?_
  refine tp_iald hx hb hK hP (9 + 15 * i + 2 + 4) 48 (m0) (by omega) (tp_hV i (f := 4) (by decide)) rfl (by omega) (by decide) dX0_dueIn_7 ?_
  refine lv_ldc (v := 1600000) hx hb hown (hts _ (List.mem_of_getElem? (i := 2) rfl)) dX0_dueIn_8 ?_
  refine lv_icmp_le (tgt := 15) hx hb dX0_dueIn_10 (by decide) (fun c10_1 => ?_) (fun c10_1 => ?_)
  · refine lv_aload_n hx hb dX0_dueIn_15 rfl (lv_at hl 0 rfl) ?_
    refine lv_iload_n hx hb dX0_dueIn_16 rfl (lv_at hl 1 rfl) ?_
    refine tp_callV ⟨hx, hb, hml, hown, hts⟩ (hc_needIn l D cy n ad o I i hi m0 (by omega)) (cwV 1 hts gX0_dueIn_X0_needIn rfl rfl rfl (by decide +kernel) ⟨Nat.le_of_ble_eq_true rfl, Nat.le_of_ble_eq_true rfl⟩) hK hP hD hS hA (9 + 15 * i) 0 (tp_eh hi) rfl rfl rfl hl.1 rfl (Nat.le_of_ble_eq_true rfl) dX0_dueIn_17 ⟨Nat.zero_le _, Nat.zero_le _⟩ (fun I9 e9 H locs hP hD hS => ?_)
    subst e9
    refine lv_aload_n hx hb dX0_dueIn_20 rfl (lv_at hl 0 rfl) ?_
    refine lv_iload_n hx hb dX0_dueIn_21 rfl (lv_at hl 1 rfl) ?_
    refine tp_callV ⟨hx, hb, hml, hown, hts⟩ (hc_taperIn l D cy n ad o I i hi m0 (by omega)) (cwV 1 hts gX0_dueIn_X0_taperIn rfl rfl rfl (by decide +kernel) ⟨Nat.le_of_ble_eq_true rfl, Nat.le_of_ble_eq_true rfl⟩) hK hP hD hS hA (9 + 15 * i) 0 (tp_eh hi) rfl rfl rfl hl.1 rfl (Nat.le_of_ble_eq_true rfl) dX0_dueIn_22 ⟨Nat.zero_le _, Nat.zero_le _⟩ (fun I9 e9 H locs hP hD hS => ?_)
    subst e9
    refine lv_isub hx hb dX0_dueIn_25 ?_
    refine lv_aload_n hx hb dX0_dueIn_26 rfl (lv_at hl 0 rfl) ?_
    refine lv_iload_n hx hb dX0_dueIn_27 rfl (lv_at hl 1 rfl) ?_
    refine tp_callV ⟨hx, hb, hml, hown, hts⟩ (hc_tariffIn l D cy n ad o I i hi m0 (by omega)) (cwV 1 hts gX0_dueIn_X0_tariffIn rfl rfl rfl (by decide +kernel) ⟨Nat.le_of_ble_eq_true rfl, Nat.le_of_ble_eq_true rfl⟩) hK hP hD hS hA (9 + 15 * i) 0 (tp_eh hi) rfl rfl rfl hl.1 rfl (Nat.le_of_ble_eq_true rfl) dX0_dueIn_28 ⟨Nat.zero_le _, Nat.zero_le _⟩ (fun I9 e9 H locs hP hD hS => ?_)
    subst e9
    refine lv_isub hx hb dX0_dueIn_31 ?_
    refine lv_istore_n (lv' := [(2, .int (((tp_need I (9 + 15 * i) m0) - (tp_taper I (9 + 15 * i) m0)) - (tp_tariff I (9 + 15 * i) m0))), (0, .ref (ad (9 + 15 * i))), (1, .int (nI m0))]) hx hb dX0_dueIn_32 rfl hl (by decide) rfl (fun ls hl => ?_)
    refine lv_iload_n hx hb dX0_dueIn_33 rfl (lv_at hl 0 rfl) ?_
    refine lv_sipush (v := 500) hx hb dX0_dueIn_34 (by decide) ?_
    refine lv_icmp_ge (tgt := 44) hx hb dX0_dueIn_37 (by decide) (fun c37_2 => ?_) (fun c37_2 => ?_)
    · refine lv_iload_n hx hb dX0_dueIn_44 rfl (lv_at hl 0 rfl) ?_
      exact tp_reti hx hb hr hlocks hK hP hD hS rfl (by unfold tp_due; rw [if_pos c10_1, if_pos c37_2]) rfl dX0_dueIn_45
    · refine lv_iconst (v := 0) hx hb dX0_dueIn_40 (by decide) ?_
      refine lv_goto (tgt := 45) hx hb dX0_dueIn_41 (by decide) ?_
      exact tp_reti hx hb hr hlocks hK hP hD hS rfl (by unfold tp_due; rw [if_pos c10_1, if_neg c37_2]) rfl dX0_dueIn_45
  · refine lv_iconst (v := 0) hx hb dX0_dueIn_13 (by decide) ?_
    exact tp_reti hx hb hr hlocks hK hP hD hS rfl (by unfold tp_due; rw [if_neg c10_1]) rfl dX0_dueIn_14
set_option maxHeartbeats 4000000 in
set_option maxRecDepth 100000 in
/-- unassessedBefore(end) -/
theorem hc_unassessedBefore (l : Launch) (D : va_G) (cy : Nat → ClassId) (n : Nat) (ad : Nat → Nat) (o : Int64) (I : Nat → Nat → Int32) (i : Nat) (hi : i < n) (a0 e0 : Nat) (ha : I (9 + 15 * i) 3 = nI a0) (ha8 : a0 ≤ 48) (he8 : e0 ≤ 48) : tp_I l yX0_unassessedBefore wsX0_unassessedBefore (tp_rm 3 66) D cy n ad o [.ref (ad (9 + 15 * i)), .int (nI e0)] I (tp_open I (9 + 15 * i) a0 e0) (I) := by
  refine tp_ofI (lv := [(0, .ref (ad (9 + 15 * i))), (1, .int (nI e0))]) (by decide) rfl (Nat.le_of_ble_eq_true rfl) rfl (fun p e s m args below meth c A ls S0 => ?_)
  obtain ⟨hx, hb, hr, hml, hown, hts, hlocks, hA, hK, hP, hD, hS, hl⟩ := S0
  refine lv_iconst (v := 0) hx hb dX0_unassessedBefore_0 (by decide) ?_
  refine lv_istore_n (lv' := [(2, .int 0), (0, .ref (ad (9 + 15 * i))), (1, .int (nI e0))]) hx hb dX0_unassessedBefore_1 rfl hl (by decide) rfl (fun ls hl => ?_)
  refine lv_aload_n hx hb dX0_unassessedBefore_2 rfl (lv_at hl 1 rfl) ?_
  refine va_get (D := D) (ci := 0) (v := .int (I (9 + 15 * i) 3)) (C := RX0) (T := TX0) (N := 9) hx hb hts (fun _ h => List.mem_cons_of_mem _ (List.mem_append_right _ (h))) hown hK hP (9 + 15 * i) (tp_eh hi) rfl 3 (by decide) (hts _ (List.mem_of_getElem? (i := 1) rfl)) (fun _ h9 => h9) rfl dX0_unassessedBefore_3 ?_
  rw [ha]
  refine lv_istore_n (lv' := [(3, .int (nI a0)), (2, .int 0), (0, .ref (ad (9 + 15 * i))), (1, .int (nI e0))]) hx hb dX0_unassessedBefore_6 rfl hl (by decide) rfl (fun ls hl => ?_)
  refine tp_for (nL := 4) (e0 - a0) (fun _ => I) (fun t => [(3, .int (nI (a0 + t))), (2, .int (tp_sum (fun m => tp_due I (9 + 15 * i) m - I (9 + 15 * i + 13) m) a0 t)), (0, .ref (ad (9 + 15 * i))), (1, .int (nI e0))]) (fun t ht ls H locs hl hP hD hS ih => ?_) (fun ls H locs hl hP hD hS => ?_) hl hP hD hS
  · refine lv_iload_n hx hb dX0_unassessedBefore_7 rfl (lv_at hl 0 rfl) ?_
    refine lv_iload_n hx hb dX0_unassessedBefore_8 rfl (lv_at hl 3 rfl) ?_
    refine lv_icmp_ge (tgt := 33) hx hb dX0_unassessedBefore_9 (by decide) (fun c9_1 => ?_) (fun c9_1 => ?_)
    · exact absurd c9_1 (nI_ge (by omega) (by omega))
    · refine lv_iload_n hx hb dX0_unassessedBefore_12 rfl (lv_at hl 1 rfl) ?_
      refine lv_aload_n hx hb dX0_unassessedBefore_13 rfl (lv_at hl 2 rfl) ?_
      refine lv_iload_n hx hb dX0_unassessedBefore_14 rfl (lv_at hl 0 rfl) ?_
      refine tp_callV ⟨hx, hb, hml, hown, hts⟩ (hc_dueIn l D cy n ad o I i hi (a0 + t) (by omega)) (cwV 1 hts gX0_unassessedBefore_X0_dueIn rfl rfl rfl (by decide +kernel) ⟨Nat.le_of_ble_eq_true rfl, Nat.le_of_ble_eq_true rfl⟩) hK hP hD hS hA (9 + 15 * i) 0 (tp_eh hi) rfl rfl rfl hl.1 rfl (Nat.le_of_ble_eq_true rfl) dX0_unassessedBefore_15 ⟨Nat.zero_le _, Nat.zero_le _⟩ (fun I9 e9 H locs hP hD hS => ?_)
      subst e9
      refine lv_aload_n hx hb dX0_unassessedBefore_18 rfl (lv_at hl 2 rfl) ?_
      refine va_get (D := D) (ci := 0) (v := .ref (ad (9 + 15 * i + 13))) (C := RX0) (T := TX0) (N := 9) hx hb hts (fun _ h => List.mem_cons_of_mem _ (List.mem_append_right _ (h))) hown hK hP (9 + 15 * i) (tp_eh hi) rfl 4 (by decide) (hts _ (List.mem_of_getElem? (i := 2) rfl)) (fun _ h9 => h9) rfl dX0_unassessedBefore_19 ?_
      refine lv_iload_n hx hb dX0_unassessedBefore_22 rfl (lv_at hl 0 rfl) ?_
      refine tp_iald hx hb hK hP (9 + 15 * i + 13) 48 ((a0 + t)) (by omega) (tp_hA i) rfl (by omega) (by decide) dX0_unassessedBefore_23 ?_
      refine lv_isub hx hb dX0_unassessedBefore_24 ?_
      refine lv_iadd hx hb dX0_unassessedBefore_25 ?_
      refine lv_istore_n (lv' := [(2, .int ((tp_sum (fun m => tp_due I (9 + 15 * i) m - I (9 + 15 * i + 13) m) a0 t) + ((tp_due I (9 + 15 * i) (a0 + t)) - (I (9 + 15 * i + 13) (a0 + t))))), (3, .int (nI (a0 + t))), (0, .ref (ad (9 + 15 * i))), (1, .int (nI e0))]) hx hb dX0_unassessedBefore_26 rfl hl (by decide) rfl (fun ls hl => ?_)
      refine lv_iinc (v := (nI ((a0 + t) + 1))) (lv' := [(3, .int (nI ((a0 + t) + 1))), (2, .int ((tp_sum (fun m => tp_due I (9 + 15 * i) m - I (9 + 15 * i + 13) m) a0 t) + ((tp_due I (9 + 15 * i) (a0 + t)) - (I (9 + 15 * i + 13) (a0 + t))))), (0, .ref (ad (9 + 15 * i))), (1, .int (nI e0))]) hx hb dX0_unassessedBefore_27 hl (k := 1) rfl (nI_1 _) (by decide) rfl (fun ls hl => ?_)
      refine lv_goto (tgt := 7) hx hb dX0_unassessedBefore_30 (by decide) ?_
      exact ih ls H locs (lv_sub hl [0, 1, 2, 3] rfl) hP hD hS
  · refine lv_iload_n hx hb dX0_unassessedBefore_7 rfl (lv_at hl 0 rfl) ?_
    refine lv_iload_n hx hb dX0_unassessedBefore_8 rfl (lv_at hl 3 rfl) ?_
    refine lv_icmp_ge (tgt := 33) hx hb dX0_unassessedBefore_9 (by decide) (fun c9_1 => ?_) (fun c9_1 => ?_)
    · refine lv_iload_n hx hb dX0_unassessedBefore_33 rfl (lv_at hl 1 rfl) ?_
      exact tp_reti hx hb hr hlocks hK hP hD hS rfl rfl rfl dX0_unassessedBefore_34
    · exact absurd (nI_le (by omega) (by omega)) c9_1
set_option maxHeartbeats 4000000 in
set_option maxRecDepth 100000 in
/-- owedAfter -/
theorem hc_owedAfter (l : Launch) (D : va_G) (cy : Nat → ClassId) (n : Nat) (ad : Nat → Nat) (o : Int64) (I : Nat → Nat → Int32) (i : Nat) (hi : i < n) (x : Int32) : tp_I l yX0_owedAfter wsX0_owedAfter (tp_rm 1 21) D cy n ad o [.ref (ad (9 + 15 * i)), .int x] I (tp_owed I (9 + 15 * i) x) (I) := by
  refine tp_ofI (lv := [(0, .ref (ad (9 + 15 * i))), (1, .int x)]) (by decide) rfl (Nat.le_of_ble_eq_true rfl) rfl (fun p e s m args below meth c A ls S0 => ?_)
  obtain ⟨hx, hb, hr, hml, hown, hts, hlocks, hA, hK, hP, hD, hS, hl⟩ := S0
  refine lv_iconst (v := 0) hx hb dX0_owedAfter_0 (by decide) ?_
  refine lv_aload_n hx hb dX0_owedAfter_1 rfl (lv_at hl 0 rfl) ?_
  refine va_get (D := D) (ci := 0) (v := .int (I (9 + 15 * i) 6)) (C := RX0) (T := TX0) (N := 9) hx hb hts (fun _ h => List.mem_cons_of_mem _ (List.mem_append_right _ (h))) hown hK hP (9 + 15 * i) (tp_eh hi) rfl 6 (by decide) (hts _ (List.mem_of_getElem? (i := 1) rfl)) (fun _ h9 => h9) rfl dX0_owedAfter_2 ?_
  refine lv_iload_n hx hb dX0_owedAfter_5 rfl (lv_at hl 1 rfl) ?_
  refine lv_isub hx hb dX0_owedAfter_6 ?_
  refine va_mmax hx hb (hml.trans hl.1.symm) hown (hts _ (List.mem_of_getElem? (i := 2) rfl)) (hts _ (List.mem_of_getElem? (i := 3) rfl)) (hts _ (List.mem_of_getElem? (i := 4) rfl)) (hts _ (List.mem_of_getElem? (i := 5) rfl)) (Nat.le_of_ble_eq_true rfl) (Nat.le_of_ble_eq_true rfl) (Nat.zero_le _) (Nat.zero_le _) dX0_owedAfter_7 ?_
  exact tp_reti hx hb hr hlocks hK hP hD hS rfl rfl rfl dX0_owedAfter_10
set_option maxHeartbeats 4000000 in
set_option maxRecDepth 100000 in
/-- arrearsOf -/
theorem hc_arrearsOf (l : Launch) (D : va_G) (cy : Nat → ClassId) (n : Nat) (ad : Nat → Nat) (o : Int64) (I : Nat → Nat → Int32) (i : Nat) (hi : i < n) (x : Int32) : tp_I l yX0_arrearsOf wsX0_arrearsOf (tp_rm 1 21) D cy n ad o [.ref (ad (9 + 15 * i)), .int x] I (tp_arr I (9 + 15 * i) x) (I) := by
  refine tp_ofI (lv := [(0, .ref (ad (9 + 15 * i))), (1, .int x)]) (by decide) rfl (Nat.le_of_ble_eq_true rfl) rfl (fun p e s m args below meth c A ls S0 => ?_)
  obtain ⟨hx, hb, hr, hml, hown, hts, hlocks, hA, hK, hP, hD, hS, hl⟩ := S0
  refine lv_iconst (v := 0) hx hb dX0_arrearsOf_0 (by decide) ?_
  refine lv_iload_n hx hb dX0_arrearsOf_1 rfl (lv_at hl 1 rfl) ?_
  refine lv_aload_n hx hb dX0_arrearsOf_2 rfl (lv_at hl 0 rfl) ?_
  refine va_get (D := D) (ci := 0) (v := .int (I (9 + 15 * i) 6)) (C := RX0) (T := TX0) (N := 9) hx hb hts (fun _ h => List.mem_cons_of_mem _ (List.mem_append_right _ (h))) hown hK hP (9 + 15 * i) (tp_eh hi) rfl 6 (by decide) (hts _ (List.mem_of_getElem? (i := 1) rfl)) (fun _ h9 => h9) rfl dX0_arrearsOf_3 ?_
  refine lv_isub hx hb dX0_arrearsOf_6 ?_
  refine va_mmax hx hb (hml.trans hl.1.symm) hown (hts _ (List.mem_of_getElem? (i := 2) rfl)) (hts _ (List.mem_of_getElem? (i := 3) rfl)) (hts _ (List.mem_of_getElem? (i := 4) rfl)) (hts _ (List.mem_of_getElem? (i := 5) rfl)) (Nat.le_of_ble_eq_true rfl) (Nat.le_of_ble_eq_true rfl) (Nat.zero_le _) (Nat.zero_le _) dX0_arrearsOf_7 ?_
  exact tp_reti hx hb hr hlocks hK hP hD hS rfl rfl rfl dX0_arrearsOf_10
set_option maxHeartbeats 4000000 in
set_option maxRecDepth 100000 in
/-- recoverableIn(month, owed) -/
theorem hc_recoverableIn (l : Launch) (D : va_G) (cy : Nat → ClassId) (n : Nat) (ad : Nat → Nat) (o : Int64) (I : Nat → Nat → Int32) (i : Nat) (hi : i < n) (m0 : Nat) (hm : m0 < 48) (x : Int32) : tp_I l yX0_recoverableIn wsX0_recoverableIn (tp_rm 3 66) D cy n ad o [.ref (ad (9 + 15 * i)), .int (nI m0), .int x] I (tp_rec I (9 + 15 * i) m0 x) (I) := by
  refine tp_ofI (lv := [(0, .ref (ad (9 + 15 * i))), (1, .int (nI m0)), (2, .int x)]) (by decide) rfl (Nat.le_of_ble_eq_true rfl) rfl (fun p e s m args below meth c A ls S0 => ?_)
  obtain ⟨hx, hb, hr, hml, hown, hts, hlocks, hA, hK, hP, hD, hS, hl⟩ := S0
  refine lv_aload_n hx hb dX0_recoverableIn_0 rfl (lv_at hl 0 rfl) ?_
  refine va_get (D := D) (ci := 0) (v := .int (I (9 + 15 * i) 8)) (C := RX0) (T := TX0) (N := 9) hx hb hts (fun _ h => List.mem_cons_of_mem _ (List.mem_append_right _ (h))) hown hK hP (9 + 15 * i) (tp_eh hi) rfl 8 (by decide) (hts _ (List.mem_of_getElem? (i := 1) rfl)) (fun _ h9 => h9) rfl dX0_recoverableIn_1 ?_
  refine lv_if_eq (tgt := 9) hx hb dX0_recoverableIn_4 (by decide) (fun c4_1 => ?_) (fun c4_1 => ?_)
  · refine lv_aload_n hx hb dX0_recoverableIn_9 rfl (lv_at hl 0 rfl) ?_
    refine lv_iload_n hx hb dX0_recoverableIn_10 rfl (lv_at hl 1 rfl) ?_
    refine tp_callV ⟨hx, hb, hml, hown, hts⟩ (hc_dueIn l D cy n ad o I i hi m0 (by omega)) (cwV 1 hts gX0_recoverableIn_X0_dueIn rfl rfl rfl (by decide +kernel) ⟨Nat.le_of_ble_eq_true rfl, Nat.le_of_ble_eq_true rfl⟩) hK hP hD hS hA (9 + 15 * i) 0 (tp_eh hi) rfl rfl rfl hl.1 rfl (Nat.le_of_ble_eq_true rfl) dX0_recoverableIn_11 ⟨Nat.zero_le _, Nat.zero_le _⟩ (fun I9 e9 H locs hP hD hS => ?_)
    subst e9
    refine lv_istore_n (lv' := [(3, .int (tp_due I (9 + 15 * i) m0)), (0, .ref (ad (9 + 15 * i))), (1, .int (nI m0)), (2, .int x)]) hx hb dX0_recoverableIn_14 rfl hl (by decide) rfl (fun ls hl => ?_)
    refine lv_iload_n hx hb dX0_recoverableIn_15 rfl (lv_at hl 0 rfl) ?_
    refine lv_bipush (v := 15) hx hb dX0_recoverableIn_16 (by decide) ?_
    refine lv_imul hx hb dX0_recoverableIn_18 ?_
    refine lv_bipush (v := 100) hx hb dX0_recoverableIn_19 (by decide) ?_
    refine lv_idiv hx hb dX0_recoverableIn_21 (by decide) ?_
    refine lv_istore (lv' := [(4, .int (((tp_due I (9 + 15 * i) m0) * 15) / 100)), (3, .int (tp_due I (9 + 15 * i) m0)), (0, .ref (ad (9 + 15 * i))), (1, .int (nI m0)), (2, .int x)]) hx hb dX0_recoverableIn_22 hl (by decide) rfl (fun ls hl => ?_)
    refine lv_iconst (v := 0) hx hb dX0_recoverableIn_24 (by decide) ?_
    refine lv_iload_n hx hb dX0_recoverableIn_25 rfl (lv_at hl 1 rfl) ?_
    refine lv_aload_n hx hb dX0_recoverableIn_26 rfl (lv_at hl 2 rfl) ?_
    refine va_get (D := D) (ci := 0) (v := .ref (ad (9 + 15 * i + 1))) (C := RX0) (T := TX0) (N := 9) hx hb hts (fun _ h => List.mem_cons_of_mem _ (List.mem_append_right _ (h))) hown hK hP (9 + 15 * i) (tp_eh hi) rfl 0 (by decide) (hts _ (List.mem_of_getElem? (i := 2) rfl)) (fun _ h9 => h9) rfl dX0_recoverableIn_27 ?_
    refine lv_iconst (v := 3) hx hb dX0_recoverableIn_30 (by decide) ?_
    refine tp_aald hx hb hK hP (9 + 15 * i + 1) 5 (3) (by omega) (tp_hVo i) (by decide) (by decide) (by decide) dX0_recoverableIn_31 ?_
    refine lv_iload_n hx hb dX0_recoverableIn_32 rfl (lv_at hl 3 rfl) ?_
    refine tp_iald hx hb hK hP (9 + 15 * i + 2 + 3) 48 (m0) (by omega) (tp_hV i (f := 3) (by decide)) rfl (by omega) (by decide) dX0_recoverableIn_33 ?_
    refine lv_iadd hx hb dX0_recoverableIn_34 ?_
    refine lv_sipush (v := 25000) hx hb dX0_recoverableIn_35 (by decide) ?_
    refine lv_isub hx hb dX0_recoverableIn_38 ?_
    refine va_mmax hx hb (hml.trans hl.1.symm) hown (hts _ (List.mem_of_getElem? (i := 3) rfl)) (hts _ (List.mem_of_getElem? (i := 4) rfl)) (hts _ (List.mem_of_getElem? (i := 5) rfl)) (hts _ (List.mem_of_getElem? (i := 6) rfl)) (Nat.le_of_ble_eq_true rfl) (Nat.le_of_ble_eq_true rfl) (Nat.zero_le _) (Nat.zero_le _) dX0_recoverableIn_39 ?_
    refine lv_istore (lv' := [(5, .int (if 0 < (((tp_due I (9 + 15 * i) m0) + (I (9 + 15 * i + 2 + 3) m0)) - 25000) then (((tp_due I (9 + 15 * i) m0) + (I (9 + 15 * i + 2 + 3) m0)) - 25000) else 0)), (4, .int (((tp_due I (9 + 15 * i) m0) * 15) / 100)), (3, .int (tp_due I (9 + 15 * i) m0)), (0, .ref (ad (9 + 15 * i))), (1, .int (nI m0)), (2, .int x)]) hx hb dX0_recoverableIn_42 hl (by decide) rfl (fun ls hl => ?_)
    refine lv_iload_n hx hb dX0_recoverableIn_44 rfl (lv_at hl 5 rfl) ?_
    refine lv_iload hx hb dX0_recoverableIn_45 (lv_at hl 1 rfl) ?_
    refine lv_iload hx hb dX0_recoverableIn_47 (lv_at hl 0 rfl) ?_
    refine va_mmin hx hb (hml.trans hl.1.symm) hown (hts _ (List.mem_of_getElem? (i := 7) rfl)) (hts _ (List.mem_of_getElem? (i := 8) rfl)) (hts _ (List.mem_of_getElem? (i := 5) rfl)) (hts _ (List.mem_of_getElem? (i := 9) rfl)) (Nat.le_of_ble_eq_true rfl) (Nat.le_of_ble_eq_true rfl) (Nat.zero_le _) (Nat.zero_le _) dX0_recoverableIn_49 ?_
    refine va_mmin hx hb (hml.trans hl.1.symm) hown (hts _ (List.mem_of_getElem? (i := 7) rfl)) (hts _ (List.mem_of_getElem? (i := 8) rfl)) (hts _ (List.mem_of_getElem? (i := 5) rfl)) (hts _ (List.mem_of_getElem? (i := 9) rfl)) (Nat.le_of_ble_eq_true rfl) (Nat.le_of_ble_eq_true rfl) (Nat.zero_le _) (Nat.zero_le _) dX0_recoverableIn_52 ?_
    exact tp_reti hx hb hr hlocks hK hP hD hS rfl (by unfold tp_rec; rw [if_pos c4_1]; rfl) rfl dX0_recoverableIn_55
  · refine lv_iconst (v := 0) hx hb dX0_recoverableIn_7 (by decide) ?_
    exact tp_reti hx hb hr hlocks hK hP hD hS rfl (by unfold tp_rec; rw [if_neg c4_1]) rfl dX0_recoverableIn_8
set_option maxHeartbeats 4000000 in
set_option maxRecDepth 100000 in
/-- paymentIn(month) -/
theorem hc_paymentIn (l : Launch) (D : va_G) (cy : Nat → ClassId) (n : Nat) (ad : Nat → Nat) (o : Int64) (I : Nat → Nat → Int32) (i : Nat) (hi : i < n) (a0 m0 : Nat) (ha : I (9 + 15 * i) 3 = nI a0) (ha8 : a0 ≤ 48) (hm : m0 < 48) : tp_I l yX0_paymentIn wsX0_paymentIn (tp_rm 4 91) D cy n ad o [.ref (ad (9 + 15 * i)), .int (nI m0)] I (tp_paym I (9 + 15 * i) a0 m0) (I) := by
  refine tp_ofI (lv := [(0, .ref (ad (9 + 15 * i))), (1, .int (nI m0))]) (by decide) rfl (Nat.le_of_ble_eq_true rfl) rfl (fun p e s m args below meth c A ls S0 => ?_)
  obtain ⟨hx, hb, hr, hml, hown, hts, hlocks, hA, hK, hP, hD, hS, hl⟩ := S0
  refine lv_aload_n hx hb dX0_paymentIn_0 rfl (lv_at hl 0 rfl) ?_
  refine lv_iload_n hx hb dX0_paymentIn_1 rfl (lv_at hl 1 rfl) ?_
  refine tp_callV ⟨hx, hb, hml, hown, hts⟩ (hc_unassessedBefore l D cy n ad o I i hi a0 m0 ha (by omega) (by omega)) (cwV 1 hts gX0_paymentIn_X0_unassessedBefore rfl rfl rfl (by decide +kernel) ⟨Nat.le_of_ble_eq_true rfl, Nat.le_of_ble_eq_true rfl⟩) hK hP hD hS hA (9 + 15 * i) 0 (tp_eh hi) rfl rfl rfl hl.1 rfl (Nat.le_of_ble_eq_true rfl) dX0_paymentIn_2 ⟨Nat.zero_le _, Nat.zero_le _⟩ (fun I9 e9 H locs hP hD hS => ?_)
  subst e9
  refine lv_istore_n (lv' := [(2, .int (tp_open I (9 + 15 * i) a0 m0)), (0, .ref (ad (9 + 15 * i))), (1, .int (nI m0))]) hx hb dX0_paymentIn_5 rfl hl (by decide) rfl (fun ls hl => ?_)
  refine lv_aload_n hx hb dX0_paymentIn_6 rfl (lv_at hl 1 rfl) ?_
  refine lv_iload_n hx hb dX0_paymentIn_7 rfl (lv_at hl 2 rfl) ?_
  refine lv_aload_n hx hb dX0_paymentIn_8 rfl (lv_at hl 1 rfl) ?_
  refine lv_iload_n hx hb dX0_paymentIn_9 rfl (lv_at hl 0 rfl) ?_
  refine tp_callV ⟨hx, hb, hml, hown, hts⟩ (hc_owedAfter l D cy n ad o I i hi (tp_open I (9 + 15 * i) a0 m0)) (cwV 1 hts gX0_paymentIn_X0_owedAfter rfl rfl rfl (by decide +kernel) ⟨Nat.le_of_ble_eq_true rfl, Nat.le_of_ble_eq_true rfl⟩) hK hP hD hS hA (9 + 15 * i) 0 (tp_eh hi) rfl rfl rfl hl.1 rfl (Nat.le_of_ble_eq_true rfl) dX0_paymentIn_10 ⟨Nat.zero_le _, Nat.zero_le _⟩ (fun I9 e9 H locs hP hD hS => ?_)
  subst e9
  refine tp_callV ⟨hx, hb, hml, hown, hts⟩ (hc_recoverableIn l D cy n ad o I i hi m0 (by omega) (tp_owed I (9 + 15 * i) (tp_open I (9 + 15 * i) a0 m0))) (cwV 2 hts gX0_paymentIn_X0_recoverableIn rfl rfl rfl (by decide +kernel) ⟨Nat.le_of_ble_eq_true rfl, Nat.le_of_ble_eq_true rfl⟩) hK hP hD hS hA (9 + 15 * i) 0 (tp_eh hi) rfl rfl rfl hl.1 rfl (Nat.le_of_ble_eq_true rfl) dX0_paymentIn_13 ⟨Nat.zero_le _, Nat.zero_le _⟩ (fun I9 e9 H locs hP hD hS => ?_)
  subst e9
  refine lv_istore_n (lv' := [(3, .int (tp_rec I (9 + 15 * i) m0 (tp_owed I (9 + 15 * i) (tp_open I (9 + 15 * i) a0 m0)))), (2, .int (tp_open I (9 + 15 * i) a0 m0)), (0, .ref (ad (9 + 15 * i))), (1, .int (nI m0))]) hx hb dX0_paymentIn_16 rfl hl (by decide) rfl (fun ls hl => ?_)
  refine lv_aload_n hx hb dX0_paymentIn_17 rfl (lv_at hl 2 rfl) ?_
  refine lv_iload_n hx hb dX0_paymentIn_18 rfl (lv_at hl 3 rfl) ?_
  refine tp_callV ⟨hx, hb, hml, hown, hts⟩ (hc_dueIn l D cy n ad o I i hi m0 (by omega)) (cwV 1 hts gX0_paymentIn_X0_dueIn rfl rfl rfl (by decide +kernel) ⟨Nat.le_of_ble_eq_true rfl, Nat.le_of_ble_eq_true rfl⟩) hK hP hD hS hA (9 + 15 * i) 0 (tp_eh hi) rfl rfl rfl hl.1 rfl (Nat.le_of_ble_eq_true rfl) dX0_paymentIn_19 ⟨Nat.zero_le _, Nat.zero_le _⟩ (fun I9 e9 H locs hP hD hS => ?_)
  subst e9
  refine lv_iload_n hx hb dX0_paymentIn_22 rfl (lv_at hl 0 rfl) ?_
  refine lv_isub hx hb dX0_paymentIn_23 ?_
  refine lv_aload_n hx hb dX0_paymentIn_24 rfl (lv_at hl 2 rfl) ?_
  refine lv_iload_n hx hb dX0_paymentIn_25 rfl (lv_at hl 1 rfl) ?_
  refine tp_callV ⟨hx, hb, hml, hown, hts⟩ (hc_arrearsOf l D cy n ad o I i hi (tp_open I (9 + 15 * i) a0 m0)) (cwV 1 hts gX0_paymentIn_X0_arrearsOf rfl rfl rfl (by decide +kernel) ⟨Nat.le_of_ble_eq_true rfl, Nat.le_of_ble_eq_true rfl⟩) hK hP hD hS hA (9 + 15 * i) 0 (tp_eh hi) rfl rfl rfl hl.1 rfl (Nat.le_of_ble_eq_true rfl) dX0_paymentIn_26 ⟨Nat.zero_le _, Nat.zero_le _⟩ (fun I9 e9 H locs hP hD hS => ?_)
  subst e9
  refine lv_iadd hx hb dX0_paymentIn_29 ?_
  exact tp_reti hx hb hr hlocks hK hP hD hS rfl rfl rfl dX0_paymentIn_30
