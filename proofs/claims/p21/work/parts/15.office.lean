theorem tp_ix {x : Int32} {N : Nat} (hN : N < 2 ^ 31) (h : ¬ x < 0) (h2 : x < nI N) : ∃ j : Nat, j < N ∧ x = nI j := by
  rcases pk_ix x hN with q | q | q
  · exact absurd q h
  · exact absurd (Int32.lt_iff_toInt_lt.mp h2) (by have := Int32.le_iff_toInt_le.mp q; omega)
  · exact q
set_option maxHeartbeats 4000000 in
set_option maxRecDepth 100000 in
/-- existing(number): a household -/
theorem oc_existing (l : Launch) (D : va_G) (cy : Nat → ClassId) (n : Nat) (ad : Nat → Nat) (o : Int64) (I : Nat → Nat → Int32) (i : Nat) (hi : i < n) (hn6 : n ≤ 6) : tp_R l yX1_existing wsX1_existing (tp_rm 0 0) D cy n ad o [.ref (ad (0)), .int (nI i)] I (9 + 15 * i) := by
  refine tp_ofR (lv := [(0, .ref (ad (0))), (1, .int (nI i))]) (by decide) rfl (Nat.le_of_ble_eq_true rfl) rfl (fun p e s m args below meth c A ls S0 => ?_)
  obtain ⟨hx, hb, hr, hml, hown, hts, hlocks, hA, hK, hP, hD, hS, hl⟩ := S0
  refine lv_iload_n hx hb dX1_existing_0 rfl (lv_at hl 1 rfl) ?_
  refine lv_if_lt (tgt := 13) hx hb dX1_existing_1 (by decide) (fun c1_1 => ?_) (fun c1_1 => ?_)
  · exact absurd c1_1 (nI_pos (by omega))
  · refine lv_iload_n hx hb dX1_existing_4 rfl (lv_at hl 1 rfl) ?_
    refine lv_aload_n hx hb dX1_existing_5 rfl (lv_at hl 0 rfl) ?_
    refine va_get (D := D) (ci := 1) (v := .ref (ad (1))) (C := RX1) (T := TX1) (N := 3) hx hb hts (fun _ h => List.mem_cons_of_mem _ (List.mem_append_left _ (List.mem_append_right _ (h)))) hown hK hP 0 tp_e0 rfl 0 (by decide) (hts _ (List.mem_of_getElem? (i := 3) rfl)) (fun _ h9 => h9) rfl dX1_existing_6 ?_
    refine tp_rlen hx hb hK hP dX1_existing_9 ?_
    refine lv_icmp_lt (tgt := 23) hx hb dX1_existing_10 (by decide) (fun c10_2 => ?_) (fun c10_2 => ?_)
    · refine lv_aload_n hx hb dX1_existing_23 rfl (lv_at hl 0 rfl) ?_
      refine va_get (D := D) (ci := 1) (v := .ref (ad (1))) (C := RX1) (T := TX1) (N := 3) hx hb hts (fun _ h => List.mem_cons_of_mem _ (List.mem_append_left _ (List.mem_append_right _ (h)))) hown hK hP 0 tp_e0 rfl 0 (by decide) (hts _ (List.mem_of_getElem? (i := 3) rfl)) (fun _ h9 => h9) rfl dX1_existing_24 ?_
      refine lv_iload_n hx hb dX1_existing_27 rfl (lv_at hl 1 rfl) ?_
      refine tp_rald hx hb hK hP i hi (by omega) rfl dX1_existing_28 ?_
      refine lv_astore_n (lv' := [(2, .ref (ad (9 + 15 * i))), (0, .ref (ad (0))), (1, .int (nI i))]) hx hb dX1_existing_29 rfl hl (by decide) rfl (fun ls hl => ?_)
      refine lv_aload_n hx hb dX1_existing_30 rfl (lv_at hl 0 rfl) ?_
      refine lv_ifnonnull (tgt := 44) hx hb dX1_existing_31 (by decide) ?_
      refine lv_aload_n hx hb dX1_existing_44 rfl (lv_at hl 0 rfl) ?_
      exact tp_retq hx hb hr (Or.inl ⟨_, rfl⟩) hlocks hK hP hD hS dX1_existing_45
    · exact absurd (nI_lt (a := i) (b := 6) (by omega) (by decide)) c10_2
set_option maxHeartbeats 4000000 in
set_option maxRecDepth 100000 in
/-- existing(number): none -/
theorem oc_existing_no (l : Launch) (D : va_G) (cy : Nat → ClassId) (n : Nat) (ad : Nat → Nat) (o : Int64) (I : Nat → Nat → Int32) (sa : Nat → Nat) (tL tM : Nat) (hlt : l.stackTraces = false) (x : Int32) (hx0 : ∀ i, i < n → x ≠ nI i) (hn6 : n ≤ 6) : tp_T l yX1_existing wsX1_existing 6 90 D cy n ad o sa tL tM [.ref (ad (0)), .int x] I "java/lang/IndexOutOfBoundsException" := by
  refine tp_ofT (lv := [(0, .ref (ad (0))), (1, .int x)]) (by decide) rfl (Nat.le_of_ble_eq_true rfl) rfl (fun p e s m args below meth c A ls S0 hE hxt => ?_)
  obtain ⟨hx, hb, hr, hml, hown, hts, hlocks, hA, hK, hP, hD, hS, hl⟩ := S0
  obtain ⟨-, ⟨hEL, hEM⟩, -, hEw, -, hEa, hEo⟩ := id hE
  refine lv_iload_n hx hb dX1_existing_0 rfl (lv_at hl 1 rfl) ?_
  refine lv_if_lt (tgt := 13) hx hb dX1_existing_1 (by decide) (fun c1_1 => ?_) (fun c1_1 => ?_)
  · exact tp_throw (text := "there is no such household") (ik := 120) (is := 122) (ic := 124) hx hb hlt hown (by decide +kernel) (hts _ (List.mem_of_getElem? (i := 1) rfl)) (hts _ (List.mem_of_getElem? (i := 2) rfl)) (by decide) (fun w h => hts w (List.mem_cons_of_mem _ (List.mem_append_right _ (h)))) (by decide +kernel) (by decide +kernel) hE hK hP hD hS (hl.1.trans hml.symm) dX1_existing_13 dX1_existing_16 dX1_existing_17 dX1_existing_19 dX1_existing_22 hxt hlocks (Nat.le_of_ble_eq_true rfl) (Nat.le_of_ble_eq_true rfl) (Nat.le_of_ble_eq_true rfl) (Nat.le_of_ble_eq_true rfl)
  · refine lv_iload_n hx hb dX1_existing_4 rfl (lv_at hl 1 rfl) ?_
    refine lv_aload_n hx hb dX1_existing_5 rfl (lv_at hl 0 rfl) ?_
    refine va_get (D := D) (ci := 1) (v := .ref (ad (1))) (C := RX1) (T := TX1) (N := 3) hx hb hts (fun _ h => List.mem_cons_of_mem _ (List.mem_append_left _ (List.mem_append_right _ (h)))) hown hK hP 0 tp_e0 rfl 0 (by decide) (hts _ (List.mem_of_getElem? (i := 3) rfl)) (fun _ h9 => h9) rfl dX1_existing_6 ?_
    refine tp_rlen hx hb hK hP dX1_existing_9 ?_
    refine lv_icmp_lt (tgt := 23) hx hb dX1_existing_10 (by decide) (fun c10_2 => ?_) (fun c10_2 => ?_)
    · obtain ⟨j, hj6, hjx⟩ := tp_ix (N := 6) (by decide) c1_1 c10_2
      have hjn : n ≤ j := by
        rcases Nat.lt_or_ge j n with z | z
        · exact absurd hjx (hx0 j z)
        · exact z
      refine lv_aload_n hx hb dX1_existing_23 rfl (lv_at hl 0 rfl) ?_
      refine va_get (D := D) (ci := 1) (v := .ref (ad (1))) (C := RX1) (T := TX1) (N := 3) hx hb hts (fun _ h => List.mem_cons_of_mem _ (List.mem_append_left _ (List.mem_append_right _ (h)))) hown hK hP 0 tp_e0 rfl 0 (by decide) (hts _ (List.mem_of_getElem? (i := 3) rfl)) (fun _ h9 => h9) rfl dX1_existing_24 ?_
      refine lv_iload_n hx hb dX1_existing_27 rfl (lv_at hl 1 rfl) ?_
      refine tp_raldN hx hb hK hP j hjn hj6 hjx dX1_existing_28 ?_
      refine lv_astore_nN (lv' := [(2, .null), (0, .ref (ad (0))), (1, .int x)]) hx hb dX1_existing_29 rfl hl (by decide) rfl (fun ls hl => ?_)
      refine lv_aload_nN hx hb dX1_existing_30 rfl (lv_at hl 0 rfl) ?_
      refine lv_ifnonnullN hx hb dX1_existing_31 ?_
      exact tp_throw (text := "there is no such household") (ik := 120) (is := 122) (ic := 124) hx hb hlt hown (by decide +kernel) (hts _ (List.mem_of_getElem? (i := 1) rfl)) (hts _ (List.mem_of_getElem? (i := 2) rfl)) (by decide) (fun w h => hts w (List.mem_cons_of_mem _ (List.mem_append_right _ (h)))) (by decide +kernel) (by decide +kernel) hE hK hP hD hS (hl.1.trans hml.symm) dX1_existing_34 dX1_existing_37 dX1_existing_38 dX1_existing_40 dX1_existing_43 hxt hlocks (Nat.le_of_ble_eq_true rfl) (Nat.le_of_ble_eq_true rfl) (Nat.le_of_ble_eq_true rfl) (Nat.le_of_ble_eq_true rfl)
    · exact tp_throw (text := "there is no such household") (ik := 120) (is := 122) (ic := 124) hx hb hlt hown (by decide +kernel) (hts _ (List.mem_of_getElem? (i := 1) rfl)) (hts _ (List.mem_of_getElem? (i := 2) rfl)) (by decide) (fun w h => hts w (List.mem_cons_of_mem _ (List.mem_append_right _ (h)))) (by decide +kernel) (by decide +kernel) hE hK hP hD hS (hl.1.trans hml.symm) dX1_existing_13 dX1_existing_16 dX1_existing_17 dX1_existing_19 dX1_existing_22 hxt hlocks (Nat.le_of_ble_eq_true rfl) (Nat.le_of_ble_eq_true rfl) (Nat.le_of_ble_eq_true rfl) (Nat.le_of_ble_eq_true rfl)
set_option maxHeartbeats 4000000 in
set_option maxRecDepth 100000 in
/-- checkMonth -/
theorem oc_checkMonth (l : Launch) (D : va_G) (cy : Nat → ClassId) (n : Nat) (ad : Nat → Nat) (o : Int64) (I : Nat → Nat → Int32) (q0 : Nat) (hq0 : q0 < 48) : tp_V l yX1_checkMonth wsX1_checkMonth (tp_rm 0 0) D cy n ad o [.int (nI q0)] I (I) := by
  refine tp_ofV (lv := [(0, .int (nI q0))]) (by decide) rfl (Nat.le_of_ble_eq_true rfl) rfl (fun p e s m args below meth c A ls S0 => ?_)
  obtain ⟨hx, hb, hr, hml, hown, hts, hlocks, hA, hK, hP, hD, hS, hl⟩ := S0
  refine lv_iload_n hx hb dX1_checkMonth_0 rfl (lv_at hl 0 rfl) ?_
  refine lv_if_lt (tgt := 10) hx hb dX1_checkMonth_1 (by decide) (fun c1_1 => ?_) (fun c1_1 => ?_)
  · exact absurd c1_1 (nI_pos (by omega))
  · refine lv_iload_n hx hb dX1_checkMonth_4 rfl (lv_at hl 0 rfl) ?_
    refine lv_bipush (v := 48) hx hb dX1_checkMonth_5 (by decide) ?_
    refine lv_icmp_lt (tgt := 20) hx hb dX1_checkMonth_7 (by decide) (fun c7_2 => ?_) (fun c7_2 => ?_)
    · exact tp_retv hx hb hr hlocks hK hP hD hS rfl dX1_checkMonth_20
    · exact absurd (nI_lt (a := q0) (b := 48) (by omega) (by decide)) c7_2
set_option maxHeartbeats 4000000 in
set_option maxRecDepth 100000 in
/-- checkMonth: no -/
theorem oc_checkMonth_no (l : Launch) (D : va_G) (cy : Nat → ClassId) (n : Nat) (ad : Nat → Nat) (o : Int64) (I : Nat → Nat → Int32) (sa : Nat → Nat) (tL tM : Nat) (hlt : l.stackTraces = false) (x : Int32) (hx0 : ∀ j, j < 48 → x ≠ nI j) : tp_T l yX1_checkMonth wsX1_checkMonth 6 90 D cy n ad o sa tL tM [.int x] I "java/lang/IndexOutOfBoundsException" := by
  refine tp_ofT (lv := [(0, .int x)]) (by decide) rfl (Nat.le_of_ble_eq_true rfl) rfl (fun p e s m args below meth c A ls S0 hE hxt => ?_)
  obtain ⟨hx, hb, hr, hml, hown, hts, hlocks, hA, hK, hP, hD, hS, hl⟩ := S0
  obtain ⟨-, ⟨hEL, hEM⟩, -, hEw, -, hEa, hEo⟩ := id hE
  refine lv_iload_n hx hb dX1_checkMonth_0 rfl (lv_at hl 0 rfl) ?_
  refine lv_if_lt (tgt := 10) hx hb dX1_checkMonth_1 (by decide) (fun c1_1 => ?_) (fun c1_1 => ?_)
  · exact tp_throw (text := "there is no such month") (ik := 120) (is := 125) (ic := 124) hx hb hlt hown (by decide +kernel) (hts _ (List.mem_of_getElem? (i := 1) rfl)) (hts _ (List.mem_of_getElem? (i := 2) rfl)) (by decide) (fun w h => hts w (List.mem_cons_of_mem _ (List.mem_append_right _ (h)))) (by decide +kernel) (by decide +kernel) hE hK hP hD hS (hl.1.trans hml.symm) dX1_checkMonth_10 dX1_checkMonth_13 dX1_checkMonth_14 dX1_checkMonth_16 dX1_checkMonth_19 hxt hlocks (Nat.le_of_ble_eq_true rfl) (Nat.le_of_ble_eq_true rfl) (Nat.le_of_ble_eq_true rfl) (Nat.le_of_ble_eq_true rfl)
  · refine lv_iload_n hx hb dX1_checkMonth_4 rfl (lv_at hl 0 rfl) ?_
    refine lv_bipush (v := 48) hx hb dX1_checkMonth_5 (by decide) ?_
    refine lv_icmp_lt (tgt := 20) hx hb dX1_checkMonth_7 (by decide) (fun c7_2 => ?_) (fun c7_2 => ?_)
    · obtain ⟨j, hj6, hjx⟩ := tp_ix (N := 48) (by decide) c1_1 c7_2
      exact absurd hjx (hx0 j hj6)
    · exact tp_throw (text := "there is no such month") (ik := 120) (is := 125) (ic := 124) hx hb hlt hown (by decide +kernel) (hts _ (List.mem_of_getElem? (i := 1) rfl)) (hts _ (List.mem_of_getElem? (i := 2) rfl)) (by decide) (fun w h => hts w (List.mem_cons_of_mem _ (List.mem_append_right _ (h)))) (by decide +kernel) (by decide +kernel) hE hK hP hD hS (hl.1.trans hml.symm) dX1_checkMonth_10 dX1_checkMonth_13 dX1_checkMonth_14 dX1_checkMonth_16 dX1_checkMonth_19 hxt hlocks (Nat.le_of_ble_eq_true rfl) (Nat.le_of_ble_eq_true rfl) (Nat.le_of_ble_eq_true rfl) (Nat.le_of_ble_eq_true rfl)
set_option maxHeartbeats 4000000 in
set_option maxRecDepth 100000 in
/-- checkFact -/
theorem oc_checkFact (l : Launch) (D : va_G) (cy : Nat → ClassId) (n : Nat) (ad : Nat → Nat) (o : Int64) (I : Nat → Nat → Int32) (q0 : Nat) (hq0 : q0 < 5) : tp_V l yX1_checkFact wsX1_checkFact (tp_rm 0 0) D cy n ad o [.int (nI q0)] I (I) := by
  refine tp_ofV (lv := [(0, .int (nI q0))]) (by decide) rfl (Nat.le_of_ble_eq_true rfl) rfl (fun p e s m args below meth c A ls S0 => ?_)
  obtain ⟨hx, hb, hr, hml, hown, hts, hlocks, hA, hK, hP, hD, hS, hl⟩ := S0
  refine lv_iload_n hx hb dX1_checkFact_0 rfl (lv_at hl 0 rfl) ?_
  refine lv_if_lt (tgt := 9) hx hb dX1_checkFact_1 (by decide) (fun c1_1 => ?_) (fun c1_1 => ?_)
  · exact absurd c1_1 (nI_pos (by omega))
  · refine lv_iload_n hx hb dX1_checkFact_4 rfl (lv_at hl 0 rfl) ?_
    refine lv_iconst (v := 5) hx hb dX1_checkFact_5 (by decide) ?_
    refine lv_icmp_lt (tgt := 19) hx hb dX1_checkFact_6 (by decide) (fun c6_2 => ?_) (fun c6_2 => ?_)
    · exact tp_retv hx hb hr hlocks hK hP hD hS rfl dX1_checkFact_19
    · exact absurd (nI_lt (a := q0) (b := 5) (by omega) (by decide)) c6_2
set_option maxHeartbeats 4000000 in
set_option maxRecDepth 100000 in
/-- checkFact: no -/
theorem oc_checkFact_no (l : Launch) (D : va_G) (cy : Nat → ClassId) (n : Nat) (ad : Nat → Nat) (o : Int64) (I : Nat → Nat → Int32) (sa : Nat → Nat) (tL tM : Nat) (hlt : l.stackTraces = false) (x : Int32) (hx0 : ∀ j, j < 5 → x ≠ nI j) : tp_T l yX1_checkFact wsX1_checkFact 6 90 D cy n ad o sa tL tM [.int x] I "java/lang/IllegalArgumentException" := by
  refine tp_ofT (lv := [(0, .int x)]) (by decide) rfl (Nat.le_of_ble_eq_true rfl) rfl (fun p e s m args below meth c A ls S0 hE hxt => ?_)
  obtain ⟨hx, hb, hr, hml, hown, hts, hlocks, hA, hK, hP, hD, hS, hl⟩ := S0
  obtain ⟨-, ⟨hEL, hEM⟩, -, hEw, -, hEa, hEo⟩ := id hE
  refine lv_iload_n hx hb dX1_checkFact_0 rfl (lv_at hl 0 rfl) ?_
  refine lv_if_lt (tgt := 9) hx hb dX1_checkFact_1 (by decide) (fun c1_1 => ?_) (fun c1_1 => ?_)
  · exact tp_throw (text := "there is no such fact") (ik := 41) (is := 127) (ic := 45) hx hb hlt hown (by decide +kernel) (hts _ (List.mem_of_getElem? (i := 1) rfl)) (hts _ (List.mem_of_getElem? (i := 2) rfl)) (by decide) (fun w h => hts w (List.mem_cons_of_mem _ (List.mem_append_right _ (h)))) (by decide +kernel) (by decide +kernel) hE hK hP hD hS (hl.1.trans hml.symm) dX1_checkFact_9 dX1_checkFact_12 dX1_checkFact_13 dX1_checkFact_15 dX1_checkFact_18 hxt hlocks (Nat.le_of_ble_eq_true rfl) (Nat.le_of_ble_eq_true rfl) (Nat.le_of_ble_eq_true rfl) (Nat.le_of_ble_eq_true rfl)
  · refine lv_iload_n hx hb dX1_checkFact_4 rfl (lv_at hl 0 rfl) ?_
    refine lv_iconst (v := 5) hx hb dX1_checkFact_5 (by decide) ?_
    refine lv_icmp_lt (tgt := 19) hx hb dX1_checkFact_6 (by decide) (fun c6_2 => ?_) (fun c6_2 => ?_)
    · obtain ⟨j, hj6, hjx⟩ := tp_ix (N := 5) (by decide) c1_1 c6_2
      exact absurd hjx (hx0 j hj6)
    · exact tp_throw (text := "there is no such fact") (ik := 41) (is := 127) (ic := 45) hx hb hlt hown (by decide +kernel) (hts _ (List.mem_of_getElem? (i := 1) rfl)) (hts _ (List.mem_of_getElem? (i := 2) rfl)) (by decide) (fun w h => hts w (List.mem_cons_of_mem _ (List.mem_append_right _ (h)))) (by decide +kernel) (by decide +kernel) hE hK hP hD hS (hl.1.trans hml.symm) dX1_checkFact_9 dX1_checkFact_12 dX1_checkFact_13 dX1_checkFact_15 dX1_checkFact_18 hxt hlocks (Nat.le_of_ble_eq_true rfl) (Nat.le_of_ble_eq_true rfl) (Nat.le_of_ble_eq_true rfl) (Nat.le_of_ble_eq_true rfl)
/-- the month that a day counts from -/
def tp_r0 (d : Nat) : Nat := if 15 ≤ d % 30 then d / 30 + 1 else d / 30
set_option maxHeartbeats 4000000 in
set_option maxRecDepth 100000 in
/-- monthCountedFrom(day) -/
theorem oc_monthCountedFrom (l : Launch) (D : va_G) (cy : Nat → ClassId) (n : Nat) (ad : Nat → Nat) (o : Int64) (I : Nat → Nat → Int32) (d0 : Nat) (hd0 : d0 < 1440) : tp_I l yX1_monthCountedFrom wsX1_monthCountedFrom (tp_rm 0 0) D cy n ad o [.int (nI d0)] I (nI (tp_r0 d0)) (I) := by
  refine tp_ofI (lv := [(0, .int (nI d0))]) (by decide) rfl (Nat.le_of_ble_eq_true rfl) rfl (fun p e s m args below meth c A ls S0 => ?_)
  obtain ⟨hx, hb, hr, hml, hown, hts, hlocks, hA, hK, hP, hD, hS, hl⟩ := S0
  refine lv_iload_n hx hb dX1_monthCountedFrom_0 rfl (lv_at hl 0 rfl) ?_
  refine lv_bipush (v := 30) hx hb dX1_monthCountedFrom_1 (by decide) ?_
  refine lv_idiv hx hb dX1_monthCountedFrom_3 (by decide) ?_
  refine tp_eqi (y := nI (d0 / 30)) (pk_div (d := 30) (by omega) (by decide) (by decide)) ?_
  refine lv_istore_n (lv' := [(1, .int (nI (d0 / 30))), (0, .int (nI d0))]) hx hb dX1_monthCountedFrom_4 rfl hl (by decide) rfl (fun ls hl => ?_)
  refine lv_iload_n hx hb dX1_monthCountedFrom_5 rfl (lv_at hl 1 rfl) ?_
  refine lv_bipush (v := 30) hx hb dX1_monthCountedFrom_6 (by decide) ?_
  refine lv_irem hx hb dX1_monthCountedFrom_8 (by decide) ?_
  refine tp_eqi (y := nI (d0 % 30)) (pk_rem (d := 30) (by omega) (by decide) (by decide)) ?_
  refine lv_bipush (v := 15) hx hb dX1_monthCountedFrom_9 (by decide) ?_
  refine lv_icmp_ge (tgt := 18) hx hb dX1_monthCountedFrom_11 (by decide) (fun c11_1 => ?_) (fun c11_1 => ?_)
  · refine lv_iload_n hx hb dX1_monthCountedFrom_18 rfl (lv_at hl 0 rfl) ?_
    refine lv_iconst (v := 1) hx hb dX1_monthCountedFrom_19 (by decide) ?_
    refine lv_iadd hx hb dX1_monthCountedFrom_20 ?_
    exact tp_reti hx hb hr hlocks hK hP hD hS rfl (by rw [show tp_r0 d0 = d0 / 30 + 1 from if_pos (by rcases Nat.lt_or_ge (d0 % 30) 15 with z | z; exact absurd c11_1 (nI_ge (a := d0 % 30) (b := 15) z (by decide)); exact z)]; exact nI_1 _) rfl dX1_monthCountedFrom_21
  · refine lv_iload_n hx hb dX1_monthCountedFrom_14 rfl (lv_at hl 0 rfl) ?_
    refine lv_goto (tgt := 21) hx hb dX1_monthCountedFrom_15 (by decide) ?_
    exact tp_reti hx hb hr hlocks hK hP hD hS rfl (by rw [show tp_r0 d0 = d0 / 30 from if_neg (fun z => c11_1 (nI_le (a := 15) (b := d0 % 30) z (by omega)))]) rfl dX1_monthCountedFrom_21
set_option maxHeartbeats 4000000 in
set_option maxRecDepth 100000 in
/-- households() -/
theorem op_households (l : Launch) (D : va_G) (cy : Nat → ClassId) (n : Nat) (ad : Nat → Nat) (o : Int64) (I : Nat → Nat → Int32)  : tp_I l yX1_households wsX1_households (tp_rm 0 0) D cy n ad o [.ref (ad (0))] I (I 0 1) (I) := by
  refine tp_ofI (lv := [(0, .ref (ad (0)))]) (by decide) rfl (Nat.le_of_ble_eq_true rfl) rfl (fun p e s m args below meth c A ls S0 => ?_)
  obtain ⟨hx, hb, hr, hml, hown, hts, hlocks, hA, hK, hP, hD, hS, hl⟩ := S0
  refine lv_aload_n hx hb dX1_households_0 rfl (lv_at hl 0 rfl) ?_
  refine va_get (D := D) (ci := 1) (v := .int (I 0 1)) (C := RX1) (T := TX1) (N := 3) hx hb hts (fun _ h => List.mem_cons_of_mem _ (List.mem_append_right _ (h))) hown hK hP 0 tp_e0 rfl 1 (by decide) (hts _ (List.mem_of_getElem? (i := 1) rfl)) (fun _ h9 => h9) rfl dX1_households_1 ?_
  exact tp_reti hx hb hr hlocks hK hP hD hS rfl rfl rfl dX1_households_4
set_option maxHeartbeats 4000000 in
set_option maxRecDepth 100000 in
/-- month() -/
theorem op_month (l : Launch) (D : va_G) (cy : Nat → ClassId) (n : Nat) (ad : Nat → Nat) (o : Int64) (I : Nat → Nat → Int32)  : tp_I l yX1_month wsX1_month (tp_rm 0 0) D cy n ad o [.ref (ad (0))] I (if 48 ≤ I 0 2 then -1 else I 0 2) (I) := by
  refine tp_ofI (lv := [(0, .ref (ad (0)))]) (by decide) rfl (Nat.le_of_ble_eq_true rfl) rfl (fun p e s m args below meth c A ls S0 => ?_)
  obtain ⟨hx, hb, hr, hml, hown, hts, hlocks, hA, hK, hP, hD, hS, hl⟩ := S0
  refine lv_aload_n hx hb dX1_month_0 rfl (lv_at hl 0 rfl) ?_
  refine va_get (D := D) (ci := 1) (v := .int (I 0 2)) (C := RX1) (T := TX1) (N := 3) hx hb hts (fun _ h => List.mem_cons_of_mem _ (List.mem_append_right _ (h))) hown hK hP 0 tp_e0 rfl 2 (by decide) (hts _ (List.mem_of_getElem? (i := 1) rfl)) (fun _ h9 => h9) rfl dX1_month_1 ?_
  refine lv_bipush (v := 48) hx hb dX1_month_4 (by decide) ?_
  refine lv_icmp_ge (tgt := 16) hx hb dX1_month_6 (by decide) (fun c6_1 => ?_) (fun c6_1 => ?_)
  · refine lv_iconst (v := (-1)) hx hb dX1_month_16 (by decide) ?_
    exact tp_reti hx hb hr hlocks hK hP hD hS rfl (by rw [if_pos c6_1]) rfl dX1_month_17
  · refine lv_aload_n hx hb dX1_month_9 rfl (lv_at hl 0 rfl) ?_
    refine va_get (D := D) (ci := 1) (v := .int (I 0 2)) (C := RX1) (T := TX1) (N := 3) hx hb hts (fun _ h => List.mem_cons_of_mem _ (List.mem_append_right _ (h))) hown hK hP 0 tp_e0 rfl 2 (by decide) (hts _ (List.mem_of_getElem? (i := 1) rfl)) (fun _ h9 => h9) rfl dX1_month_10 ?_
    refine lv_goto (tgt := 17) hx hb dX1_month_13 (by decide) ?_
    exact tp_reti hx hb hr hlocks hK hP hD hS rfl (by rw [if_neg c6_1]) rfl dX1_month_17
set_option maxHeartbeats 4000000 in
set_option maxRecDepth 100000 in
/-- need: no such household -/
theorem op_need_no (l : Launch) (D : va_G) (cy : Nat → ClassId) (n : Nat) (ad : Nat → Nat) (o : Int64) (I : Nat → Nat → Int32) (sa : Nat → Nat) (tL tM : Nat) (hlt : l.stackTraces = false) (x : Int32) (hx0 : ∀ i, i < n → x ≠ nI i) (hn6 : n ≤ 6) (k : Int32) : tp_T l yX1_need wsX1_need 7 112 D cy n ad o sa tL tM [.ref (ad (0)), .int x, .int k] I "java/lang/IndexOutOfBoundsException" := by
  refine tp_ofT (lv := [(0, .ref (ad (0))), (1, .int x), (2, .int k)]) (by decide) rfl (Nat.le_of_ble_eq_true rfl) rfl (fun p e s m args below meth c A ls S0 hE hxt => ?_)
  obtain ⟨hx, hb, hr, hml, hown, hts, hlocks, hA, hK, hP, hD, hS, hl⟩ := S0
  obtain ⟨-, ⟨hEL, hEM⟩, -, hEw, -, hEa, hEo⟩ := id hE
  refine lv_aload_n hx hb dX1_need_0 rfl (lv_at hl 0 rfl) ?_
  refine lv_iload_n hx hb dX1_need_1 rfl (lv_at hl 1 rfl) ?_
  exact tp_callVT ⟨hx, hb, hml, hown, hts⟩ (oc_existing_no l D cy n ad o I sa tL tM hlt x hx0 hn6) (cwV 1 hts gX1_need_X1_existing rfl rfl rfl (by decide +kernel) ⟨Nat.le_of_ble_eq_true rfl, Nat.le_of_ble_eq_true rfl⟩) hE hK hP hD hS hA 0 1 tp_e0 rfl rfl rfl hl.1 rfl (Nat.le_of_ble_eq_true rfl) dX1_need_2 ⟨Nat.le_of_ble_eq_true rfl, Nat.le_of_ble_eq_true rfl⟩ (fun ce q9 H locs hce hcv hcl hP hD hS => tp_out hxt hlocks hce hcv hcl hK hP hD hS (Nat.le_of_ble_eq_true rfl) (Nat.le_of_ble_eq_true rfl))
set_option maxHeartbeats 4000000 in
set_option maxRecDepth 100000 in
/-- need: no such month -/
theorem op_need_nomonth (l : Launch) (D : va_G) (cy : Nat → ClassId) (n : Nat) (ad : Nat → Nat) (o : Int64) (I : Nat → Nat → Int32) (sa : Nat → Nat) (tL tM : Nat) (hlt : l.stackTraces = false) (i : Nat) (hi : i < n) (hn6 : n ≤ 6) (x : Int32) (hx0 : ∀ j, j < 48 → x ≠ nI j) : tp_T l yX1_need wsX1_need 7 110 D cy n ad o sa tL tM [.ref (ad (0)), .int (nI i), .int x] I "java/lang/IndexOutOfBoundsException" := by
  refine tp_ofT (lv := [(0, .ref (ad (0))), (1, .int (nI i)), (2, .int x)]) (by decide) rfl (Nat.le_of_ble_eq_true rfl) rfl (fun p e s m args below meth c A ls S0 hE hxt => ?_)
  obtain ⟨hx, hb, hr, hml, hown, hts, hlocks, hA, hK, hP, hD, hS, hl⟩ := S0
  obtain ⟨-, ⟨hEL, hEM⟩, -, hEw, -, hEa, hEo⟩ := id hE
  refine lv_aload_n hx hb dX1_need_0 rfl (lv_at hl 0 rfl) ?_
  refine lv_iload_n hx hb dX1_need_1 rfl (lv_at hl 1 rfl) ?_
  refine tp_callR ⟨hx, hb, hml, hown, hts⟩ (oc_existing l D cy n ad o I i hi hn6) (cwV 1 hts gX1_need_X1_existing rfl rfl rfl (by decide +kernel) ⟨Nat.le_of_ble_eq_true rfl, Nat.le_of_ble_eq_true rfl⟩) hK hP hD hS hA 0 1 tp_e0 rfl rfl rfl hl.1 rfl (Nat.le_of_ble_eq_true rfl) dX1_need_2 ⟨Nat.zero_le _, Nat.zero_le _⟩ (fun H locs hP hD hS => ?_)
  refine lv_astore_n (lv' := [(3, .ref (ad (9 + 15 * i))), (0, .ref (ad (0))), (1, .int (nI i)), (2, .int x)]) hx hb dX1_need_5 rfl hl (by decide) rfl (fun ls hl => ?_)
  refine lv_iload_n hx hb dX1_need_6 rfl (lv_at hl 3 rfl) ?_
  exact tp_callST ⟨hx, hb, hml, hown, hts⟩ (oc_checkMonth_no l D cy n ad o I sa tL tM hlt x hx0) (va_cwS 1 hts gX1_need_X1_checkMonth rfl rfl rfl (by decide +kernel) ⟨Nat.le_of_ble_eq_true rfl, Nat.le_of_ble_eq_true rfl⟩) hE hK hP hD hS hA rfl hl.1 rfl (Nat.le_of_ble_eq_true rfl) dX1_need_7 ⟨Nat.le_of_ble_eq_true rfl, Nat.le_of_ble_eq_true rfl⟩ (fun ce q9 H locs hce hcv hcl hP hD hS => tp_out hxt hlocks hce hcv hcl hK hP hD hS (Nat.le_of_ble_eq_true rfl) (Nat.le_of_ble_eq_true rfl))
set_option maxHeartbeats 4000000 in
set_option maxRecDepth 100000 in
/-- need -/
theorem op_need_ok (l : Launch) (D : va_G) (cy : Nat → ClassId) (n : Nat) (ad : Nat → Nat) (o : Int64) (I : Nat → Nat → Int32) (sa : Nat → Nat) (tL tM : Nat) (i : Nat) (hi : i < n) (hn6 : n ≤ 6) (m0 : Nat) (hm : m0 < 48) : tp_IE l yX1_need wsX1_need (tp_rm 2 43) D cy n ad o sa tL tM [.ref (ad (0)), .int (nI i), .int (nI m0)] I (tp_need I (9 + 15 * i) m0) (I) := by
  refine tp_ofIE (lv := [(0, .ref (ad (0))), (1, .int (nI i)), (2, .int (nI m0))]) (by decide) rfl (Nat.le_of_ble_eq_true rfl) rfl (fun p e s m args below meth c A ls S0 hE => ?_)
  obtain ⟨hx, hb, hr, hml, hown, hts, hlocks, hA, hK, hP, hD, hS, hl⟩ := S0
  obtain ⟨-, ⟨hEL, hEM⟩, -, hEw, -, hEa, hEo⟩ := id hE
  refine lv_aload_n hx hb dX1_need_0 rfl (lv_at hl 0 rfl) ?_
  refine lv_iload_n hx hb dX1_need_1 rfl (lv_at hl 1 rfl) ?_
  refine tp_callR ⟨hx, hb, hml, hown, hts⟩ (oc_existing l D cy n ad o I i hi hn6) (cwV 1 hts gX1_need_X1_existing rfl rfl rfl (by decide +kernel) ⟨Nat.le_of_ble_eq_true rfl, Nat.le_of_ble_eq_true rfl⟩) hK hP hD hS hA 0 1 tp_e0 rfl rfl rfl hl.1 rfl (Nat.le_of_ble_eq_true rfl) dX1_need_2 ⟨Nat.zero_le _, Nat.zero_le _⟩ (fun H locs hP hD hS => ?_)
  refine lv_astore_n (lv' := [(3, .ref (ad (9 + 15 * i))), (0, .ref (ad (0))), (1, .int (nI i)), (2, .int (nI m0))]) hx hb dX1_need_5 rfl hl (by decide) rfl (fun ls hl => ?_)
  refine lv_iload_n hx hb dX1_need_6 rfl (lv_at hl 3 rfl) ?_
  refine tp_callSv ⟨hx, hb, hml, hown, hts⟩ (oc_checkMonth l D cy n ad o I m0 (by omega)) (va_cwS 1 hts gX1_need_X1_checkMonth rfl rfl rfl (by decide +kernel) ⟨Nat.le_of_ble_eq_true rfl, Nat.le_of_ble_eq_true rfl⟩) hK hP hD hS hA rfl hl.1 rfl (Nat.le_of_ble_eq_true rfl) dX1_need_7 ⟨Nat.zero_le _, Nat.zero_le _⟩ (fun I9 e9 H locs hP hD hS => ?_)
  subst e9
  refine lv_aload_n hx hb dX1_need_10 rfl (lv_at hl 0 rfl) ?_
  refine lv_iload_n hx hb dX1_need_11 rfl (lv_at hl 3 rfl) ?_
  refine tp_callN ⟨hx, hb, hml, hown, hts⟩ (hc_needIn l D cy n ad o I i hi m0 (by omega)) ⟨va_cnB (host := "TaperOffice") 1 hts gX1_need_X0_needIn_n93 rfl rfl rfl (hEw _ (List.mem_of_getElem? (i := 11) rfl)) (hts _ (List.mem_of_getElem? (i := 13) rfl)) (by decide +kernel) ⟨Nat.le_of_ble_eq_true rfl, Nat.le_of_ble_eq_true rfl⟩, (hts _ (List.mem_of_getElem? (i := 12) rfl)), (hts _ (List.mem_of_getElem? (i := 14) rfl))⟩ hK hP hD hS hA (9 + 15 * i) 0 (tp_eh hi) rfl rfl rfl hl.1 rfl (Nat.le_of_ble_eq_true rfl) dX1_need_12 ⟨Nat.zero_le _, Nat.zero_le _⟩ (fun I9 e9 H locs hP hD hS => ?_)
  subst e9
  exact tp_reti hx hb hr hlocks hK hP hD hS rfl rfl rfl dX1_need_15
set_option maxHeartbeats 4000000 in
set_option maxRecDepth 100000 in
/-- taper: no such household -/
theorem op_taper_no (l : Launch) (D : va_G) (cy : Nat → ClassId) (n : Nat) (ad : Nat → Nat) (o : Int64) (I : Nat → Nat → Int32) (sa : Nat → Nat) (tL tM : Nat) (hlt : l.stackTraces = false) (x : Int32) (hx0 : ∀ i, i < n → x ≠ nI i) (hn6 : n ≤ 6) (k : Int32) : tp_T l yX1_taper wsX1_taper 7 112 D cy n ad o sa tL tM [.ref (ad (0)), .int x, .int k] I "java/lang/IndexOutOfBoundsException" := by
  refine tp_ofT (lv := [(0, .ref (ad (0))), (1, .int x), (2, .int k)]) (by decide) rfl (Nat.le_of_ble_eq_true rfl) rfl (fun p e s m args below meth c A ls S0 hE hxt => ?_)
  obtain ⟨hx, hb, hr, hml, hown, hts, hlocks, hA, hK, hP, hD, hS, hl⟩ := S0
  obtain ⟨-, ⟨hEL, hEM⟩, -, hEw, -, hEa, hEo⟩ := id hE
  refine lv_aload_n hx hb dX1_taper_0 rfl (lv_at hl 0 rfl) ?_
  refine lv_iload_n hx hb dX1_taper_1 rfl (lv_at hl 1 rfl) ?_
  exact tp_callVT ⟨hx, hb, hml, hown, hts⟩ (oc_existing_no l D cy n ad o I sa tL tM hlt x hx0 hn6) (cwV 1 hts gX1_taper_X1_existing rfl rfl rfl (by decide +kernel) ⟨Nat.le_of_ble_eq_true rfl, Nat.le_of_ble_eq_true rfl⟩) hE hK hP hD hS hA 0 1 tp_e0 rfl rfl rfl hl.1 rfl (Nat.le_of_ble_eq_true rfl) dX1_taper_2 ⟨Nat.le_of_ble_eq_true rfl, Nat.le_of_ble_eq_true rfl⟩ (fun ce q9 H locs hce hcv hcl hP hD hS => tp_out hxt hlocks hce hcv hcl hK hP hD hS (Nat.le_of_ble_eq_true rfl) (Nat.le_of_ble_eq_true rfl))
set_option maxHeartbeats 4000000 in
set_option maxRecDepth 100000 in
/-- taper: no such month -/
theorem op_taper_nomonth (l : Launch) (D : va_G) (cy : Nat → ClassId) (n : Nat) (ad : Nat → Nat) (o : Int64) (I : Nat → Nat → Int32) (sa : Nat → Nat) (tL tM : Nat) (hlt : l.stackTraces = false) (i : Nat) (hi : i < n) (hn6 : n ≤ 6) (x : Int32) (hx0 : ∀ j, j < 48 → x ≠ nI j) : tp_T l yX1_taper wsX1_taper 7 110 D cy n ad o sa tL tM [.ref (ad (0)), .int (nI i), .int x] I "java/lang/IndexOutOfBoundsException" := by
  refine tp_ofT (lv := [(0, .ref (ad (0))), (1, .int (nI i)), (2, .int x)]) (by decide) rfl (Nat.le_of_ble_eq_true rfl) rfl (fun p e s m args below meth c A ls S0 hE hxt => ?_)
  obtain ⟨hx, hb, hr, hml, hown, hts, hlocks, hA, hK, hP, hD, hS, hl⟩ := S0
  obtain ⟨-, ⟨hEL, hEM⟩, -, hEw, -, hEa, hEo⟩ := id hE
  refine lv_aload_n hx hb dX1_taper_0 rfl (lv_at hl 0 rfl) ?_
  refine lv_iload_n hx hb dX1_taper_1 rfl (lv_at hl 1 rfl) ?_
  refine tp_callR ⟨hx, hb, hml, hown, hts⟩ (oc_existing l D cy n ad o I i hi hn6) (cwV 1 hts gX1_taper_X1_existing rfl rfl rfl (by decide +kernel) ⟨Nat.le_of_ble_eq_true rfl, Nat.le_of_ble_eq_true rfl⟩) hK hP hD hS hA 0 1 tp_e0 rfl rfl rfl hl.1 rfl (Nat.le_of_ble_eq_true rfl) dX1_taper_2 ⟨Nat.zero_le _, Nat.zero_le _⟩ (fun H locs hP hD hS => ?_)
  refine lv_astore_n (lv' := [(3, .ref (ad (9 + 15 * i))), (0, .ref (ad (0))), (1, .int (nI i)), (2, .int x)]) hx hb dX1_taper_5 rfl hl (by decide) rfl (fun ls hl => ?_)
  refine lv_iload_n hx hb dX1_taper_6 rfl (lv_at hl 3 rfl) ?_
  exact tp_callST ⟨hx, hb, hml, hown, hts⟩ (oc_checkMonth_no l D cy n ad o I sa tL tM hlt x hx0) (va_cwS 1 hts gX1_taper_X1_checkMonth rfl rfl rfl (by decide +kernel) ⟨Nat.le_of_ble_eq_true rfl, Nat.le_of_ble_eq_true rfl⟩) hE hK hP hD hS hA rfl hl.1 rfl (Nat.le_of_ble_eq_true rfl) dX1_taper_7 ⟨Nat.le_of_ble_eq_true rfl, Nat.le_of_ble_eq_true rfl⟩ (fun ce q9 H locs hce hcv hcl hP hD hS => tp_out hxt hlocks hce hcv hcl hK hP hD hS (Nat.le_of_ble_eq_true rfl) (Nat.le_of_ble_eq_true rfl))
set_option maxHeartbeats 4000000 in
set_option maxRecDepth 100000 in
/-- taper -/
theorem op_taper_ok (l : Launch) (D : va_G) (cy : Nat → ClassId) (n : Nat) (ad : Nat → Nat) (o : Int64) (I : Nat → Nat → Int32) (sa : Nat → Nat) (tL tM : Nat) (i : Nat) (hi : i < n) (hn6 : n ≤ 6) (m0 : Nat) (hm : m0 < 48) : tp_IE l yX1_taper wsX1_taper (tp_rm 2 43) D cy n ad o sa tL tM [.ref (ad (0)), .int (nI i), .int (nI m0)] I (tp_taper I (9 + 15 * i) m0) (I) := by
  refine tp_ofIE (lv := [(0, .ref (ad (0))), (1, .int (nI i)), (2, .int (nI m0))]) (by decide) rfl (Nat.le_of_ble_eq_true rfl) rfl (fun p e s m args below meth c A ls S0 hE => ?_)
  obtain ⟨hx, hb, hr, hml, hown, hts, hlocks, hA, hK, hP, hD, hS, hl⟩ := S0
  obtain ⟨-, ⟨hEL, hEM⟩, -, hEw, -, hEa, hEo⟩ := id hE
  refine lv_aload_n hx hb dX1_taper_0 rfl (lv_at hl 0 rfl) ?_
  refine lv_iload_n hx hb dX1_taper_1 rfl (lv_at hl 1 rfl) ?_
  refine tp_callR ⟨hx, hb, hml, hown, hts⟩ (oc_existing l D cy n ad o I i hi hn6) (cwV 1 hts gX1_taper_X1_existing rfl rfl rfl (by decide +kernel) ⟨Nat.le_of_ble_eq_true rfl, Nat.le_of_ble_eq_true rfl⟩) hK hP hD hS hA 0 1 tp_e0 rfl rfl rfl hl.1 rfl (Nat.le_of_ble_eq_true rfl) dX1_taper_2 ⟨Nat.zero_le _, Nat.zero_le _⟩ (fun H locs hP hD hS => ?_)
  refine lv_astore_n (lv' := [(3, .ref (ad (9 + 15 * i))), (0, .ref (ad (0))), (1, .int (nI i)), (2, .int (nI m0))]) hx hb dX1_taper_5 rfl hl (by decide) rfl (fun ls hl => ?_)
  refine lv_iload_n hx hb dX1_taper_6 rfl (lv_at hl 3 rfl) ?_
  refine tp_callSv ⟨hx, hb, hml, hown, hts⟩ (oc_checkMonth l D cy n ad o I m0 (by omega)) (va_cwS 1 hts gX1_taper_X1_checkMonth rfl rfl rfl (by decide +kernel) ⟨Nat.le_of_ble_eq_true rfl, Nat.le_of_ble_eq_true rfl⟩) hK hP hD hS hA rfl hl.1 rfl (Nat.le_of_ble_eq_true rfl) dX1_taper_7 ⟨Nat.zero_le _, Nat.zero_le _⟩ (fun I9 e9 H locs hP hD hS => ?_)
  subst e9
  refine lv_aload_n hx hb dX1_taper_10 rfl (lv_at hl 0 rfl) ?_
  refine lv_iload_n hx hb dX1_taper_11 rfl (lv_at hl 3 rfl) ?_
  refine tp_callN ⟨hx, hb, hml, hown, hts⟩ (hc_taperIn l D cy n ad o I i hi m0 (by omega)) ⟨va_cnB (host := "TaperOffice") 1 hts gX1_taper_X0_taperIn_n96 rfl rfl rfl (hEw _ (List.mem_of_getElem? (i := 12) rfl)) (hts _ (List.mem_of_getElem? (i := 13) rfl)) (by decide +kernel) ⟨Nat.le_of_ble_eq_true rfl, Nat.le_of_ble_eq_true rfl⟩, (hts _ (List.mem_of_getElem? (i := 12) rfl)), (hts _ (List.mem_of_getElem? (i := 14) rfl))⟩ hK hP hD hS hA (9 + 15 * i) 0 (tp_eh hi) rfl rfl rfl hl.1 rfl (Nat.le_of_ble_eq_true rfl) dX1_taper_12 ⟨Nat.zero_le _, Nat.zero_le _⟩ (fun I9 e9 H locs hP hD hS => ?_)
  subst e9
  exact tp_reti hx hb hr hlocks hK hP hD hS rfl rfl rfl dX1_taper_15
set_option maxHeartbeats 4000000 in
set_option maxRecDepth 100000 in
/-- tariff: no such household -/
theorem op_tariff_no (l : Launch) (D : va_G) (cy : Nat → ClassId) (n : Nat) (ad : Nat → Nat) (o : Int64) (I : Nat → Nat → Int32) (sa : Nat → Nat) (tL tM : Nat) (hlt : l.stackTraces = false) (x : Int32) (hx0 : ∀ i, i < n → x ≠ nI i) (hn6 : n ≤ 6) (k : Int32) : tp_T l yX1_tariff wsX1_tariff 7 112 D cy n ad o sa tL tM [.ref (ad (0)), .int x, .int k] I "java/lang/IndexOutOfBoundsException" := by
  refine tp_ofT (lv := [(0, .ref (ad (0))), (1, .int x), (2, .int k)]) (by decide) rfl (Nat.le_of_ble_eq_true rfl) rfl (fun p e s m args below meth c A ls S0 hE hxt => ?_)
  obtain ⟨hx, hb, hr, hml, hown, hts, hlocks, hA, hK, hP, hD, hS, hl⟩ := S0
  obtain ⟨-, ⟨hEL, hEM⟩, -, hEw, -, hEa, hEo⟩ := id hE
  refine lv_aload_n hx hb dX1_tariff_0 rfl (lv_at hl 0 rfl) ?_
  refine lv_iload_n hx hb dX1_tariff_1 rfl (lv_at hl 1 rfl) ?_
  exact tp_callVT ⟨hx, hb, hml, hown, hts⟩ (oc_existing_no l D cy n ad o I sa tL tM hlt x hx0 hn6) (cwV 1 hts gX1_tariff_X1_existing rfl rfl rfl (by decide +kernel) ⟨Nat.le_of_ble_eq_true rfl, Nat.le_of_ble_eq_true rfl⟩) hE hK hP hD hS hA 0 1 tp_e0 rfl rfl rfl hl.1 rfl (Nat.le_of_ble_eq_true rfl) dX1_tariff_2 ⟨Nat.le_of_ble_eq_true rfl, Nat.le_of_ble_eq_true rfl⟩ (fun ce q9 H locs hce hcv hcl hP hD hS => tp_out hxt hlocks hce hcv hcl hK hP hD hS (Nat.le_of_ble_eq_true rfl) (Nat.le_of_ble_eq_true rfl))
set_option maxHeartbeats 4000000 in
set_option maxRecDepth 100000 in
/-- tariff: no such month -/
theorem op_tariff_nomonth (l : Launch) (D : va_G) (cy : Nat → ClassId) (n : Nat) (ad : Nat → Nat) (o : Int64) (I : Nat → Nat → Int32) (sa : Nat → Nat) (tL tM : Nat) (hlt : l.stackTraces = false) (i : Nat) (hi : i < n) (hn6 : n ≤ 6) (x : Int32) (hx0 : ∀ j, j < 48 → x ≠ nI j) : tp_T l yX1_tariff wsX1_tariff 7 110 D cy n ad o sa tL tM [.ref (ad (0)), .int (nI i), .int x] I "java/lang/IndexOutOfBoundsException" := by
  refine tp_ofT (lv := [(0, .ref (ad (0))), (1, .int (nI i)), (2, .int x)]) (by decide) rfl (Nat.le_of_ble_eq_true rfl) rfl (fun p e s m args below meth c A ls S0 hE hxt => ?_)
  obtain ⟨hx, hb, hr, hml, hown, hts, hlocks, hA, hK, hP, hD, hS, hl⟩ := S0
  obtain ⟨-, ⟨hEL, hEM⟩, -, hEw, -, hEa, hEo⟩ := id hE
  refine lv_aload_n hx hb dX1_tariff_0 rfl (lv_at hl 0 rfl) ?_
  refine lv_iload_n hx hb dX1_tariff_1 rfl (lv_at hl 1 rfl) ?_
  refine tp_callR ⟨hx, hb, hml, hown, hts⟩ (oc_existing l D cy n ad o I i hi hn6) (cwV 1 hts gX1_tariff_X1_existing rfl rfl rfl (by decide +kernel) ⟨Nat.le_of_ble_eq_true rfl, Nat.le_of_ble_eq_true rfl⟩) hK hP hD hS hA 0 1 tp_e0 rfl rfl rfl hl.1 rfl (Nat.le_of_ble_eq_true rfl) dX1_tariff_2 ⟨Nat.zero_le _, Nat.zero_le _⟩ (fun H locs hP hD hS => ?_)
  refine lv_astore_n (lv' := [(3, .ref (ad (9 + 15 * i))), (0, .ref (ad (0))), (1, .int (nI i)), (2, .int x)]) hx hb dX1_tariff_5 rfl hl (by decide) rfl (fun ls hl => ?_)
  refine lv_iload_n hx hb dX1_tariff_6 rfl (lv_at hl 3 rfl) ?_
  exact tp_callST ⟨hx, hb, hml, hown, hts⟩ (oc_checkMonth_no l D cy n ad o I sa tL tM hlt x hx0) (va_cwS 1 hts gX1_tariff_X1_checkMonth rfl rfl rfl (by decide +kernel) ⟨Nat.le_of_ble_eq_true rfl, Nat.le_of_ble_eq_true rfl⟩) hE hK hP hD hS hA rfl hl.1 rfl (Nat.le_of_ble_eq_true rfl) dX1_tariff_7 ⟨Nat.le_of_ble_eq_true rfl, Nat.le_of_ble_eq_true rfl⟩ (fun ce q9 H locs hce hcv hcl hP hD hS => tp_out hxt hlocks hce hcv hcl hK hP hD hS (Nat.le_of_ble_eq_true rfl) (Nat.le_of_ble_eq_true rfl))
set_option maxHeartbeats 4000000 in
set_option maxRecDepth 100000 in
/-- tariff -/
theorem op_tariff_ok (l : Launch) (D : va_G) (cy : Nat → ClassId) (n : Nat) (ad : Nat → Nat) (o : Int64) (I : Nat → Nat → Int32) (sa : Nat → Nat) (tL tM : Nat) (i : Nat) (hi : i < n) (hn6 : n ≤ 6) (m0 : Nat) (hm : m0 < 48) : tp_IE l yX1_tariff wsX1_tariff (tp_rm 2 44) D cy n ad o sa tL tM [.ref (ad (0)), .int (nI i), .int (nI m0)] I (tp_tariff I (9 + 15 * i) m0) (I) := by
  refine tp_ofIE (lv := [(0, .ref (ad (0))), (1, .int (nI i)), (2, .int (nI m0))]) (by decide) rfl (Nat.le_of_ble_eq_true rfl) rfl (fun p e s m args below meth c A ls S0 hE => ?_)
  obtain ⟨hx, hb, hr, hml, hown, hts, hlocks, hA, hK, hP, hD, hS, hl⟩ := S0
  obtain ⟨-, ⟨hEL, hEM⟩, -, hEw, -, hEa, hEo⟩ := id hE
  refine lv_aload_n hx hb dX1_tariff_0 rfl (lv_at hl 0 rfl) ?_
  refine lv_iload_n hx hb dX1_tariff_1 rfl (lv_at hl 1 rfl) ?_
  refine tp_callR ⟨hx, hb, hml, hown, hts⟩ (oc_existing l D cy n ad o I i hi hn6) (cwV 1 hts gX1_tariff_X1_existing rfl rfl rfl (by decide +kernel) ⟨Nat.le_of_ble_eq_true rfl, Nat.le_of_ble_eq_true rfl⟩) hK hP hD hS hA 0 1 tp_e0 rfl rfl rfl hl.1 rfl (Nat.le_of_ble_eq_true rfl) dX1_tariff_2 ⟨Nat.zero_le _, Nat.zero_le _⟩ (fun H locs hP hD hS => ?_)
  refine lv_astore_n (lv' := [(3, .ref (ad (9 + 15 * i))), (0, .ref (ad (0))), (1, .int (nI i)), (2, .int (nI m0))]) hx hb dX1_tariff_5 rfl hl (by decide) rfl (fun ls hl => ?_)
  refine lv_iload_n hx hb dX1_tariff_6 rfl (lv_at hl 3 rfl) ?_
  refine tp_callSv ⟨hx, hb, hml, hown, hts⟩ (oc_checkMonth l D cy n ad o I m0 (by omega)) (va_cwS 1 hts gX1_tariff_X1_checkMonth rfl rfl rfl (by decide +kernel) ⟨Nat.le_of_ble_eq_true rfl, Nat.le_of_ble_eq_true rfl⟩) hK hP hD hS hA rfl hl.1 rfl (Nat.le_of_ble_eq_true rfl) dX1_tariff_7 ⟨Nat.zero_le _, Nat.zero_le _⟩ (fun I9 e9 H locs hP hD hS => ?_)
  subst e9
  refine lv_aload_n hx hb dX1_tariff_10 rfl (lv_at hl 0 rfl) ?_
  refine lv_iload_n hx hb dX1_tariff_11 rfl (lv_at hl 3 rfl) ?_
  refine tp_callN ⟨hx, hb, hml, hown, hts⟩ (hc_tariffIn l D cy n ad o I i hi m0 (by omega)) ⟨va_cnB (host := "TaperOffice") 1 hts gX1_tariff_X0_tariffIn_n99 rfl rfl rfl (hEw _ (List.mem_of_getElem? (i := 13) rfl)) (hts _ (List.mem_of_getElem? (i := 13) rfl)) (by decide +kernel) ⟨Nat.le_of_ble_eq_true rfl, Nat.le_of_ble_eq_true rfl⟩, (hts _ (List.mem_of_getElem? (i := 12) rfl)), (hts _ (List.mem_of_getElem? (i := 14) rfl))⟩ hK hP hD hS hA (9 + 15 * i) 0 (tp_eh hi) rfl rfl rfl hl.1 rfl (Nat.le_of_ble_eq_true rfl) dX1_tariff_12 ⟨Nat.zero_le _, Nat.zero_le _⟩ (fun I9 e9 H locs hP hD hS => ?_)
  subst e9
  exact tp_reti hx hb hr hlocks hK hP hD hS rfl rfl rfl dX1_tariff_15
set_option maxHeartbeats 4000000 in
set_option maxRecDepth 100000 in
/-- due: no such household -/
theorem op_due_no (l : Launch) (D : va_G) (cy : Nat → ClassId) (n : Nat) (ad : Nat → Nat) (o : Int64) (I : Nat → Nat → Int32) (sa : Nat → Nat) (tL tM : Nat) (hlt : l.stackTraces = false) (x : Int32) (hx0 : ∀ i, i < n → x ≠ nI i) (hn6 : n ≤ 6) (k : Int32) : tp_T l yX1_due wsX1_due 7 112 D cy n ad o sa tL tM [.ref (ad (0)), .int x, .int k] I "java/lang/IndexOutOfBoundsException" := by
  refine tp_ofT (lv := [(0, .ref (ad (0))), (1, .int x), (2, .int k)]) (by decide) rfl (Nat.le_of_ble_eq_true rfl) rfl (fun p e s m args below meth c A ls S0 hE hxt => ?_)
  obtain ⟨hx, hb, hr, hml, hown, hts, hlocks, hA, hK, hP, hD, hS, hl⟩ := S0
  obtain ⟨-, ⟨hEL, hEM⟩, -, hEw, -, hEa, hEo⟩ := id hE
  refine lv_aload_n hx hb dX1_due_0 rfl (lv_at hl 0 rfl) ?_
  refine lv_iload_n hx hb dX1_due_1 rfl (lv_at hl 1 rfl) ?_
  exact tp_callVT ⟨hx, hb, hml, hown, hts⟩ (oc_existing_no l D cy n ad o I sa tL tM hlt x hx0 hn6) (cwV 1 hts gX1_due_X1_existing rfl rfl rfl (by decide +kernel) ⟨Nat.le_of_ble_eq_true rfl, Nat.le_of_ble_eq_true rfl⟩) hE hK hP hD hS hA 0 1 tp_e0 rfl rfl rfl hl.1 rfl (Nat.le_of_ble_eq_true rfl) dX1_due_2 ⟨Nat.le_of_ble_eq_true rfl, Nat.le_of_ble_eq_true rfl⟩ (fun ce q9 H locs hce hcv hcl hP hD hS => tp_out hxt hlocks hce hcv hcl hK hP hD hS (Nat.le_of_ble_eq_true rfl) (Nat.le_of_ble_eq_true rfl))
set_option maxHeartbeats 4000000 in
set_option maxRecDepth 100000 in
/-- due: no such month -/
theorem op_due_nomonth (l : Launch) (D : va_G) (cy : Nat → ClassId) (n : Nat) (ad : Nat → Nat) (o : Int64) (I : Nat → Nat → Int32) (sa : Nat → Nat) (tL tM : Nat) (hlt : l.stackTraces = false) (i : Nat) (hi : i < n) (hn6 : n ≤ 6) (x : Int32) (hx0 : ∀ j, j < 48 → x ≠ nI j) : tp_T l yX1_due wsX1_due 7 110 D cy n ad o sa tL tM [.ref (ad (0)), .int (nI i), .int x] I "java/lang/IndexOutOfBoundsException" := by
  refine tp_ofT (lv := [(0, .ref (ad (0))), (1, .int (nI i)), (2, .int x)]) (by decide) rfl (Nat.le_of_ble_eq_true rfl) rfl (fun p e s m args below meth c A ls S0 hE hxt => ?_)
  obtain ⟨hx, hb, hr, hml, hown, hts, hlocks, hA, hK, hP, hD, hS, hl⟩ := S0
  obtain ⟨-, ⟨hEL, hEM⟩, -, hEw, -, hEa, hEo⟩ := id hE
  refine lv_aload_n hx hb dX1_due_0 rfl (lv_at hl 0 rfl) ?_
  refine lv_iload_n hx hb dX1_due_1 rfl (lv_at hl 1 rfl) ?_
  refine tp_callR ⟨hx, hb, hml, hown, hts⟩ (oc_existing l D cy n ad o I i hi hn6) (cwV 1 hts gX1_due_X1_existing rfl rfl rfl (by decide +kernel) ⟨Nat.le_of_ble_eq_true rfl, Nat.le_of_ble_eq_true rfl⟩) hK hP hD hS hA 0 1 tp_e0 rfl rfl rfl hl.1 rfl (Nat.le_of_ble_eq_true rfl) dX1_due_2 ⟨Nat.zero_le _, Nat.zero_le _⟩ (fun H locs hP hD hS => ?_)
  refine lv_astore_n (lv' := [(3, .ref (ad (9 + 15 * i))), (0, .ref (ad (0))), (1, .int (nI i)), (2, .int x)]) hx hb dX1_due_5 rfl hl (by decide) rfl (fun ls hl => ?_)
  refine lv_iload_n hx hb dX1_due_6 rfl (lv_at hl 3 rfl) ?_
  exact tp_callST ⟨hx, hb, hml, hown, hts⟩ (oc_checkMonth_no l D cy n ad o I sa tL tM hlt x hx0) (va_cwS 1 hts gX1_due_X1_checkMonth rfl rfl rfl (by decide +kernel) ⟨Nat.le_of_ble_eq_true rfl, Nat.le_of_ble_eq_true rfl⟩) hE hK hP hD hS hA rfl hl.1 rfl (Nat.le_of_ble_eq_true rfl) dX1_due_7 ⟨Nat.le_of_ble_eq_true rfl, Nat.le_of_ble_eq_true rfl⟩ (fun ce q9 H locs hce hcv hcl hP hD hS => tp_out hxt hlocks hce hcv hcl hK hP hD hS (Nat.le_of_ble_eq_true rfl) (Nat.le_of_ble_eq_true rfl))
set_option maxHeartbeats 4000000 in
set_option maxRecDepth 100000 in
/-- due -/
theorem op_due_ok (l : Launch) (D : va_G) (cy : Nat → ClassId) (n : Nat) (ad : Nat → Nat) (o : Int64) (I : Nat → Nat → Int32) (sa : Nat → Nat) (tL tM : Nat) (i : Nat) (hi : i < n) (hn6 : n ≤ 6) (m0 : Nat) (hm : m0 < 48) : tp_IE l yX1_due wsX1_due (tp_rm 3 66) D cy n ad o sa tL tM [.ref (ad (0)), .int (nI i), .int (nI m0)] I (tp_due I (9 + 15 * i) m0) (I) := by
  refine tp_ofIE (lv := [(0, .ref (ad (0))), (1, .int (nI i)), (2, .int (nI m0))]) (by decide) rfl (Nat.le_of_ble_eq_true rfl) rfl (fun p e s m args below meth c A ls S0 hE => ?_)
  obtain ⟨hx, hb, hr, hml, hown, hts, hlocks, hA, hK, hP, hD, hS, hl⟩ := S0
  obtain ⟨-, ⟨hEL, hEM⟩, -, hEw, -, hEa, hEo⟩ := id hE
  refine lv_aload_n hx hb dX1_due_0 rfl (lv_at hl 0 rfl) ?_
  refine lv_iload_n hx hb dX1_due_1 rfl (lv_at hl 1 rfl) ?_
  refine tp_callR ⟨hx, hb, hml, hown, hts⟩ (oc_existing l D cy n ad o I i hi hn6) (cwV 1 hts gX1_due_X1_existing rfl rfl rfl (by decide +kernel) ⟨Nat.le_of_ble_eq_true rfl, Nat.le_of_ble_eq_true rfl⟩) hK hP hD hS hA 0 1 tp_e0 rfl rfl rfl hl.1 rfl (Nat.le_of_ble_eq_true rfl) dX1_due_2 ⟨Nat.zero_le _, Nat.zero_le _⟩ (fun H locs hP hD hS => ?_)
  refine lv_astore_n (lv' := [(3, .ref (ad (9 + 15 * i))), (0, .ref (ad (0))), (1, .int (nI i)), (2, .int (nI m0))]) hx hb dX1_due_5 rfl hl (by decide) rfl (fun ls hl => ?_)
  refine lv_iload_n hx hb dX1_due_6 rfl (lv_at hl 3 rfl) ?_
  refine tp_callSv ⟨hx, hb, hml, hown, hts⟩ (oc_checkMonth l D cy n ad o I m0 (by omega)) (va_cwS 1 hts gX1_due_X1_checkMonth rfl rfl rfl (by decide +kernel) ⟨Nat.le_of_ble_eq_true rfl, Nat.le_of_ble_eq_true rfl⟩) hK hP hD hS hA rfl hl.1 rfl (Nat.le_of_ble_eq_true rfl) dX1_due_7 ⟨Nat.zero_le _, Nat.zero_le _⟩ (fun I9 e9 H locs hP hD hS => ?_)
  subst e9
  refine lv_aload_n hx hb dX1_due_10 rfl (lv_at hl 0 rfl) ?_
  refine lv_iload_n hx hb dX1_due_11 rfl (lv_at hl 3 rfl) ?_
  refine tp_callN ⟨hx, hb, hml, hown, hts⟩ (hc_dueIn l D cy n ad o I i hi m0 (by omega)) ⟨va_cnB (host := "TaperOffice") 1 hts gX1_due_X0_dueIn_n102 rfl rfl rfl (hEw _ (List.mem_of_getElem? (i := 14) rfl)) (hts _ (List.mem_of_getElem? (i := 13) rfl)) (by decide +kernel) ⟨Nat.le_of_ble_eq_true rfl, Nat.le_of_ble_eq_true rfl⟩, (hts _ (List.mem_of_getElem? (i := 12) rfl)), (hts _ (List.mem_of_getElem? (i := 14) rfl))⟩ hK hP hD hS hA (9 + 15 * i) 0 (tp_eh hi) rfl rfl rfl hl.1 rfl (Nat.le_of_ble_eq_true rfl) dX1_due_12 ⟨Nat.zero_le _, Nat.zero_le _⟩ (fun I9 e9 H locs hP hD hS => ?_)
  subst e9
  exact tp_reti hx hb hr hlocks hK hP hD hS rfl rfl rfl dX1_due_15
set_option maxHeartbeats 4000000 in
set_option maxRecDepth 100000 in
/-- assessed: no such household -/
theorem op_assessed_no (l : Launch) (D : va_G) (cy : Nat → ClassId) (n : Nat) (ad : Nat → Nat) (o : Int64) (I : Nat → Nat → Int32) (sa : Nat → Nat) (tL tM : Nat) (hlt : l.stackTraces = false) (x : Int32) (hx0 : ∀ i, i < n → x ≠ nI i) (hn6 : n ≤ 6) (k : Int32) : tp_T l yX1_assessed wsX1_assessed 7 112 D cy n ad o sa tL tM [.ref (ad (0)), .int x, .int k] I "java/lang/IndexOutOfBoundsException" := by
  refine tp_ofT (lv := [(0, .ref (ad (0))), (1, .int x), (2, .int k)]) (by decide) rfl (Nat.le_of_ble_eq_true rfl) rfl (fun p e s m args below meth c A ls S0 hE hxt => ?_)
  obtain ⟨hx, hb, hr, hml, hown, hts, hlocks, hA, hK, hP, hD, hS, hl⟩ := S0
  obtain ⟨-, ⟨hEL, hEM⟩, -, hEw, -, hEa, hEo⟩ := id hE
  refine lv_aload_n hx hb dX1_assessed_0 rfl (lv_at hl 0 rfl) ?_
  refine lv_iload_n hx hb dX1_assessed_1 rfl (lv_at hl 1 rfl) ?_
  exact tp_callVT ⟨hx, hb, hml, hown, hts⟩ (oc_existing_no l D cy n ad o I sa tL tM hlt x hx0 hn6) (cwV 1 hts gX1_assessed_X1_existing rfl rfl rfl (by decide +kernel) ⟨Nat.le_of_ble_eq_true rfl, Nat.le_of_ble_eq_true rfl⟩) hE hK hP hD hS hA 0 1 tp_e0 rfl rfl rfl hl.1 rfl (Nat.le_of_ble_eq_true rfl) dX1_assessed_2 ⟨Nat.le_of_ble_eq_true rfl, Nat.le_of_ble_eq_true rfl⟩ (fun ce q9 H locs hce hcv hcl hP hD hS => tp_out hxt hlocks hce hcv hcl hK hP hD hS (Nat.le_of_ble_eq_true rfl) (Nat.le_of_ble_eq_true rfl))
set_option maxHeartbeats 4000000 in
set_option maxRecDepth 100000 in
/-- assessed: no such month -/
theorem op_assessed_nomonth (l : Launch) (D : va_G) (cy : Nat → ClassId) (n : Nat) (ad : Nat → Nat) (o : Int64) (I : Nat → Nat → Int32) (sa : Nat → Nat) (tL tM : Nat) (hlt : l.stackTraces = false) (i : Nat) (hi : i < n) (hn6 : n ≤ 6) (x : Int32) (hx0 : ∀ j, j < 48 → x ≠ nI j) : tp_T l yX1_assessed wsX1_assessed 7 110 D cy n ad o sa tL tM [.ref (ad (0)), .int (nI i), .int x] I "java/lang/IndexOutOfBoundsException" := by
  refine tp_ofT (lv := [(0, .ref (ad (0))), (1, .int (nI i)), (2, .int x)]) (by decide) rfl (Nat.le_of_ble_eq_true rfl) rfl (fun p e s m args below meth c A ls S0 hE hxt => ?_)
  obtain ⟨hx, hb, hr, hml, hown, hts, hlocks, hA, hK, hP, hD, hS, hl⟩ := S0
  obtain ⟨-, ⟨hEL, hEM⟩, -, hEw, -, hEa, hEo⟩ := id hE
  refine lv_aload_n hx hb dX1_assessed_0 rfl (lv_at hl 0 rfl) ?_
  refine lv_iload_n hx hb dX1_assessed_1 rfl (lv_at hl 1 rfl) ?_
  refine tp_callR ⟨hx, hb, hml, hown, hts⟩ (oc_existing l D cy n ad o I i hi hn6) (cwV 1 hts gX1_assessed_X1_existing rfl rfl rfl (by decide +kernel) ⟨Nat.le_of_ble_eq_true rfl, Nat.le_of_ble_eq_true rfl⟩) hK hP hD hS hA 0 1 tp_e0 rfl rfl rfl hl.1 rfl (Nat.le_of_ble_eq_true rfl) dX1_assessed_2 ⟨Nat.zero_le _, Nat.zero_le _⟩ (fun H locs hP hD hS => ?_)
  refine lv_astore_n (lv' := [(3, .ref (ad (9 + 15 * i))), (0, .ref (ad (0))), (1, .int (nI i)), (2, .int x)]) hx hb dX1_assessed_5 rfl hl (by decide) rfl (fun ls hl => ?_)
  refine lv_iload_n hx hb dX1_assessed_6 rfl (lv_at hl 3 rfl) ?_
  exact tp_callST ⟨hx, hb, hml, hown, hts⟩ (oc_checkMonth_no l D cy n ad o I sa tL tM hlt x hx0) (va_cwS 1 hts gX1_assessed_X1_checkMonth rfl rfl rfl (by decide +kernel) ⟨Nat.le_of_ble_eq_true rfl, Nat.le_of_ble_eq_true rfl⟩) hE hK hP hD hS hA rfl hl.1 rfl (Nat.le_of_ble_eq_true rfl) dX1_assessed_7 ⟨Nat.le_of_ble_eq_true rfl, Nat.le_of_ble_eq_true rfl⟩ (fun ce q9 H locs hce hcv hcl hP hD hS => tp_out hxt hlocks hce hcv hcl hK hP hD hS (Nat.le_of_ble_eq_true rfl) (Nat.le_of_ble_eq_true rfl))
set_option maxHeartbeats 4000000 in
set_option maxRecDepth 100000 in
/-- assessed -/
theorem op_assessed_ok (l : Launch) (D : va_G) (cy : Nat → ClassId) (n : Nat) (ad : Nat → Nat) (o : Int64) (I : Nat → Nat → Int32) (sa : Nat → Nat) (tL tM : Nat) (i : Nat) (hi : i < n) (hn6 : n ≤ 6) (m0 : Nat) (hm : m0 < 48) : tp_IE l yX1_assessed wsX1_assessed (tp_rm 1 22) D cy n ad o sa tL tM [.ref (ad (0)), .int (nI i), .int (nI m0)] I (I (9 + 15 * i + 13) m0) (I) := by
  refine tp_ofIE (lv := [(0, .ref (ad (0))), (1, .int (nI i)), (2, .int (nI m0))]) (by decide) rfl (Nat.le_of_ble_eq_true rfl) rfl (fun p e s m args below meth c A ls S0 hE => ?_)
  obtain ⟨hx, hb, hr, hml, hown, hts, hlocks, hA, hK, hP, hD, hS, hl⟩ := S0
  obtain ⟨-, ⟨hEL, hEM⟩, -, hEw, -, hEa, hEo⟩ := id hE
  refine lv_aload_n hx hb dX1_assessed_0 rfl (lv_at hl 0 rfl) ?_
  refine lv_iload_n hx hb dX1_assessed_1 rfl (lv_at hl 1 rfl) ?_
  refine tp_callR ⟨hx, hb, hml, hown, hts⟩ (oc_existing l D cy n ad o I i hi hn6) (cwV 1 hts gX1_assessed_X1_existing rfl rfl rfl (by decide +kernel) ⟨Nat.le_of_ble_eq_true rfl, Nat.le_of_ble_eq_true rfl⟩) hK hP hD hS hA 0 1 tp_e0 rfl rfl rfl hl.1 rfl (Nat.le_of_ble_eq_true rfl) dX1_assessed_2 ⟨Nat.zero_le _, Nat.zero_le _⟩ (fun H locs hP hD hS => ?_)
  refine lv_astore_n (lv' := [(3, .ref (ad (9 + 15 * i))), (0, .ref (ad (0))), (1, .int (nI i)), (2, .int (nI m0))]) hx hb dX1_assessed_5 rfl hl (by decide) rfl (fun ls hl => ?_)
  refine lv_iload_n hx hb dX1_assessed_6 rfl (lv_at hl 3 rfl) ?_
  refine tp_callSv ⟨hx, hb, hml, hown, hts⟩ (oc_checkMonth l D cy n ad o I m0 (by omega)) (va_cwS 1 hts gX1_assessed_X1_checkMonth rfl rfl rfl (by decide +kernel) ⟨Nat.le_of_ble_eq_true rfl, Nat.le_of_ble_eq_true rfl⟩) hK hP hD hS hA rfl hl.1 rfl (Nat.le_of_ble_eq_true rfl) dX1_assessed_7 ⟨Nat.zero_le _, Nat.zero_le _⟩ (fun I9 e9 H locs hP hD hS => ?_)
  subst e9
  refine lv_aload_n hx hb dX1_assessed_10 rfl (lv_at hl 0 rfl) ?_
  refine va_getN (D := D) (host := "TaperOffice") (ci := 0) (v := .ref (ad (9 + 15 * i + 13))) (C := RX0) (T := TX0) (N := 9) hx hb hts (fun _ h => List.mem_cons_of_mem _ (List.mem_append_left _ (List.mem_append_left _ (List.mem_append_right _ (h))))) hown hK hP (9 + 15 * i) (tp_eh hi) rfl 4 (by decide) (va_Nw.use rfl (hEw _ (List.mem_of_getElem? (i := 4) rfl))) (fun _ h9 => h9) rfl dX1_assessed_11 ?_
  refine lv_iload_n hx hb dX1_assessed_14 rfl (lv_at hl 3 rfl) ?_
  refine tp_iald hx hb hK hP (9 + 15 * i + 13) 48 (m0) (by omega) (tp_hA i) rfl (by omega) (by decide) dX1_assessed_15 ?_
  exact tp_reti hx hb hr hlocks hK hP hD hS rfl rfl rfl dX1_assessed_16
set_option maxHeartbeats 4000000 in
set_option maxRecDepth 100000 in
/-- paid: no such household -/
theorem op_paid_no (l : Launch) (D : va_G) (cy : Nat → ClassId) (n : Nat) (ad : Nat → Nat) (o : Int64) (I : Nat → Nat → Int32) (sa : Nat → Nat) (tL tM : Nat) (hlt : l.stackTraces = false) (x : Int32) (hx0 : ∀ i, i < n → x ≠ nI i) (hn6 : n ≤ 6) (k : Int32) : tp_T l yX1_paid wsX1_paid 7 112 D cy n ad o sa tL tM [.ref (ad (0)), .int x, .int k] I "java/lang/IndexOutOfBoundsException" := by
  refine tp_ofT (lv := [(0, .ref (ad (0))), (1, .int x), (2, .int k)]) (by decide) rfl (Nat.le_of_ble_eq_true rfl) rfl (fun p e s m args below meth c A ls S0 hE hxt => ?_)
  obtain ⟨hx, hb, hr, hml, hown, hts, hlocks, hA, hK, hP, hD, hS, hl⟩ := S0
  obtain ⟨-, ⟨hEL, hEM⟩, -, hEw, -, hEa, hEo⟩ := id hE
  refine lv_aload_n hx hb dX1_paid_0 rfl (lv_at hl 0 rfl) ?_
  refine lv_iload_n hx hb dX1_paid_1 rfl (lv_at hl 1 rfl) ?_
  exact tp_callVT ⟨hx, hb, hml, hown, hts⟩ (oc_existing_no l D cy n ad o I sa tL tM hlt x hx0 hn6) (cwV 1 hts gX1_paid_X1_existing rfl rfl rfl (by decide +kernel) ⟨Nat.le_of_ble_eq_true rfl, Nat.le_of_ble_eq_true rfl⟩) hE hK hP hD hS hA 0 1 tp_e0 rfl rfl rfl hl.1 rfl (Nat.le_of_ble_eq_true rfl) dX1_paid_2 ⟨Nat.le_of_ble_eq_true rfl, Nat.le_of_ble_eq_true rfl⟩ (fun ce q9 H locs hce hcv hcl hP hD hS => tp_out hxt hlocks hce hcv hcl hK hP hD hS (Nat.le_of_ble_eq_true rfl) (Nat.le_of_ble_eq_true rfl))
set_option maxHeartbeats 4000000 in
set_option maxRecDepth 100000 in
/-- paid: no such month -/
theorem op_paid_nomonth (l : Launch) (D : va_G) (cy : Nat → ClassId) (n : Nat) (ad : Nat → Nat) (o : Int64) (I : Nat → Nat → Int32) (sa : Nat → Nat) (tL tM : Nat) (hlt : l.stackTraces = false) (i : Nat) (hi : i < n) (hn6 : n ≤ 6) (x : Int32) (hx0 : ∀ j, j < 48 → x ≠ nI j) : tp_T l yX1_paid wsX1_paid 7 110 D cy n ad o sa tL tM [.ref (ad (0)), .int (nI i), .int x] I "java/lang/IndexOutOfBoundsException" := by
  refine tp_ofT (lv := [(0, .ref (ad (0))), (1, .int (nI i)), (2, .int x)]) (by decide) rfl (Nat.le_of_ble_eq_true rfl) rfl (fun p e s m args below meth c A ls S0 hE hxt => ?_)
  obtain ⟨hx, hb, hr, hml, hown, hts, hlocks, hA, hK, hP, hD, hS, hl⟩ := S0
  obtain ⟨-, ⟨hEL, hEM⟩, -, hEw, -, hEa, hEo⟩ := id hE
  refine lv_aload_n hx hb dX1_paid_0 rfl (lv_at hl 0 rfl) ?_
  refine lv_iload_n hx hb dX1_paid_1 rfl (lv_at hl 1 rfl) ?_
  refine tp_callR ⟨hx, hb, hml, hown, hts⟩ (oc_existing l D cy n ad o I i hi hn6) (cwV 1 hts gX1_paid_X1_existing rfl rfl rfl (by decide +kernel) ⟨Nat.le_of_ble_eq_true rfl, Nat.le_of_ble_eq_true rfl⟩) hK hP hD hS hA 0 1 tp_e0 rfl rfl rfl hl.1 rfl (Nat.le_of_ble_eq_true rfl) dX1_paid_2 ⟨Nat.zero_le _, Nat.zero_le _⟩ (fun H locs hP hD hS => ?_)
  refine lv_astore_n (lv' := [(3, .ref (ad (9 + 15 * i))), (0, .ref (ad (0))), (1, .int (nI i)), (2, .int x)]) hx hb dX1_paid_5 rfl hl (by decide) rfl (fun ls hl => ?_)
  refine lv_iload_n hx hb dX1_paid_6 rfl (lv_at hl 3 rfl) ?_
  exact tp_callST ⟨hx, hb, hml, hown, hts⟩ (oc_checkMonth_no l D cy n ad o I sa tL tM hlt x hx0) (va_cwS 1 hts gX1_paid_X1_checkMonth rfl rfl rfl (by decide +kernel) ⟨Nat.le_of_ble_eq_true rfl, Nat.le_of_ble_eq_true rfl⟩) hE hK hP hD hS hA rfl hl.1 rfl (Nat.le_of_ble_eq_true rfl) dX1_paid_7 ⟨Nat.le_of_ble_eq_true rfl, Nat.le_of_ble_eq_true rfl⟩ (fun ce q9 H locs hce hcv hcl hP hD hS => tp_out hxt hlocks hce hcv hcl hK hP hD hS (Nat.le_of_ble_eq_true rfl) (Nat.le_of_ble_eq_true rfl))
set_option maxHeartbeats 4000000 in
set_option maxRecDepth 100000 in
/-- paid -/
theorem op_paid_ok (l : Launch) (D : va_G) (cy : Nat → ClassId) (n : Nat) (ad : Nat → Nat) (o : Int64) (I : Nat → Nat → Int32) (sa : Nat → Nat) (tL tM : Nat) (i : Nat) (hi : i < n) (hn6 : n ≤ 6) (m0 : Nat) (hm : m0 < 48) : tp_IE l yX1_paid wsX1_paid (tp_rm 1 22) D cy n ad o sa tL tM [.ref (ad (0)), .int (nI i), .int (nI m0)] I (I (9 + 15 * i + 14) m0) (I) := by
  refine tp_ofIE (lv := [(0, .ref (ad (0))), (1, .int (nI i)), (2, .int (nI m0))]) (by decide) rfl (Nat.le_of_ble_eq_true rfl) rfl (fun p e s m args below meth c A ls S0 hE => ?_)
  obtain ⟨hx, hb, hr, hml, hown, hts, hlocks, hA, hK, hP, hD, hS, hl⟩ := S0
  obtain ⟨-, ⟨hEL, hEM⟩, -, hEw, -, hEa, hEo⟩ := id hE
  refine lv_aload_n hx hb dX1_paid_0 rfl (lv_at hl 0 rfl) ?_
  refine lv_iload_n hx hb dX1_paid_1 rfl (lv_at hl 1 rfl) ?_
  refine tp_callR ⟨hx, hb, hml, hown, hts⟩ (oc_existing l D cy n ad o I i hi hn6) (cwV 1 hts gX1_paid_X1_existing rfl rfl rfl (by decide +kernel) ⟨Nat.le_of_ble_eq_true rfl, Nat.le_of_ble_eq_true rfl⟩) hK hP hD hS hA 0 1 tp_e0 rfl rfl rfl hl.1 rfl (Nat.le_of_ble_eq_true rfl) dX1_paid_2 ⟨Nat.zero_le _, Nat.zero_le _⟩ (fun H locs hP hD hS => ?_)
  refine lv_astore_n (lv' := [(3, .ref (ad (9 + 15 * i))), (0, .ref (ad (0))), (1, .int (nI i)), (2, .int (nI m0))]) hx hb dX1_paid_5 rfl hl (by decide) rfl (fun ls hl => ?_)
  refine lv_iload_n hx hb dX1_paid_6 rfl (lv_at hl 3 rfl) ?_
  refine tp_callSv ⟨hx, hb, hml, hown, hts⟩ (oc_checkMonth l D cy n ad o I m0 (by omega)) (va_cwS 1 hts gX1_paid_X1_checkMonth rfl rfl rfl (by decide +kernel) ⟨Nat.le_of_ble_eq_true rfl, Nat.le_of_ble_eq_true rfl⟩) hK hP hD hS hA rfl hl.1 rfl (Nat.le_of_ble_eq_true rfl) dX1_paid_7 ⟨Nat.zero_le _, Nat.zero_le _⟩ (fun I9 e9 H locs hP hD hS => ?_)
  subst e9
  refine lv_aload_n hx hb dX1_paid_10 rfl (lv_at hl 0 rfl) ?_
  refine va_getN (D := D) (host := "TaperOffice") (ci := 0) (v := .ref (ad (9 + 15 * i + 14))) (C := RX0) (T := TX0) (N := 9) hx hb hts (fun _ h => List.mem_cons_of_mem _ (List.mem_append_left _ (List.mem_append_left _ (List.mem_append_right _ (h))))) hown hK hP (9 + 15 * i) (tp_eh hi) rfl 5 (by decide) (va_Nw.use rfl (hEw _ (List.mem_of_getElem? (i := 5) rfl))) (fun _ h9 => h9) rfl dX1_paid_11 ?_
  refine lv_iload_n hx hb dX1_paid_14 rfl (lv_at hl 3 rfl) ?_
  refine tp_iald hx hb hK hP (9 + 15 * i + 14) 48 (m0) (by omega) (tp_hP i) rfl (by omega) (by decide) dX1_paid_15 ?_
  exact tp_reti hx hb hr hlocks hK hP hD hS rfl rfl rfl dX1_paid_16
set_option maxHeartbeats 4000000 in
set_option maxRecDepth 100000 in
/-- debt: no such household -/
theorem op_debt_no (l : Launch) (D : va_G) (cy : Nat → ClassId) (n : Nat) (ad : Nat → Nat) (o : Int64) (I : Nat → Nat → Int32) (sa : Nat → Nat) (tL tM : Nat) (hlt : l.stackTraces = false) (x : Int32) (hx0 : ∀ i, i < n → x ≠ nI i) (hn6 : n ≤ 6) : tp_T l yX1_debt wsX1_debt 7 112 D cy n ad o sa tL tM [.ref (ad (0)), .int x] I "java/lang/IndexOutOfBoundsException" := by
  refine tp_ofT (lv := [(0, .ref (ad (0))), (1, .int x)]) (by decide) rfl (Nat.le_of_ble_eq_true rfl) rfl (fun p e s m args below meth c A ls S0 hE hxt => ?_)
  obtain ⟨hx, hb, hr, hml, hown, hts, hlocks, hA, hK, hP, hD, hS, hl⟩ := S0
  obtain ⟨-, ⟨hEL, hEM⟩, -, hEw, -, hEa, hEo⟩ := id hE
  refine lv_aload_n hx hb dX1_debt_0 rfl (lv_at hl 0 rfl) ?_
  refine lv_iload_n hx hb dX1_debt_1 rfl (lv_at hl 1 rfl) ?_
  exact tp_callVT ⟨hx, hb, hml, hown, hts⟩ (oc_existing_no l D cy n ad o I sa tL tM hlt x hx0 hn6) (cwV 1 hts gX1_debt_X1_existing rfl rfl rfl (by decide +kernel) ⟨Nat.le_of_ble_eq_true rfl, Nat.le_of_ble_eq_true rfl⟩) hE hK hP hD hS hA 0 1 tp_e0 rfl rfl rfl hl.1 rfl (Nat.le_of_ble_eq_true rfl) dX1_debt_2 ⟨Nat.le_of_ble_eq_true rfl, Nat.le_of_ble_eq_true rfl⟩ (fun ce q9 H locs hce hcv hcl hP hD hS => tp_out hxt hlocks hce hcv hcl hK hP hD hS (Nat.le_of_ble_eq_true rfl) (Nat.le_of_ble_eq_true rfl))
set_option maxHeartbeats 4000000 in
set_option maxRecDepth 100000 in
/-- debt -/
theorem op_debt_ok (l : Launch) (D : va_G) (cy : Nat → ClassId) (n : Nat) (ad : Nat → Nat) (o : Int64) (I : Nat → Nat → Int32) (sa : Nat → Nat) (tL tM : Nat) (i : Nat) (hi : i < n) (hn6 : n ≤ 6) : tp_IE l yX1_debt wsX1_debt (tp_rm 1 22) D cy n ad o sa tL tM [.ref (ad (0)), .int (nI i)] I (I (9 + 15 * i) 6) (I) := by
  refine tp_ofIE (lv := [(0, .ref (ad (0))), (1, .int (nI i))]) (by decide) rfl (Nat.le_of_ble_eq_true rfl) rfl (fun p e s m args below meth c A ls S0 hE => ?_)
  obtain ⟨hx, hb, hr, hml, hown, hts, hlocks, hA, hK, hP, hD, hS, hl⟩ := S0
  obtain ⟨-, ⟨hEL, hEM⟩, -, hEw, -, hEa, hEo⟩ := id hE
  refine lv_aload_n hx hb dX1_debt_0 rfl (lv_at hl 0 rfl) ?_
  refine lv_iload_n hx hb dX1_debt_1 rfl (lv_at hl 1 rfl) ?_
  refine tp_callR ⟨hx, hb, hml, hown, hts⟩ (oc_existing l D cy n ad o I i hi hn6) (cwV 1 hts gX1_debt_X1_existing rfl rfl rfl (by decide +kernel) ⟨Nat.le_of_ble_eq_true rfl, Nat.le_of_ble_eq_true rfl⟩) hK hP hD hS hA 0 1 tp_e0 rfl rfl rfl hl.1 rfl (Nat.le_of_ble_eq_true rfl) dX1_debt_2 ⟨Nat.zero_le _, Nat.zero_le _⟩ (fun H locs hP hD hS => ?_)
  refine va_getN (D := D) (host := "TaperOffice") (ci := 0) (v := .int (I (9 + 15 * i) 6)) (C := RX0) (T := TX0) (N := 9) hx hb hts (fun _ h => List.mem_cons_of_mem _ (List.mem_append_left _ (List.mem_append_left _ (List.mem_append_right _ (h))))) hown hK hP (9 + 15 * i) (tp_eh hi) rfl 6 (by decide) (va_Nw.use rfl (hEw _ (List.mem_of_getElem? (i := 2) rfl))) (fun _ h9 => h9) rfl dX1_debt_5 ?_
  exact tp_reti hx hb hr hlocks hK hP hD hS rfl rfl rfl dX1_debt_8
set_option maxHeartbeats 4000000 in
set_option maxRecDepth 100000 in
/-- recovered: no such household -/
theorem op_recovered_no (l : Launch) (D : va_G) (cy : Nat → ClassId) (n : Nat) (ad : Nat → Nat) (o : Int64) (I : Nat → Nat → Int32) (sa : Nat → Nat) (tL tM : Nat) (hlt : l.stackTraces = false) (x : Int32) (hx0 : ∀ i, i < n → x ≠ nI i) (hn6 : n ≤ 6) : tp_T l yX1_recovered wsX1_recovered 7 112 D cy n ad o sa tL tM [.ref (ad (0)), .int x] I "java/lang/IndexOutOfBoundsException" := by
  refine tp_ofT (lv := [(0, .ref (ad (0))), (1, .int x)]) (by decide) rfl (Nat.le_of_ble_eq_true rfl) rfl (fun p e s m args below meth c A ls S0 hE hxt => ?_)
  obtain ⟨hx, hb, hr, hml, hown, hts, hlocks, hA, hK, hP, hD, hS, hl⟩ := S0
  obtain ⟨-, ⟨hEL, hEM⟩, -, hEw, -, hEa, hEo⟩ := id hE
  refine lv_aload_n hx hb dX1_recovered_0 rfl (lv_at hl 0 rfl) ?_
  refine lv_iload_n hx hb dX1_recovered_1 rfl (lv_at hl 1 rfl) ?_
  exact tp_callVT ⟨hx, hb, hml, hown, hts⟩ (oc_existing_no l D cy n ad o I sa tL tM hlt x hx0 hn6) (cwV 1 hts gX1_recovered_X1_existing rfl rfl rfl (by decide +kernel) ⟨Nat.le_of_ble_eq_true rfl, Nat.le_of_ble_eq_true rfl⟩) hE hK hP hD hS hA 0 1 tp_e0 rfl rfl rfl hl.1 rfl (Nat.le_of_ble_eq_true rfl) dX1_recovered_2 ⟨Nat.le_of_ble_eq_true rfl, Nat.le_of_ble_eq_true rfl⟩ (fun ce q9 H locs hce hcv hcl hP hD hS => tp_out hxt hlocks hce hcv hcl hK hP hD hS (Nat.le_of_ble_eq_true rfl) (Nat.le_of_ble_eq_true rfl))
set_option maxHeartbeats 4000000 in
set_option maxRecDepth 100000 in
/-- recovered -/
theorem op_recovered_ok (l : Launch) (D : va_G) (cy : Nat → ClassId) (n : Nat) (ad : Nat → Nat) (o : Int64) (I : Nat → Nat → Int32) (sa : Nat → Nat) (tL tM : Nat) (i : Nat) (hi : i < n) (hn6 : n ≤ 6) : tp_IE l yX1_recovered wsX1_recovered (tp_rm 1 22) D cy n ad o sa tL tM [.ref (ad (0)), .int (nI i)] I (I (9 + 15 * i) 7) (I) := by
  refine tp_ofIE (lv := [(0, .ref (ad (0))), (1, .int (nI i))]) (by decide) rfl (Nat.le_of_ble_eq_true rfl) rfl (fun p e s m args below meth c A ls S0 hE => ?_)
  obtain ⟨hx, hb, hr, hml, hown, hts, hlocks, hA, hK, hP, hD, hS, hl⟩ := S0
  obtain ⟨-, ⟨hEL, hEM⟩, -, hEw, -, hEa, hEo⟩ := id hE
  refine lv_aload_n hx hb dX1_recovered_0 rfl (lv_at hl 0 rfl) ?_
  refine lv_iload_n hx hb dX1_recovered_1 rfl (lv_at hl 1 rfl) ?_
  refine tp_callR ⟨hx, hb, hml, hown, hts⟩ (oc_existing l D cy n ad o I i hi hn6) (cwV 1 hts gX1_recovered_X1_existing rfl rfl rfl (by decide +kernel) ⟨Nat.le_of_ble_eq_true rfl, Nat.le_of_ble_eq_true rfl⟩) hK hP hD hS hA 0 1 tp_e0 rfl rfl rfl hl.1 rfl (Nat.le_of_ble_eq_true rfl) dX1_recovered_2 ⟨Nat.zero_le _, Nat.zero_le _⟩ (fun H locs hP hD hS => ?_)
  refine va_getN (D := D) (host := "TaperOffice") (ci := 0) (v := .int (I (9 + 15 * i) 7)) (C := RX0) (T := TX0) (N := 9) hx hb hts (fun _ h => List.mem_cons_of_mem _ (List.mem_append_left _ (List.mem_append_left _ (List.mem_append_right _ (h))))) hown hK hP (9 + 15 * i) (tp_eh hi) rfl 7 (by decide) (va_Nw.use rfl (hEw _ (List.mem_of_getElem? (i := 6) rfl))) (fun _ h9 => h9) rfl dX1_recovered_5 ?_
  exact tp_reti hx hb hr hlocks hK hP hD hS rfl rfl rfl dX1_recovered_8
set_option maxHeartbeats 4000000 in
set_option maxRecDepth 100000 in
/-- fact: no such household -/
theorem op_fact_no (l : Launch) (D : va_G) (cy : Nat → ClassId) (n : Nat) (ad : Nat → Nat) (o : Int64) (I : Nat → Nat → Int32) (sa : Nat → Nat) (tL tM : Nat) (hlt : l.stackTraces = false) (x : Int32) (hx0 : ∀ i, i < n → x ≠ nI i) (hn6 : n ≤ 6) (f k : Int32) : tp_T l yX1_fact wsX1_fact 7 112 D cy n ad o sa tL tM [.ref (ad (0)), .int x, .int f, .int k] I "java/lang/IndexOutOfBoundsException" := by
  refine tp_ofT (lv := [(0, .ref (ad (0))), (1, .int x), (2, .int f), (3, .int k)]) (by decide) rfl (Nat.le_of_ble_eq_true rfl) rfl (fun p e s m args below meth c A ls S0 hE hxt => ?_)
  obtain ⟨hx, hb, hr, hml, hown, hts, hlocks, hA, hK, hP, hD, hS, hl⟩ := S0
  obtain ⟨-, ⟨hEL, hEM⟩, -, hEw, -, hEa, hEo⟩ := id hE
  refine lv_aload_n hx hb dX1_fact_0 rfl (lv_at hl 0 rfl) ?_
  refine lv_iload_n hx hb dX1_fact_1 rfl (lv_at hl 1 rfl) ?_
  exact tp_callVT ⟨hx, hb, hml, hown, hts⟩ (oc_existing_no l D cy n ad o I sa tL tM hlt x hx0 hn6) (cwV 1 hts gX1_fact_X1_existing rfl rfl rfl (by decide +kernel) ⟨Nat.le_of_ble_eq_true rfl, Nat.le_of_ble_eq_true rfl⟩) hE hK hP hD hS hA 0 1 tp_e0 rfl rfl rfl hl.1 rfl (Nat.le_of_ble_eq_true rfl) dX1_fact_2 ⟨Nat.le_of_ble_eq_true rfl, Nat.le_of_ble_eq_true rfl⟩ (fun ce q9 H locs hce hcv hcl hP hD hS => tp_out hxt hlocks hce hcv hcl hK hP hD hS (Nat.le_of_ble_eq_true rfl) (Nat.le_of_ble_eq_true rfl))
set_option maxHeartbeats 4000000 in
set_option maxRecDepth 100000 in
/-- fact: no such month -/
theorem op_fact_nomonth (l : Launch) (D : va_G) (cy : Nat → ClassId) (n : Nat) (ad : Nat → Nat) (o : Int64) (I : Nat → Nat → Int32) (sa : Nat → Nat) (tL tM : Nat) (hlt : l.stackTraces = false) (i : Nat) (hi : i < n) (hn6 : n ≤ 6) (f : Int32) (x : Int32) (hx0 : ∀ j, j < 48 → x ≠ nI j) : tp_T l yX1_fact wsX1_fact 7 110 D cy n ad o sa tL tM [.ref (ad (0)), .int (nI i), .int f, .int x] I "java/lang/IndexOutOfBoundsException" := by
  refine tp_ofT (lv := [(0, .ref (ad (0))), (1, .int (nI i)), (2, .int f), (3, .int x)]) (by decide) rfl (Nat.le_of_ble_eq_true rfl) rfl (fun p e s m args below meth c A ls S0 hE hxt => ?_)
  obtain ⟨hx, hb, hr, hml, hown, hts, hlocks, hA, hK, hP, hD, hS, hl⟩ := S0
  obtain ⟨-, ⟨hEL, hEM⟩, -, hEw, -, hEa, hEo⟩ := id hE
  refine lv_aload_n hx hb dX1_fact_0 rfl (lv_at hl 0 rfl) ?_
  refine lv_iload_n hx hb dX1_fact_1 rfl (lv_at hl 1 rfl) ?_
  refine tp_callR ⟨hx, hb, hml, hown, hts⟩ (oc_existing l D cy n ad o I i hi hn6) (cwV 1 hts gX1_fact_X1_existing rfl rfl rfl (by decide +kernel) ⟨Nat.le_of_ble_eq_true rfl, Nat.le_of_ble_eq_true rfl⟩) hK hP hD hS hA 0 1 tp_e0 rfl rfl rfl hl.1 rfl (Nat.le_of_ble_eq_true rfl) dX1_fact_2 ⟨Nat.zero_le _, Nat.zero_le _⟩ (fun H locs hP hD hS => ?_)
  refine lv_astore (lv' := [(4, .ref (ad (9 + 15 * i))), (0, .ref (ad (0))), (1, .int (nI i)), (2, .int f), (3, .int x)]) hx hb dX1_fact_5 hl (by decide) rfl (fun ls hl => ?_)
  refine lv_iload_n hx hb dX1_fact_7 rfl (lv_at hl 4 rfl) ?_
  exact tp_callST ⟨hx, hb, hml, hown, hts⟩ (oc_checkMonth_no l D cy n ad o I sa tL tM hlt x hx0) (va_cwS 1 hts gX1_fact_X1_checkMonth rfl rfl rfl (by decide +kernel) ⟨Nat.le_of_ble_eq_true rfl, Nat.le_of_ble_eq_true rfl⟩) hE hK hP hD hS hA rfl hl.1 rfl (Nat.le_of_ble_eq_true rfl) dX1_fact_8 ⟨Nat.le_of_ble_eq_true rfl, Nat.le_of_ble_eq_true rfl⟩ (fun ce q9 H locs hce hcv hcl hP hD hS => tp_out hxt hlocks hce hcv hcl hK hP hD hS (Nat.le_of_ble_eq_true rfl) (Nat.le_of_ble_eq_true rfl))
set_option maxHeartbeats 4000000 in
set_option maxRecDepth 100000 in
/-- fact: no such fact -/
theorem op_fact_bad (l : Launch) (D : va_G) (cy : Nat → ClassId) (n : Nat) (ad : Nat → Nat) (o : Int64) (I : Nat → Nat → Int32) (sa : Nat → Nat) (tL tM : Nat) (hlt : l.stackTraces = false) (i : Nat) (hi : i < n) (hn6 : n ≤ 6) (m0 : Nat) (hm : m0 < 48) (x : Int32) (hx0 : ∀ j, j < 5 → x ≠ nI j) : tp_T l yX1_fact wsX1_fact 7 110 D cy n ad o sa tL tM [.ref (ad (0)), .int (nI i), .int x, .int (nI m0)] I "java/lang/IllegalArgumentException" := by
  refine tp_ofT (lv := [(0, .ref (ad (0))), (1, .int (nI i)), (2, .int x), (3, .int (nI m0))]) (by decide) rfl (Nat.le_of_ble_eq_true rfl) rfl (fun p e s m args below meth c A ls S0 hE hxt => ?_)
  obtain ⟨hx, hb, hr, hml, hown, hts, hlocks, hA, hK, hP, hD, hS, hl⟩ := S0
  obtain ⟨-, ⟨hEL, hEM⟩, -, hEw, -, hEa, hEo⟩ := id hE
  refine lv_aload_n hx hb dX1_fact_0 rfl (lv_at hl 0 rfl) ?_
  refine lv_iload_n hx hb dX1_fact_1 rfl (lv_at hl 1 rfl) ?_
  refine tp_callR ⟨hx, hb, hml, hown, hts⟩ (oc_existing l D cy n ad o I i hi hn6) (cwV 1 hts gX1_fact_X1_existing rfl rfl rfl (by decide +kernel) ⟨Nat.le_of_ble_eq_true rfl, Nat.le_of_ble_eq_true rfl⟩) hK hP hD hS hA 0 1 tp_e0 rfl rfl rfl hl.1 rfl (Nat.le_of_ble_eq_true rfl) dX1_fact_2 ⟨Nat.zero_le _, Nat.zero_le _⟩ (fun H locs hP hD hS => ?_)
  refine lv_astore (lv' := [(4, .ref (ad (9 + 15 * i))), (0, .ref (ad (0))), (1, .int (nI i)), (2, .int x), (3, .int (nI m0))]) hx hb dX1_fact_5 hl (by decide) rfl (fun ls hl => ?_)
  refine lv_iload_n hx hb dX1_fact_7 rfl (lv_at hl 4 rfl) ?_
  refine tp_callSv ⟨hx, hb, hml, hown, hts⟩ (oc_checkMonth l D cy n ad o I m0 (by omega)) (va_cwS 1 hts gX1_fact_X1_checkMonth rfl rfl rfl (by decide +kernel) ⟨Nat.le_of_ble_eq_true rfl, Nat.le_of_ble_eq_true rfl⟩) hK hP hD hS hA rfl hl.1 rfl (Nat.le_of_ble_eq_true rfl) dX1_fact_8 ⟨Nat.zero_le _, Nat.zero_le _⟩ (fun I9 e9 H locs hP hD hS => ?_)
  subst e9
  refine lv_iload_n hx hb dX1_fact_11 rfl (lv_at hl 3 rfl) ?_
  exact tp_callST ⟨hx, hb, hml, hown, hts⟩ (oc_checkFact_no l D cy n ad o I sa tL tM hlt x hx0) (va_cwS 1 hts gX1_fact_X1_checkFact rfl rfl rfl (by decide +kernel) ⟨Nat.le_of_ble_eq_true rfl, Nat.le_of_ble_eq_true rfl⟩) hE hK hP hD hS hA rfl hl.1 rfl (Nat.le_of_ble_eq_true rfl) dX1_fact_12 ⟨Nat.le_of_ble_eq_true rfl, Nat.le_of_ble_eq_true rfl⟩ (fun ce q9 H locs hce hcv hcl hP hD hS => tp_out hxt hlocks hce hcv hcl hK hP hD hS (Nat.le_of_ble_eq_true rfl) (Nat.le_of_ble_eq_true rfl))
set_option maxHeartbeats 4000000 in
set_option maxRecDepth 100000 in
/-- fact -/
theorem op_fact_ok (l : Launch) (D : va_G) (cy : Nat → ClassId) (n : Nat) (ad : Nat → Nat) (o : Int64) (I : Nat → Nat → Int32) (sa : Nat → Nat) (tL tM : Nat) (i : Nat) (hi : i < n) (hn6 : n ≤ 6) (f0 m0 : Nat) (hf5 : f0 < 5) (hm : m0 < 48) : tp_IE l yX1_fact wsX1_fact (tp_rm 1 22) D cy n ad o sa tL tM [.ref (ad (0)), .int (nI i), .int (nI f0), .int (nI m0)] I (I (9 + 15 * i + 2 + f0) m0) (I) := by
  refine tp_ofIE (lv := [(0, .ref (ad (0))), (1, .int (nI i)), (2, .int (nI f0)), (3, .int (nI m0))]) (by decide) rfl (Nat.le_of_ble_eq_true rfl) rfl (fun p e s m args below meth c A ls S0 hE => ?_)
  obtain ⟨hx, hb, hr, hml, hown, hts, hlocks, hA, hK, hP, hD, hS, hl⟩ := S0
  obtain ⟨-, ⟨hEL, hEM⟩, -, hEw, -, hEa, hEo⟩ := id hE
  refine lv_aload_n hx hb dX1_fact_0 rfl (lv_at hl 0 rfl) ?_
  refine lv_iload_n hx hb dX1_fact_1 rfl (lv_at hl 1 rfl) ?_
  refine tp_callR ⟨hx, hb, hml, hown, hts⟩ (oc_existing l D cy n ad o I i hi hn6) (cwV 1 hts gX1_fact_X1_existing rfl rfl rfl (by decide +kernel) ⟨Nat.le_of_ble_eq_true rfl, Nat.le_of_ble_eq_true rfl⟩) hK hP hD hS hA 0 1 tp_e0 rfl rfl rfl hl.1 rfl (Nat.le_of_ble_eq_true rfl) dX1_fact_2 ⟨Nat.zero_le _, Nat.zero_le _⟩ (fun H locs hP hD hS => ?_)
  refine lv_astore (lv' := [(4, .ref (ad (9 + 15 * i))), (0, .ref (ad (0))), (1, .int (nI i)), (2, .int (nI f0)), (3, .int (nI m0))]) hx hb dX1_fact_5 hl (by decide) rfl (fun ls hl => ?_)
  refine lv_iload_n hx hb dX1_fact_7 rfl (lv_at hl 4 rfl) ?_
  refine tp_callSv ⟨hx, hb, hml, hown, hts⟩ (oc_checkMonth l D cy n ad o I m0 (by omega)) (va_cwS 1 hts gX1_fact_X1_checkMonth rfl rfl rfl (by decide +kernel) ⟨Nat.le_of_ble_eq_true rfl, Nat.le_of_ble_eq_true rfl⟩) hK hP hD hS hA rfl hl.1 rfl (Nat.le_of_ble_eq_true rfl) dX1_fact_8 ⟨Nat.zero_le _, Nat.zero_le _⟩ (fun I9 e9 H locs hP hD hS => ?_)
  subst e9
  refine lv_iload_n hx hb dX1_fact_11 rfl (lv_at hl 3 rfl) ?_
  refine tp_callSv ⟨hx, hb, hml, hown, hts⟩ (oc_checkFact l D cy n ad o I f0 (by omega)) (va_cwS 1 hts gX1_fact_X1_checkFact rfl rfl rfl (by decide +kernel) ⟨Nat.le_of_ble_eq_true rfl, Nat.le_of_ble_eq_true rfl⟩) hK hP hD hS hA rfl hl.1 rfl (Nat.le_of_ble_eq_true rfl) dX1_fact_12 ⟨Nat.zero_le _, Nat.zero_le _⟩ (fun I9 e9 H locs hP hD hS => ?_)
  subst e9
  refine lv_aload hx hb dX1_fact_15 (lv_at hl 0 rfl) ?_
  refine va_getN (D := D) (host := "TaperOffice") (ci := 0) (v := .ref (ad (9 + 15 * i + 1))) (C := RX0) (T := TX0) (N := 9) hx hb hts (fun _ h => List.mem_cons_of_mem _ (List.mem_append_left _ (List.mem_append_left _ (List.mem_append_left _ (List.mem_append_right _ (h)))))) hown hK hP (9 + 15 * i) (tp_eh hi) rfl 0 (by decide) (va_Nw.use rfl (hEw _ (List.mem_of_getElem? (i := 3) rfl))) (fun _ h9 => h9) rfl dX1_fact_17 ?_
  refine lv_iload_n hx hb dX1_fact_20 rfl (lv_at hl 3 rfl) ?_
  refine tp_aald hx hb hK hP (9 + 15 * i + 1) 5 (f0) (by omega) (tp_hVo i) rfl (by omega) (by decide) dX1_fact_21 ?_
  refine lv_iload_n hx hb dX1_fact_22 rfl (lv_at hl 4 rfl) ?_
  refine tp_iald hx hb hK hP (9 + 15 * i + 2 + f0) 48 (m0) (by omega) (tp_hV i (f := f0) (by omega)) rfl (by omega) (by decide) dX1_fact_23 ?_
  exact tp_reti hx hb hr hlocks hK hP hD hS rfl rfl rfl dX1_fact_24
set_option maxHeartbeats 4000000 in
set_option maxRecDepth 100000 in
/-- unassessed: no such household -/
theorem op_unassessed_no (l : Launch) (D : va_G) (cy : Nat → ClassId) (n : Nat) (ad : Nat → Nat) (o : Int64) (I : Nat → Nat → Int32) (sa : Nat → Nat) (tL tM : Nat) (hlt : l.stackTraces = false) (x : Int32) (hx0 : ∀ i, i < n → x ≠ nI i) (hn6 : n ≤ 6) : tp_T l yX1_unassessed wsX1_unassessed 7 112 D cy n ad o sa tL tM [.ref (ad (0)), .int x] I "java/lang/IndexOutOfBoundsException" := by
  refine tp_ofT (lv := [(0, .ref (ad (0))), (1, .int x)]) (by decide) rfl (Nat.le_of_ble_eq_true rfl) rfl (fun p e s m args below meth c A ls S0 hE hxt => ?_)
  obtain ⟨hx, hb, hr, hml, hown, hts, hlocks, hA, hK, hP, hD, hS, hl⟩ := S0
  obtain ⟨-, ⟨hEL, hEM⟩, -, hEw, -, hEa, hEo⟩ := id hE
  refine lv_aload_n hx hb dX1_unassessed_0 rfl (lv_at hl 0 rfl) ?_
  refine lv_iload_n hx hb dX1_unassessed_1 rfl (lv_at hl 1 rfl) ?_
  exact tp_callVT ⟨hx, hb, hml, hown, hts⟩ (oc_existing_no l D cy n ad o I sa tL tM hlt x hx0 hn6) (cwV 1 hts gX1_unassessed_X1_existing rfl rfl rfl (by decide +kernel) ⟨Nat.le_of_ble_eq_true rfl, Nat.le_of_ble_eq_true rfl⟩) hE hK hP hD hS hA 0 1 tp_e0 rfl rfl rfl hl.1 rfl (Nat.le_of_ble_eq_true rfl) dX1_unassessed_2 ⟨Nat.le_of_ble_eq_true rfl, Nat.le_of_ble_eq_true rfl⟩ (fun ce q9 H locs hce hcv hcl hP hD hS => tp_out hxt hlocks hce hcv hcl hK hP hD hS (Nat.le_of_ble_eq_true rfl) (Nat.le_of_ble_eq_true rfl))
set_option maxHeartbeats 4000000 in
set_option maxRecDepth 100000 in
/-- unassessed -/
theorem op_unassessed_ok (l : Launch) (D : va_G) (cy : Nat → ClassId) (n : Nat) (ad : Nat → Nat) (o : Int64) (I : Nat → Nat → Int32) (sa : Nat → Nat) (tL tM : Nat) (i : Nat) (hi : i < n) (hn6 : n ≤ 6) (a0 e0 : Nat) (ha : I (9 + 15 * i) 3 = nI a0) (he : I 0 2 = nI e0) (ha8 : a0 ≤ 48) (he8 : e0 ≤ 48) : tp_IE l yX1_unassessed wsX1_unassessed (tp_rm 4 89) D cy n ad o sa tL tM [.ref (ad (0)), .int (nI i)] I (tp_open I (9 + 15 * i) a0 e0) (I) := by
  refine tp_ofIE (lv := [(0, .ref (ad (0))), (1, .int (nI i))]) (by decide) rfl (Nat.le_of_ble_eq_true rfl) rfl (fun p e s m args below meth c A ls S0 hE => ?_)
  obtain ⟨hx, hb, hr, hml, hown, hts, hlocks, hA, hK, hP, hD, hS, hl⟩ := S0
  obtain ⟨-, ⟨hEL, hEM⟩, -, hEw, -, hEa, hEo⟩ := id hE
  refine lv_aload_n hx hb dX1_unassessed_0 rfl (lv_at hl 0 rfl) ?_
  refine lv_iload_n hx hb dX1_unassessed_1 rfl (lv_at hl 1 rfl) ?_
  refine tp_callR ⟨hx, hb, hml, hown, hts⟩ (oc_existing l D cy n ad o I i hi hn6) (cwV 1 hts gX1_unassessed_X1_existing rfl rfl rfl (by decide +kernel) ⟨Nat.le_of_ble_eq_true rfl, Nat.le_of_ble_eq_true rfl⟩) hK hP hD hS hA 0 1 tp_e0 rfl rfl rfl hl.1 rfl (Nat.le_of_ble_eq_true rfl) dX1_unassessed_2 ⟨Nat.zero_le _, Nat.zero_le _⟩ (fun H locs hP hD hS => ?_)
  refine lv_aload_n hx hb dX1_unassessed_5 rfl (lv_at hl 0 rfl) ?_
  refine va_get (D := D) (ci := 1) (v := .int (I 0 2)) (C := RX1) (T := TX1) (N := 3) hx hb hts (fun _ h => List.mem_cons_of_mem _ (List.mem_append_left _ (List.mem_append_left _ (List.mem_append_right _ (h))))) hown hK hP 0 tp_e0 rfl 2 (by decide) (hts _ (List.mem_of_getElem? (i := 1) rfl)) (fun _ h9 => h9) rfl dX1_unassessed_6 ?_
  refine tp_eqi (y := nI e0) he ?_
  refine tp_callN ⟨hx, hb, hml, hown, hts⟩ (hc_unassessedBefore l D cy n ad o I i hi a0 e0 ha (by omega) (by omega)) ⟨va_cnB (host := "TaperOffice") 1 hts gX1_unassessed_X0_unassessedBefore_n105 rfl rfl rfl (hEw _ (List.mem_of_getElem? (i := 15) rfl)) (hts _ (List.mem_of_getElem? (i := 11) rfl)) (by decide +kernel) ⟨Nat.le_of_ble_eq_true rfl, Nat.le_of_ble_eq_true rfl⟩, (hts _ (List.mem_of_getElem? (i := 10) rfl)), (hts _ (List.mem_of_getElem? (i := 12) rfl))⟩ hK hP hD hS hA (9 + 15 * i) 0 (tp_eh hi) rfl rfl rfl hl.1 rfl (Nat.le_of_ble_eq_true rfl) dX1_unassessed_9 ⟨Nat.zero_le _, Nat.zero_le _⟩ (fun I9 e9 H locs hP hD hS => ?_)
  subst e9
  exact tp_reti hx hb hr hlocks hK hP hD hS rfl rfl rfl dX1_unassessed_12
set_option maxHeartbeats 4000000 in
set_option maxRecDepth 100000 in
/-- wouldPay: no such household -/
theorem op_wouldPay_no (l : Launch) (D : va_G) (cy : Nat → ClassId) (n : Nat) (ad : Nat → Nat) (o : Int64) (I : Nat → Nat → Int32) (sa : Nat → Nat) (tL tM : Nat) (hlt : l.stackTraces = false) (x : Int32) (hx0 : ∀ i, i < n → x ≠ nI i) (hn6 : n ≤ 6) : tp_T l yX1_wouldPay wsX1_wouldPay 7 112 D cy n ad o sa tL tM [.ref (ad (0)), .int x] I "java/lang/IndexOutOfBoundsException" := by
  refine tp_ofT (lv := [(0, .ref (ad (0))), (1, .int x)]) (by decide) rfl (Nat.le_of_ble_eq_true rfl) rfl (fun p e s m args below meth c A ls S0 hE hxt => ?_)
  obtain ⟨hx, hb, hr, hml, hown, hts, hlocks, hA, hK, hP, hD, hS, hl⟩ := S0
  obtain ⟨-, ⟨hEL, hEM⟩, -, hEw, -, hEa, hEo⟩ := id hE
  refine lv_aload_n hx hb dX1_wouldPay_0 rfl (lv_at hl 0 rfl) ?_
  refine lv_iload_n hx hb dX1_wouldPay_1 rfl (lv_at hl 1 rfl) ?_
  exact tp_callVT ⟨hx, hb, hml, hown, hts⟩ (oc_existing_no l D cy n ad o I sa tL tM hlt x hx0 hn6) (cwV 1 hts gX1_wouldPay_X1_existing rfl rfl rfl (by decide +kernel) ⟨Nat.le_of_ble_eq_true rfl, Nat.le_of_ble_eq_true rfl⟩) hE hK hP hD hS hA 0 1 tp_e0 rfl rfl rfl hl.1 rfl (Nat.le_of_ble_eq_true rfl) dX1_wouldPay_2 ⟨Nat.le_of_ble_eq_true rfl, Nat.le_of_ble_eq_true rfl⟩ (fun ce q9 H locs hce hcv hcl hP hD hS => tp_out hxt hlocks hce hcv hcl hK hP hD hS (Nat.le_of_ble_eq_true rfl) (Nat.le_of_ble_eq_true rfl))
set_option maxHeartbeats 4000000 in
set_option maxRecDepth 100000 in
/-- wouldPay -/
theorem op_wouldPay_ok (l : Launch) (D : va_G) (cy : Nat → ClassId) (n : Nat) (ad : Nat → Nat) (o : Int64) (I : Nat → Nat → Int32) (sa : Nat → Nat) (tL tM : Nat) (i : Nat) (hi : i < n) (hn6 : n ≤ 6) (a0 e0 : Nat) (ha : I (9 + 15 * i) 3 = nI a0) (he : I 0 2 = nI e0) (ha8 : a0 ≤ 48) (he8 : e0 < 48) : tp_IE l yX1_wouldPay wsX1_wouldPay (tp_rm 5 114) D cy n ad o sa tL tM [.ref (ad (0)), .int (nI i)] I (tp_paym I (9 + 15 * i) a0 e0) (I) := by
  refine tp_ofIE (lv := [(0, .ref (ad (0))), (1, .int (nI i))]) (by decide) rfl (Nat.le_of_ble_eq_true rfl) rfl (fun p e s m args below meth c A ls S0 hE => ?_)
  obtain ⟨hx, hb, hr, hml, hown, hts, hlocks, hA, hK, hP, hD, hS, hl⟩ := S0
  obtain ⟨-, ⟨hEL, hEM⟩, -, hEw, -, hEa, hEo⟩ := id hE
  refine lv_aload_n hx hb dX1_wouldPay_0 rfl (lv_at hl 0 rfl) ?_
  refine lv_iload_n hx hb dX1_wouldPay_1 rfl (lv_at hl 1 rfl) ?_
  refine tp_callR ⟨hx, hb, hml, hown, hts⟩ (oc_existing l D cy n ad o I i hi hn6) (cwV 1 hts gX1_wouldPay_X1_existing rfl rfl rfl (by decide +kernel) ⟨Nat.le_of_ble_eq_true rfl, Nat.le_of_ble_eq_true rfl⟩) hK hP hD hS hA 0 1 tp_e0 rfl rfl rfl hl.1 rfl (Nat.le_of_ble_eq_true rfl) dX1_wouldPay_2 ⟨Nat.zero_le _, Nat.zero_le _⟩ (fun H locs hP hD hS => ?_)
  refine lv_astore_n (lv' := [(2, .ref (ad (9 + 15 * i))), (0, .ref (ad (0))), (1, .int (nI i))]) hx hb dX1_wouldPay_5 rfl hl (by decide) rfl (fun ls hl => ?_)
  refine lv_aload_n hx hb dX1_wouldPay_6 rfl (lv_at hl 1 rfl) ?_
  refine va_get (D := D) (ci := 1) (v := .int (I 0 2)) (C := RX1) (T := TX1) (N := 3) hx hb hts (fun _ h => List.mem_cons_of_mem _ (List.mem_append_left _ (List.mem_append_left _ (List.mem_append_right _ (h))))) hown hK hP 0 tp_e0 rfl 2 (by decide) (hts _ (List.mem_of_getElem? (i := 1) rfl)) (fun _ h9 => h9) rfl dX1_wouldPay_7 ?_
  refine tp_eqi (y := nI e0) he ?_
  refine lv_bipush (v := 48) hx hb dX1_wouldPay_10 (by decide) ?_
  refine lv_icmp_ge (tgt := 26) hx hb dX1_wouldPay_12 (by decide) (fun c12_1 => ?_) (fun c12_1 => ?_)
  · exact absurd c12_1 (nI_ge (a := e0) (b := 48) (by omega) (by decide))
  · refine lv_aload_n hx hb dX1_wouldPay_15 rfl (lv_at hl 0 rfl) ?_
    refine lv_aload_n hx hb dX1_wouldPay_16 rfl (lv_at hl 1 rfl) ?_
    refine va_get (D := D) (ci := 1) (v := .int (I 0 2)) (C := RX1) (T := TX1) (N := 3) hx hb hts (fun _ h => List.mem_cons_of_mem _ (List.mem_append_left _ (List.mem_append_left _ (List.mem_append_right _ (h))))) hown hK hP 0 tp_e0 rfl 2 (by decide) (hts _ (List.mem_of_getElem? (i := 1) rfl)) (fun _ h9 => h9) rfl dX1_wouldPay_17 ?_
    refine tp_eqi (y := nI e0) he ?_
    refine tp_callN ⟨hx, hb, hml, hown, hts⟩ (hc_paymentIn l D cy n ad o I i hi a0 e0 ha (by omega) (by omega)) ⟨va_cnB (host := "TaperOffice") 1 hts gX1_wouldPay_X0_paymentIn_n108 rfl rfl rfl (hEw _ (List.mem_of_getElem? (i := 16) rfl)) (hts _ (List.mem_of_getElem? (i := 11) rfl)) (by decide +kernel) ⟨Nat.le_of_ble_eq_true rfl, Nat.le_of_ble_eq_true rfl⟩, (hts _ (List.mem_of_getElem? (i := 10) rfl)), (hts _ (List.mem_of_getElem? (i := 12) rfl))⟩ hK hP hD hS hA (9 + 15 * i) 0 (tp_eh hi) rfl rfl rfl hl.1 rfl (Nat.le_of_ble_eq_true rfl) dX1_wouldPay_20 ⟨Nat.zero_le _, Nat.zero_le _⟩ (fun I9 e9 H locs hP hD hS => ?_)
    subst e9
    refine lv_goto (tgt := 27) hx hb dX1_wouldPay_23 (by decide) ?_
    exact tp_reti hx hb hr hlocks hK hP hD hS rfl rfl rfl dX1_wouldPay_27
set_option maxHeartbeats 4000000 in
set_option maxRecDepth 100000 in
/-- wouldPay -/
theorem op_wouldPay_end (l : Launch) (D : va_G) (cy : Nat → ClassId) (n : Nat) (ad : Nat → Nat) (o : Int64) (I : Nat → Nat → Int32) (sa : Nat → Nat) (tL tM : Nat) (i : Nat) (hi : i < n) (hn6 : n ≤ 6) (a0 e0 : Nat) (ha : I (9 + 15 * i) 3 = nI a0) (he : I 0 2 = nI e0) (ha8 : a0 ≤ 48) (he8 : e0 = 48) : tp_IE l yX1_wouldPay wsX1_wouldPay (tp_rm 1 22) D cy n ad o sa tL tM [.ref (ad (0)), .int (nI i)] I (0) (I) := by
  refine tp_ofIE (lv := [(0, .ref (ad (0))), (1, .int (nI i))]) (by decide) rfl (Nat.le_of_ble_eq_true rfl) rfl (fun p e s m args below meth c A ls S0 hE => ?_)
  obtain ⟨hx, hb, hr, hml, hown, hts, hlocks, hA, hK, hP, hD, hS, hl⟩ := S0
  obtain ⟨-, ⟨hEL, hEM⟩, -, hEw, -, hEa, hEo⟩ := id hE
  refine lv_aload_n hx hb dX1_wouldPay_0 rfl (lv_at hl 0 rfl) ?_
  refine lv_iload_n hx hb dX1_wouldPay_1 rfl (lv_at hl 1 rfl) ?_
  refine tp_callR ⟨hx, hb, hml, hown, hts⟩ (oc_existing l D cy n ad o I i hi hn6) (cwV 1 hts gX1_wouldPay_X1_existing rfl rfl rfl (by decide +kernel) ⟨Nat.le_of_ble_eq_true rfl, Nat.le_of_ble_eq_true rfl⟩) hK hP hD hS hA 0 1 tp_e0 rfl rfl rfl hl.1 rfl (Nat.le_of_ble_eq_true rfl) dX1_wouldPay_2 ⟨Nat.zero_le _, Nat.zero_le _⟩ (fun H locs hP hD hS => ?_)
  refine lv_astore_n (lv' := [(2, .ref (ad (9 + 15 * i))), (0, .ref (ad (0))), (1, .int (nI i))]) hx hb dX1_wouldPay_5 rfl hl (by decide) rfl (fun ls hl => ?_)
  refine lv_aload_n hx hb dX1_wouldPay_6 rfl (lv_at hl 1 rfl) ?_
  refine va_get (D := D) (ci := 1) (v := .int (I 0 2)) (C := RX1) (T := TX1) (N := 3) hx hb hts (fun _ h => List.mem_cons_of_mem _ (List.mem_append_left _ (List.mem_append_left _ (List.mem_append_right _ (h))))) hown hK hP 0 tp_e0 rfl 2 (by decide) (hts _ (List.mem_of_getElem? (i := 1) rfl)) (fun _ h9 => h9) rfl dX1_wouldPay_7 ?_
  refine tp_eqi (y := nI e0) he ?_
  refine lv_bipush (v := 48) hx hb dX1_wouldPay_10 (by decide) ?_
  refine lv_icmp_ge (tgt := 26) hx hb dX1_wouldPay_12 (by decide) (fun c12_1 => ?_) (fun c12_1 => ?_)
  · refine lv_iconst (v := 0) hx hb dX1_wouldPay_26 (by decide) ?_
    exact tp_reti hx hb hr hlocks hK hP hD hS rfl rfl rfl dX1_wouldPay_27
  · exact absurd (show (48 : Int32) ≤ nI e0 by rw [he8]; exact (by decide)) c12_1
set_option maxHeartbeats 4000000 in
set_option maxRecDepth 100000 in
/-- dispute: no such household -/
theorem op_dispute_no (l : Launch) (D : va_G) (cy : Nat → ClassId) (n : Nat) (ad : Nat → Nat) (o : Int64) (I : Nat → Nat → Int32) (sa : Nat → Nat) (tL tM : Nat) (hlt : l.stackTraces = false) (x : Int32) (hx0 : ∀ i, i < n → x ≠ nI i) (hn6 : n ≤ 6) (v : Int32) : tp_T l yX1_dispute wsX1_dispute 7 112 D cy n ad o sa tL tM [.ref (ad (0)), .int x, .int v] I "java/lang/IndexOutOfBoundsException" := by
  refine tp_ofT (lv := [(0, .ref (ad (0))), (1, .int x), (2, .int v)]) (by decide) rfl (Nat.le_of_ble_eq_true rfl) rfl (fun p e s m args below meth c A ls S0 hE hxt => ?_)
  obtain ⟨hx, hb, hr, hml, hown, hts, hlocks, hA, hK, hP, hD, hS, hl⟩ := S0
  obtain ⟨-, ⟨hEL, hEM⟩, -, hEw, -, hEa, hEo⟩ := id hE
  refine lv_aload_n hx hb dX1_dispute_0 rfl (lv_at hl 0 rfl) ?_
  refine lv_iload_n hx hb dX1_dispute_1 rfl (lv_at hl 1 rfl) ?_
  exact tp_callVT ⟨hx, hb, hml, hown, hts⟩ (oc_existing_no l D cy n ad o I sa tL tM hlt x hx0 hn6) (cwV 1 hts gX1_dispute_X1_existing rfl rfl rfl (by decide +kernel) ⟨Nat.le_of_ble_eq_true rfl, Nat.le_of_ble_eq_true rfl⟩) hE hK hP hD hS hA 0 1 tp_e0 rfl rfl rfl hl.1 rfl (Nat.le_of_ble_eq_true rfl) dX1_dispute_2 ⟨Nat.le_of_ble_eq_true rfl, Nat.le_of_ble_eq_true rfl⟩ (fun ce q9 H locs hce hcv hcl hP hD hS => tp_out hxt hlocks hce hcv hcl hK hP hD hS (Nat.le_of_ble_eq_true rfl) (Nat.le_of_ble_eq_true rfl))
set_option maxHeartbeats 4000000 in
set_option maxRecDepth 100000 in
/-- dispute -/
theorem op_dispute_ok (l : Launch) (D : va_G) (cy : Nat → ClassId) (n : Nat) (ad : Nat → Nat) (o : Int64) (I : Nat → Nat → Int32) (sa : Nat → Nat) (tL tM : Nat) (i : Nat) (hi : i < n) (hn6 : n ≤ 6) (v : Int32) (hv01 : v = 0 ∨ v = 1) (hd01 : I (9 + 15 * i) 8 = 0 ∨ I (9 + 15 * i) 8 = 1) : tp_IE l yX1_dispute wsX1_dispute (tp_rm 1 22) D cy n ad o sa tL tM [.ref (ad (0)), .int (nI i), .int v] I (I (9 + 15 * i) 8) (tp_u I (9 + 15 * i) 8 v) := by
  refine tp_ofIE (lv := [(0, .ref (ad (0))), (1, .int (nI i)), (2, .int v)]) (by decide) rfl (Nat.le_of_ble_eq_true rfl) rfl (fun p e s m args below meth c A ls S0 hE => ?_)
  obtain ⟨hx, hb, hr, hml, hown, hts, hlocks, hA, hK, hP, hD, hS, hl⟩ := S0
  obtain ⟨-, ⟨hEL, hEM⟩, -, hEw, -, hEa, hEo⟩ := id hE
  refine lv_aload_n hx hb dX1_dispute_0 rfl (lv_at hl 0 rfl) ?_
  refine lv_iload_n hx hb dX1_dispute_1 rfl (lv_at hl 1 rfl) ?_
  refine tp_callR ⟨hx, hb, hml, hown, hts⟩ (oc_existing l D cy n ad o I i hi hn6) (cwV 1 hts gX1_dispute_X1_existing rfl rfl rfl (by decide +kernel) ⟨Nat.le_of_ble_eq_true rfl, Nat.le_of_ble_eq_true rfl⟩) hK hP hD hS hA 0 1 tp_e0 rfl rfl rfl hl.1 rfl (Nat.le_of_ble_eq_true rfl) dX1_dispute_2 ⟨Nat.zero_le _, Nat.zero_le _⟩ (fun H locs hP hD hS => ?_)
  refine lv_astore_n (lv' := [(3, .ref (ad (9 + 15 * i))), (0, .ref (ad (0))), (1, .int (nI i)), (2, .int v)]) hx hb dX1_dispute_5 rfl hl (by decide) rfl (fun ls hl => ?_)
  refine lv_aload_n hx hb dX1_dispute_6 rfl (lv_at hl 0 rfl) ?_
  refine va_getN (D := D) (host := "TaperOffice") (ci := 0) (v := .int (I (9 + 15 * i) 8)) (C := RX0) (T := TX0) (N := 9) hx hb hts (fun _ h => List.mem_cons_of_mem _ (List.mem_append_left _ (List.mem_append_left _ (List.mem_append_right _ (h))))) hown hK hP (9 + 15 * i) (tp_eh hi) rfl 8 (by decide) (va_Nw.use rfl (hEw _ (List.mem_of_getElem? (i := 1) rfl))) (fun _ h9 => h9) rfl dX1_dispute_7 ?_
  refine lv_istore (lv' := [(4, .int (I (9 + 15 * i) 8)), (3, .ref (ad (9 + 15 * i))), (0, .ref (ad (0))), (1, .int (nI i)), (2, .int v)]) hx hb dX1_dispute_10 hl (by decide) rfl (fun ls hl => ?_)
  refine lv_aload_n hx hb dX1_dispute_12 rfl (lv_at hl 1 rfl) ?_
  refine lv_iload_n hx hb dX1_dispute_13 rfl (lv_at hl 4 rfl) ?_
  refine tp_putN (host := "TaperOffice") (ci := 0) (v := v) (ty := .boolean) (C := RX0) (T := TX0) (N := 9) hx hb hts (fun _ h => List.mem_cons_of_mem _ (List.mem_append_left _ (List.mem_append_left _ (List.mem_append_right _ (h))))) tyX0 tyX0_ok nmX0 hown hK hP hD hS (9 + 15 * i) (tp_eh hi) (by omega) rfl 8 (by decide) (va_Nw.use rfl (hEw _ (List.mem_of_getElem? (i := 1) rfl))) rfl (by decide +kernel) (by rcases hv01 with rfl | rfl <;> rfl) (by rcases hv01 with rfl | rfl <;> rfl) (Nat.le_of_ble_eq_true rfl) (tp_ch8 i _) dX1_dispute_14 (fun H locs hP hD hS => ?_)
  refine lv_iload hx hb dX1_dispute_17 (lv_at hl 0 rfl) ?_
  exact tp_reti hx hb hr hlocks hK hP hD hS (by rcases hd01 with z | z <;> rw [z] <;> rfl) rfl rfl dX1_dispute_19
set_option maxHeartbeats 4000000 in
set_option maxRecDepth 100000 in
/-- payBack: no such household -/
theorem op_payBack_no (l : Launch) (D : va_G) (cy : Nat → ClassId) (n : Nat) (ad : Nat → Nat) (o : Int64) (I : Nat → Nat → Int32) (sa : Nat → Nat) (tL tM : Nat) (hlt : l.stackTraces = false) (x : Int32) (hx0 : ∀ i, i < n → x ≠ nI i) (hn6 : n ≤ 6) (z : Int32) : tp_T l yX1_payBack wsX1_payBack 7 112 D cy n ad o sa tL tM [.ref (ad (0)), .int x, .int z] I "java/lang/IndexOutOfBoundsException" := by
  refine tp_ofT (lv := [(0, .ref (ad (0))), (1, .int x), (2, .int z)]) (by decide) rfl (Nat.le_of_ble_eq_true rfl) rfl (fun p e s m args below meth c A ls S0 hE hxt => ?_)
  obtain ⟨hx, hb, hr, hml, hown, hts, hlocks, hA, hK, hP, hD, hS, hl⟩ := S0
  obtain ⟨-, ⟨hEL, hEM⟩, -, hEw, -, hEa, hEo⟩ := id hE
  refine lv_aload_n hx hb dX1_payBack_0 rfl (lv_at hl 0 rfl) ?_
  refine lv_iload_n hx hb dX1_payBack_1 rfl (lv_at hl 1 rfl) ?_
  exact tp_callVT ⟨hx, hb, hml, hown, hts⟩ (oc_existing_no l D cy n ad o I sa tL tM hlt x hx0 hn6) (cwV 1 hts gX1_payBack_X1_existing rfl rfl rfl (by decide +kernel) ⟨Nat.le_of_ble_eq_true rfl, Nat.le_of_ble_eq_true rfl⟩) hE hK hP hD hS hA 0 1 tp_e0 rfl rfl rfl hl.1 rfl (Nat.le_of_ble_eq_true rfl) dX1_payBack_2 ⟨Nat.le_of_ble_eq_true rfl, Nat.le_of_ble_eq_true rfl⟩ (fun ce q9 H locs hce hcv hcl hP hD hS => tp_out hxt hlocks hce hcv hcl hK hP hD hS (Nat.le_of_ble_eq_true rfl) (Nat.le_of_ble_eq_true rfl))
set_option maxHeartbeats 4000000 in
set_option maxRecDepth 100000 in
/-- payBack: bad -/
theorem op_payBack_bad (l : Launch) (D : va_G) (cy : Nat → ClassId) (n : Nat) (ad : Nat → Nat) (o : Int64) (I : Nat → Nat → Int32) (sa : Nat → Nat) (tL tM : Nat) (hlt : l.stackTraces = false) (i : Nat) (hi : i < n) (hn6 : n ≤ 6) (x : Int32) (hxb : x < 1 ∨ ¬ x ≤ 1000000) : tp_T l yX1_payBack wsX1_payBack 6 90 D cy n ad o sa tL tM [.ref (ad (0)), .int (nI i), .int x] I "java/lang/IllegalArgumentException" := by
  refine tp_ofT (lv := [(0, .ref (ad (0))), (1, .int (nI i)), (2, .int x)]) (by decide) rfl (Nat.le_of_ble_eq_true rfl) rfl (fun p e s m args below meth c A ls S0 hE hxt => ?_)
  obtain ⟨hx, hb, hr, hml, hown, hts, hlocks, hA, hK, hP, hD, hS, hl⟩ := S0
  obtain ⟨-, ⟨hEL, hEM⟩, -, hEw, -, hEa, hEo⟩ := id hE
  refine lv_aload_n hx hb dX1_payBack_0 rfl (lv_at hl 0 rfl) ?_
  refine lv_iload_n hx hb dX1_payBack_1 rfl (lv_at hl 1 rfl) ?_
  refine tp_callR ⟨hx, hb, hml, hown, hts⟩ (oc_existing l D cy n ad o I i hi hn6) (cwV 1 hts gX1_payBack_X1_existing rfl rfl rfl (by decide +kernel) ⟨Nat.le_of_ble_eq_true rfl, Nat.le_of_ble_eq_true rfl⟩) hK hP hD hS hA 0 1 tp_e0 rfl rfl rfl hl.1 rfl (Nat.le_of_ble_eq_true rfl) dX1_payBack_2 ⟨Nat.zero_le _, Nat.zero_le _⟩ (fun H locs hP hD hS => ?_)
  refine lv_astore_n (lv' := [(3, .ref (ad (9 + 15 * i))), (0, .ref (ad (0))), (1, .int (nI i)), (2, .int x)]) hx hb dX1_payBack_5 rfl hl (by decide) rfl (fun ls hl => ?_)
  refine lv_iload_n hx hb dX1_payBack_6 rfl (lv_at hl 3 rfl) ?_
  refine lv_iconst (v := 1) hx hb dX1_payBack_7 (by decide) ?_
  refine lv_icmp_lt (tgt := 17) hx hb dX1_payBack_8 (by decide) (fun c8_1 => ?_) (fun c8_1 => ?_)
  · exact tp_throw (text := "the cents are out of range") (ik := 41) (is := 73) (ic := 45) hx hb hlt hown (by decide +kernel) (hts _ (List.mem_of_getElem? (i := 1) rfl)) (hts _ (List.mem_of_getElem? (i := 2) rfl)) (by decide) (fun w h => hts w (List.mem_cons_of_mem _ (List.mem_append_left _ (List.mem_append_left _ (List.mem_append_right _ (h)))))) (by decide +kernel) (by decide +kernel) hE hK hP hD hS (hl.1.trans hml.symm) dX1_payBack_17 dX1_payBack_20 dX1_payBack_21 dX1_payBack_23 dX1_payBack_26 hxt hlocks (Nat.le_of_ble_eq_true rfl) (Nat.le_of_ble_eq_true rfl) (Nat.le_of_ble_eq_true rfl) (Nat.le_of_ble_eq_true rfl)
  · refine lv_iload_n hx hb dX1_payBack_11 rfl (lv_at hl 3 rfl) ?_
    refine lv_ldc (v := 1000000) hx hb hown (hts _ (List.mem_of_getElem? (i := 5) rfl)) dX1_payBack_12 ?_
    refine lv_icmp_le (tgt := 27) hx hb dX1_payBack_14 (by decide) (fun c14_2 => ?_) (fun c14_2 => ?_)
    · exact absurd hxb (fun z => z.elim c8_1 (fun z => z c14_2))
    · exact tp_throw (text := "the cents are out of range") (ik := 41) (is := 73) (ic := 45) hx hb hlt hown (by decide +kernel) (hts _ (List.mem_of_getElem? (i := 1) rfl)) (hts _ (List.mem_of_getElem? (i := 2) rfl)) (by decide) (fun w h => hts w (List.mem_cons_of_mem _ (List.mem_append_left _ (List.mem_append_left _ (List.mem_append_right _ (h)))))) (by decide +kernel) (by decide +kernel) hE hK hP hD hS (hl.1.trans hml.symm) dX1_payBack_17 dX1_payBack_20 dX1_payBack_21 dX1_payBack_23 dX1_payBack_26 hxt hlocks (Nat.le_of_ble_eq_true rfl) (Nat.le_of_ble_eq_true rfl) (Nat.le_of_ble_eq_true rfl) (Nat.le_of_ble_eq_true rfl)
set_option maxHeartbeats 4000000 in
set_option maxRecDepth 100000 in
/-- payBack: less -/
theorem op_payBack_less (l : Launch) (D : va_G) (cy : Nat → ClassId) (n : Nat) (ad : Nat → Nat) (o : Int64) (I : Nat → Nat → Int32) (sa : Nat → Nat) (tL tM : Nat) (hlt : l.stackTraces = false) (i : Nat) (hi : i < n) (hn6 : n ≤ 6) (x : Int32) (hx1 : ¬ x < 1) (hx2 : x ≤ 1000000) (hx3 : ¬ x ≤ I (9 + 15 * i) 6) : tp_T l yX1_payBack wsX1_payBack 6 90 D cy n ad o sa tL tM [.ref (ad (0)), .int (nI i), .int x] I "java/lang/IllegalStateException" := by
  refine tp_ofT (lv := [(0, .ref (ad (0))), (1, .int (nI i)), (2, .int x)]) (by decide) rfl (Nat.le_of_ble_eq_true rfl) rfl (fun p e s m args below meth c A ls S0 hE hxt => ?_)
  obtain ⟨hx, hb, hr, hml, hown, hts, hlocks, hA, hK, hP, hD, hS, hl⟩ := S0
  obtain ⟨-, ⟨hEL, hEM⟩, -, hEw, -, hEa, hEo⟩ := id hE
  refine lv_aload_n hx hb dX1_payBack_0 rfl (lv_at hl 0 rfl) ?_
  refine lv_iload_n hx hb dX1_payBack_1 rfl (lv_at hl 1 rfl) ?_
  refine tp_callR ⟨hx, hb, hml, hown, hts⟩ (oc_existing l D cy n ad o I i hi hn6) (cwV 1 hts gX1_payBack_X1_existing rfl rfl rfl (by decide +kernel) ⟨Nat.le_of_ble_eq_true rfl, Nat.le_of_ble_eq_true rfl⟩) hK hP hD hS hA 0 1 tp_e0 rfl rfl rfl hl.1 rfl (Nat.le_of_ble_eq_true rfl) dX1_payBack_2 ⟨Nat.zero_le _, Nat.zero_le _⟩ (fun H locs hP hD hS => ?_)
  refine lv_astore_n (lv' := [(3, .ref (ad (9 + 15 * i))), (0, .ref (ad (0))), (1, .int (nI i)), (2, .int x)]) hx hb dX1_payBack_5 rfl hl (by decide) rfl (fun ls hl => ?_)
  refine lv_iload_n hx hb dX1_payBack_6 rfl (lv_at hl 3 rfl) ?_
  refine lv_iconst (v := 1) hx hb dX1_payBack_7 (by decide) ?_
  refine lv_icmp_lt (tgt := 17) hx hb dX1_payBack_8 (by decide) (fun c8_1 => ?_) (fun c8_1 => ?_)
  · exact absurd c8_1 hx1
  · refine lv_iload_n hx hb dX1_payBack_11 rfl (lv_at hl 3 rfl) ?_
    refine lv_ldc (v := 1000000) hx hb hown (hts _ (List.mem_of_getElem? (i := 5) rfl)) dX1_payBack_12 ?_
    refine lv_icmp_le (tgt := 27) hx hb dX1_payBack_14 (by decide) (fun c14_2 => ?_) (fun c14_2 => ?_)
    · refine lv_aload_n hx hb dX1_payBack_27 rfl (lv_at hl 0 rfl) ?_
      refine va_getN (D := D) (host := "TaperOffice") (ci := 0) (v := .int (I (9 + 15 * i) 6)) (C := RX0) (T := TX0) (N := 9) hx hb hts (fun _ h => List.mem_cons_of_mem _ (List.mem_append_left _ (List.mem_append_left _ (List.mem_append_left _ (List.mem_append_left _ (List.mem_append_right _ (h))))))) hown hK hP (9 + 15 * i) (tp_eh hi) rfl 6 (by decide) (va_Nw.use rfl (hEw _ (List.mem_of_getElem? (i := 2) rfl))) (fun _ h9 => h9) rfl dX1_payBack_28 ?_
      refine lv_iload_n hx hb dX1_payBack_31 rfl (lv_at hl 3 rfl) ?_
      refine lv_icmp_ge (tgt := 45) hx hb dX1_payBack_32 (by decide) (fun c32_3 => ?_) (fun c32_3 => ?_)
      · exact absurd c32_3 hx3
      · exact tp_throw (text := "the debt is less than that") (ik := 22) (is := 78) (ic := 26) hx hb hlt hown (by decide +kernel) (hts _ (List.mem_of_getElem? (i := 3) rfl)) (hts _ (List.mem_of_getElem? (i := 4) rfl)) (by decide) (fun w h => hts w (List.mem_cons_of_mem _ (List.mem_append_left _ (List.mem_append_right _ (h))))) (by decide +kernel) (by decide +kernel) hE hK hP hD hS (hl.1.trans hml.symm) dX1_payBack_35 dX1_payBack_38 dX1_payBack_39 dX1_payBack_41 dX1_payBack_44 hxt hlocks (Nat.le_of_ble_eq_true rfl) (Nat.le_of_ble_eq_true rfl) (Nat.le_of_ble_eq_true rfl) (Nat.le_of_ble_eq_true rfl)
    · exact absurd hx2 c14_2
set_option maxHeartbeats 4000000 in
set_option maxRecDepth 100000 in
/-- payBack: ok -/
theorem op_payBack_ok (l : Launch) (D : va_G) (cy : Nat → ClassId) (n : Nat) (ad : Nat → Nat) (o : Int64) (I : Nat → Nat → Int32) (sa : Nat → Nat) (tL tM : Nat) (i : Nat) (hi : i < n) (hn6 : n ≤ 6) (x : Int32) (hx1 : ¬ x < 1) (hx2 : x ≤ 1000000) (hx3 : x ≤ I (9 + 15 * i) 6) : tp_IE l yX1_payBack wsX1_payBack (tp_rm 1 22) D cy n ad o sa tL tM [.ref (ad (0)), .int (nI i), .int x] I (I (9 + 15 * i) 6 - x) (tp_u (tp_u I (9 + 15 * i) 6 (I (9 + 15 * i) 6 - x)) (9 + 15 * i) 7 (I (9 + 15 * i) 7 + x)) := by
  refine tp_ofIE (lv := [(0, .ref (ad (0))), (1, .int (nI i)), (2, .int x)]) (by decide) rfl (Nat.le_of_ble_eq_true rfl) rfl (fun p e s m args below meth c A ls S0 hE => ?_)
  obtain ⟨hx, hb, hr, hml, hown, hts, hlocks, hA, hK, hP, hD, hS, hl⟩ := S0
  obtain ⟨-, ⟨hEL, hEM⟩, -, hEw, -, hEa, hEo⟩ := id hE
  refine lv_aload_n hx hb dX1_payBack_0 rfl (lv_at hl 0 rfl) ?_
  refine lv_iload_n hx hb dX1_payBack_1 rfl (lv_at hl 1 rfl) ?_
  refine tp_callR ⟨hx, hb, hml, hown, hts⟩ (oc_existing l D cy n ad o I i hi hn6) (cwV 1 hts gX1_payBack_X1_existing rfl rfl rfl (by decide +kernel) ⟨Nat.le_of_ble_eq_true rfl, Nat.le_of_ble_eq_true rfl⟩) hK hP hD hS hA 0 1 tp_e0 rfl rfl rfl hl.1 rfl (Nat.le_of_ble_eq_true rfl) dX1_payBack_2 ⟨Nat.zero_le _, Nat.zero_le _⟩ (fun H locs hP hD hS => ?_)
  refine lv_astore_n (lv' := [(3, .ref (ad (9 + 15 * i))), (0, .ref (ad (0))), (1, .int (nI i)), (2, .int x)]) hx hb dX1_payBack_5 rfl hl (by decide) rfl (fun ls hl => ?_)
  refine lv_iload_n hx hb dX1_payBack_6 rfl (lv_at hl 3 rfl) ?_
  refine lv_iconst (v := 1) hx hb dX1_payBack_7 (by decide) ?_
  refine lv_icmp_lt (tgt := 17) hx hb dX1_payBack_8 (by decide) (fun c8_1 => ?_) (fun c8_1 => ?_)
  · exact absurd c8_1 hx1
  · refine lv_iload_n hx hb dX1_payBack_11 rfl (lv_at hl 3 rfl) ?_
    refine lv_ldc (v := 1000000) hx hb hown (hts _ (List.mem_of_getElem? (i := 5) rfl)) dX1_payBack_12 ?_
    refine lv_icmp_le (tgt := 27) hx hb dX1_payBack_14 (by decide) (fun c14_2 => ?_) (fun c14_2 => ?_)
    · refine lv_aload_n hx hb dX1_payBack_27 rfl (lv_at hl 0 rfl) ?_
      refine va_getN (D := D) (host := "TaperOffice") (ci := 0) (v := .int (I (9 + 15 * i) 6)) (C := RX0) (T := TX0) (N := 9) hx hb hts (fun _ h => List.mem_cons_of_mem _ (List.mem_append_left _ (List.mem_append_left _ (List.mem_append_left _ (List.mem_append_left _ (List.mem_append_right _ (h))))))) hown hK hP (9 + 15 * i) (tp_eh hi) rfl 6 (by decide) (va_Nw.use rfl (hEw _ (List.mem_of_getElem? (i := 2) rfl))) (fun _ h9 => h9) rfl dX1_payBack_28 ?_
      refine lv_iload_n hx hb dX1_payBack_31 rfl (lv_at hl 3 rfl) ?_
      refine lv_icmp_ge (tgt := 45) hx hb dX1_payBack_32 (by decide) (fun c32_3 => ?_) (fun c32_3 => ?_)
      · refine lv_aload_n hx hb dX1_payBack_45 rfl (lv_at hl 0 rfl) ?_
        refine lv_iload_n hx hb dX1_payBack_46 rfl (lv_at hl 3 rfl) ?_
        refine tp_callNv ⟨hx, hb, hml, hown, hts⟩ (hc_lowerDebt l D cy n ad o I i hi x) ⟨va_cnB (host := "TaperOffice") 1 hts gX1_payBack_X0_lowerDebt_n80 rfl rfl rfl (hEw _ (List.mem_of_getElem? (i := 9) rfl)) (hts _ (List.mem_of_getElem? (i := 15) rfl)) (by decide +kernel) ⟨Nat.le_of_ble_eq_true rfl, Nat.le_of_ble_eq_true rfl⟩, (hts _ (List.mem_of_getElem? (i := 14) rfl)), (hts _ (List.mem_of_getElem? (i := 16) rfl))⟩ hK hP hD hS hA (9 + 15 * i) 0 (tp_eh hi) rfl rfl rfl hl.1 rfl (Nat.le_of_ble_eq_true rfl) dX1_payBack_47 ⟨Nat.zero_le _, Nat.zero_le _⟩ (fun I9 e9 H locs hP hD hS => ?_)
        subst e9
        refine lv_aload_n hx hb dX1_payBack_50 rfl (lv_at hl 0 rfl) ?_
        refine va_getN (D := D) (host := "TaperOffice") (ci := 0) (v := .int ((tp_u (tp_u I (9 + 15 * i) 6 (I (9 + 15 * i) 6 - x)) (9 + 15 * i) 7 (I (9 + 15 * i) 7 + x)) (9 + 15 * i) 6)) (C := RX0) (T := TX0) (N := 9) hx hb hts (fun _ h => List.mem_cons_of_mem _ (List.mem_append_left _ (List.mem_append_left _ (List.mem_append_left _ (List.mem_append_left _ (List.mem_append_right _ (h))))))) hown hK hP (9 + 15 * i) (tp_eh hi) rfl 6 (by decide) (va_Nw.use rfl (hEw _ (List.mem_of_getElem? (i := 2) rfl))) (fun _ h9 => h9) rfl dX1_payBack_51 ?_
        refine tp_eqi (y := (I (9 + 15 * i) 6 - x)) (by rw [tp_u_n (b := 6) (j := 7) (by decide), tp_u_s]) ?_
        exact tp_reti hx hb hr hlocks hK hP hD hS rfl rfl rfl dX1_payBack_54
      · exact absurd hx3 c32_3
    · exact absurd hx2 c14_2
set_option maxHeartbeats 4000000 in
set_option maxRecDepth 100000 in
/-- tell: no such household -/
theorem op_tell_no (l : Launch) (D : va_G) (cy : Nat → ClassId) (n : Nat) (ad : Nat → Nat) (o : Int64) (I : Nat → Nat → Int32) (sa : Nat → Nat) (tL tM : Nat) (hlt : l.stackTraces = false) (x : Int32) (hx0 : ∀ i, i < n → x ≠ nI i) (hn6 : n ≤ 6) (f d v : Int32) : tp_T l yX1_tell wsX1_tell 7 112 D cy n ad o sa tL tM [.ref (ad (0)), .int x, .int f, .int d, .int v] I "java/lang/IndexOutOfBoundsException" := by
  refine tp_ofT (lv := [(0, .ref (ad (0))), (1, .int x), (2, .int f), (3, .int d), (4, .int v)]) (by decide) rfl (Nat.le_of_ble_eq_true rfl) rfl (fun p e s m args below meth c A ls S0 hE hxt => ?_)
  obtain ⟨hx, hb, hr, hml, hown, hts, hlocks, hA, hK, hP, hD, hS, hl⟩ := S0
  obtain ⟨-, ⟨hEL, hEM⟩, -, hEw, -, hEa, hEo⟩ := id hE
  refine lv_aload_n hx hb dX1_tell_0 rfl (lv_at hl 0 rfl) ?_
  refine lv_iload_n hx hb dX1_tell_1 rfl (lv_at hl 1 rfl) ?_
  exact tp_callVT ⟨hx, hb, hml, hown, hts⟩ (oc_existing_no l D cy n ad o I sa tL tM hlt x hx0 hn6) (cwV 1 hts gX1_tell_X1_existing rfl rfl rfl (by decide +kernel) ⟨Nat.le_of_ble_eq_true rfl, Nat.le_of_ble_eq_true rfl⟩) hE hK hP hD hS hA 0 1 tp_e0 rfl rfl rfl hl.1 rfl (Nat.le_of_ble_eq_true rfl) dX1_tell_2 ⟨Nat.le_of_ble_eq_true rfl, Nat.le_of_ble_eq_true rfl⟩ (fun ce q9 H locs hce hcv hcl hP hD hS => tp_out hxt hlocks hce hcv hcl hK hP hD hS (Nat.le_of_ble_eq_true rfl) (Nat.le_of_ble_eq_true rfl))
set_option maxHeartbeats 4000000 in
set_option maxRecDepth 100000 in
/-- tell: no such fact -/
theorem op_tell_fact (l : Launch) (D : va_G) (cy : Nat → ClassId) (n : Nat) (ad : Nat → Nat) (o : Int64) (I : Nat → Nat → Int32) (sa : Nat → Nat) (tL tM : Nat) (hlt : l.stackTraces = false) (i : Nat) (hi : i < n) (hn6 : n ≤ 6) (x : Int32) (hx0 : ∀ j, j < 5 → x ≠ nI j) (d v : Int32) : tp_T l yX1_tell wsX1_tell 7 110 D cy n ad o sa tL tM [.ref (ad (0)), .int (nI i), .int x, .int d, .int v] I "java/lang/IllegalArgumentException" := by
  refine tp_ofT (lv := [(0, .ref (ad (0))), (1, .int (nI i)), (2, .int x), (3, .int d), (4, .int v)]) (by decide) rfl (Nat.le_of_ble_eq_true rfl) rfl (fun p e s m args below meth c A ls S0 hE hxt => ?_)
  obtain ⟨hx, hb, hr, hml, hown, hts, hlocks, hA, hK, hP, hD, hS, hl⟩ := S0
  obtain ⟨-, ⟨hEL, hEM⟩, -, hEw, -, hEa, hEo⟩ := id hE
  refine lv_aload_n hx hb dX1_tell_0 rfl (lv_at hl 0 rfl) ?_
  refine lv_iload_n hx hb dX1_tell_1 rfl (lv_at hl 1 rfl) ?_
  refine tp_callR ⟨hx, hb, hml, hown, hts⟩ (oc_existing l D cy n ad o I i hi hn6) (cwV 1 hts gX1_tell_X1_existing rfl rfl rfl (by decide +kernel) ⟨Nat.le_of_ble_eq_true rfl, Nat.le_of_ble_eq_true rfl⟩) hK hP hD hS hA 0 1 tp_e0 rfl rfl rfl hl.1 rfl (Nat.le_of_ble_eq_true rfl) dX1_tell_2 ⟨Nat.zero_le _, Nat.zero_le _⟩ (fun H locs hP hD hS => ?_)
  refine lv_astore (lv' := [(5, .ref (ad (9 + 15 * i))), (0, .ref (ad (0))), (1, .int (nI i)), (2, .int x), (3, .int d), (4, .int v)]) hx hb dX1_tell_5 hl (by decide) rfl (fun ls hl => ?_)
  refine lv_iload_n hx hb dX1_tell_7 rfl (lv_at hl 3 rfl) ?_
  exact tp_callST ⟨hx, hb, hml, hown, hts⟩ (oc_checkFact_no l D cy n ad o I sa tL tM hlt x hx0) (va_cwS 1 hts gX1_tell_X1_checkFact rfl rfl rfl (by decide +kernel) ⟨Nat.le_of_ble_eq_true rfl, Nat.le_of_ble_eq_true rfl⟩) hE hK hP hD hS hA rfl hl.1 rfl (Nat.le_of_ble_eq_true rfl) dX1_tell_8 ⟨Nat.le_of_ble_eq_true rfl, Nat.le_of_ble_eq_true rfl⟩ (fun ce q9 H locs hce hcv hcl hP hD hS => tp_out hxt hlocks hce hcv hcl hK hP hD hS (Nat.le_of_ble_eq_true rfl) (Nat.le_of_ble_eq_true rfl))
set_option maxHeartbeats 4000000 in
set_option maxRecDepth 100000 in
/-- tell: no such day -/
theorem op_tell_day (l : Launch) (D : va_G) (cy : Nat → ClassId) (n : Nat) (ad : Nat → Nat) (o : Int64) (I : Nat → Nat → Int32) (sa : Nat → Nat) (tL tM : Nat) (hlt : l.stackTraces = false) (i : Nat) (hi : i < n) (hn6 : n ≤ 6) (f0 : Nat) (hf5 : f0 < 5) (d v : Int32) (hd : ∀ j, j < 1440 → d ≠ nI j) : tp_T l yX1_tell wsX1_tell 6 90 D cy n ad o sa tL tM [.ref (ad (0)), .int (nI i), .int (nI f0), .int d, .int v] I "java/lang/IllegalArgumentException" := by
  refine tp_ofT (lv := [(0, .ref (ad (0))), (1, .int (nI i)), (2, .int (nI f0)), (3, .int d), (4, .int v)]) (by decide) rfl (Nat.le_of_ble_eq_true rfl) rfl (fun p e s m args below meth c A ls S0 hE hxt => ?_)
  obtain ⟨hx, hb, hr, hml, hown, hts, hlocks, hA, hK, hP, hD, hS, hl⟩ := S0
  obtain ⟨-, ⟨hEL, hEM⟩, -, hEw, -, hEa, hEo⟩ := id hE
  refine lv_aload_n hx hb dX1_tell_0 rfl (lv_at hl 0 rfl) ?_
  refine lv_iload_n hx hb dX1_tell_1 rfl (lv_at hl 1 rfl) ?_
  refine tp_callR ⟨hx, hb, hml, hown, hts⟩ (oc_existing l D cy n ad o I i hi hn6) (cwV 1 hts gX1_tell_X1_existing rfl rfl rfl (by decide +kernel) ⟨Nat.le_of_ble_eq_true rfl, Nat.le_of_ble_eq_true rfl⟩) hK hP hD hS hA 0 1 tp_e0 rfl rfl rfl hl.1 rfl (Nat.le_of_ble_eq_true rfl) dX1_tell_2 ⟨Nat.zero_le _, Nat.zero_le _⟩ (fun H locs hP hD hS => ?_)
  refine lv_astore (lv' := [(5, .ref (ad (9 + 15 * i))), (0, .ref (ad (0))), (1, .int (nI i)), (2, .int (nI f0)), (3, .int d), (4, .int v)]) hx hb dX1_tell_5 hl (by decide) rfl (fun ls hl => ?_)
  refine lv_iload_n hx hb dX1_tell_7 rfl (lv_at hl 3 rfl) ?_
  refine tp_callSv ⟨hx, hb, hml, hown, hts⟩ (oc_checkFact l D cy n ad o I f0 (by omega)) (va_cwS 1 hts gX1_tell_X1_checkFact rfl rfl rfl (by decide +kernel) ⟨Nat.le_of_ble_eq_true rfl, Nat.le_of_ble_eq_true rfl⟩) hK hP hD hS hA rfl hl.1 rfl (Nat.le_of_ble_eq_true rfl) dX1_tell_8 ⟨Nat.zero_le _, Nat.zero_le _⟩ (fun I9 e9 H locs hP hD hS => ?_)
  subst e9
  refine lv_iload_n hx hb dX1_tell_11 rfl (lv_at hl 4 rfl) ?_
  refine lv_if_lt (tgt := 22) hx hb dX1_tell_12 (by decide) (fun c12_1 => ?_) (fun c12_1 => ?_)
  · exact tp_throw (text := "there is no such day") (ik := 41) (is := 43) (ic := 45) hx hb hlt hown (by decide +kernel) (hts _ (List.mem_of_getElem? (i := 1) rfl)) (hts _ (List.mem_of_getElem? (i := 2) rfl)) (by decide) (fun w h => hts w (List.mem_cons_of_mem _ (List.mem_append_left _ (List.mem_append_left _ (List.mem_append_right _ (h)))))) (by decide +kernel) (by decide +kernel) hE hK hP hD hS (hl.1.trans hml.symm) dX1_tell_22 dX1_tell_25 dX1_tell_26 dX1_tell_28 dX1_tell_31 hxt hlocks (Nat.le_of_ble_eq_true rfl) (Nat.le_of_ble_eq_true rfl) (Nat.le_of_ble_eq_true rfl) (Nat.le_of_ble_eq_true rfl)
  · refine lv_iload_n hx hb dX1_tell_15 rfl (lv_at hl 4 rfl) ?_
    refine lv_sipush (v := 1440) hx hb dX1_tell_16 (by decide) ?_
    refine lv_icmp_lt (tgt := 32) hx hb dX1_tell_19 (by decide) (fun c19_2 => ?_) (fun c19_2 => ?_)
    · obtain ⟨j, hj6, hjx⟩ := tp_ix (N := 1440) (by decide) c12_1 c19_2
      exact absurd hjx (hd j hj6)
    · exact tp_throw (text := "there is no such day") (ik := 41) (is := 43) (ic := 45) hx hb hlt hown (by decide +kernel) (hts _ (List.mem_of_getElem? (i := 1) rfl)) (hts _ (List.mem_of_getElem? (i := 2) rfl)) (by decide) (fun w h => hts w (List.mem_cons_of_mem _ (List.mem_append_left _ (List.mem_append_left _ (List.mem_append_right _ (h)))))) (by decide +kernel) (by decide +kernel) hE hK hP hD hS (hl.1.trans hml.symm) dX1_tell_22 dX1_tell_25 dX1_tell_26 dX1_tell_28 dX1_tell_31 hxt hlocks (Nat.le_of_ble_eq_true rfl) (Nat.le_of_ble_eq_true rfl) (Nat.le_of_ble_eq_true rfl) (Nat.le_of_ble_eq_true rfl)
set_option maxHeartbeats 4000000 in
set_option maxRecDepth 100000 in
/-- tell: value -/
theorem op_tell_value (l : Launch) (D : va_G) (cy : Nat → ClassId) (n : Nat) (ad : Nat → Nat) (o : Int64) (I : Nat → Nat → Int32) (sa : Nat → Nat) (tL tM : Nat) (hlt : l.stackTraces = false) (i : Nat) (hi : i < n) (hn6 : n ≤ 6) (f0 d0 : Nat) (hf5 : f0 < 5) (hd0 : d0 < 1440) (v : Int32) (hvb : v < tp_vl f0 ∨ ¬ v ≤ tp_vm f0) : tp_T l yX1_tell wsX1_tell 6 90 D cy n ad o sa tL tM [.ref (ad (0)), .int (nI i), .int (nI f0), .int (nI d0), .int v] I "java/lang/IllegalArgumentException" := by
  refine tp_ofT (lv := [(0, .ref (ad (0))), (1, .int (nI i)), (2, .int (nI f0)), (3, .int (nI d0)), (4, .int v)]) (by decide) rfl (Nat.le_of_ble_eq_true rfl) rfl (fun p e s m args below meth c A ls S0 hE hxt => ?_)
  obtain ⟨hx, hb, hr, hml, hown, hts, hlocks, hA, hK, hP, hD, hS, hl⟩ := S0
  obtain ⟨-, ⟨hEL, hEM⟩, -, hEw, -, hEa, hEo⟩ := id hE
  refine lv_aload_n hx hb dX1_tell_0 rfl (lv_at hl 0 rfl) ?_
  refine lv_iload_n hx hb dX1_tell_1 rfl (lv_at hl 1 rfl) ?_
  refine tp_callR ⟨hx, hb, hml, hown, hts⟩ (oc_existing l D cy n ad o I i hi hn6) (cwV 1 hts gX1_tell_X1_existing rfl rfl rfl (by decide +kernel) ⟨Nat.le_of_ble_eq_true rfl, Nat.le_of_ble_eq_true rfl⟩) hK hP hD hS hA 0 1 tp_e0 rfl rfl rfl hl.1 rfl (Nat.le_of_ble_eq_true rfl) dX1_tell_2 ⟨Nat.zero_le _, Nat.zero_le _⟩ (fun H locs hP hD hS => ?_)
  refine lv_astore (lv' := [(5, .ref (ad (9 + 15 * i))), (0, .ref (ad (0))), (1, .int (nI i)), (2, .int (nI f0)), (3, .int (nI d0)), (4, .int v)]) hx hb dX1_tell_5 hl (by decide) rfl (fun ls hl => ?_)
  refine lv_iload_n hx hb dX1_tell_7 rfl (lv_at hl 3 rfl) ?_
  refine tp_callSv ⟨hx, hb, hml, hown, hts⟩ (oc_checkFact l D cy n ad o I f0 (by omega)) (va_cwS 1 hts gX1_tell_X1_checkFact rfl rfl rfl (by decide +kernel) ⟨Nat.le_of_ble_eq_true rfl, Nat.le_of_ble_eq_true rfl⟩) hK hP hD hS hA rfl hl.1 rfl (Nat.le_of_ble_eq_true rfl) dX1_tell_8 ⟨Nat.zero_le _, Nat.zero_le _⟩ (fun I9 e9 H locs hP hD hS => ?_)
  subst e9
  refine lv_iload_n hx hb dX1_tell_11 rfl (lv_at hl 4 rfl) ?_
  refine lv_if_lt (tgt := 22) hx hb dX1_tell_12 (by decide) (fun c12_1 => ?_) (fun c12_1 => ?_)
  · exact absurd c12_1 (nI_pos (by omega))
  · refine lv_iload_n hx hb dX1_tell_15 rfl (lv_at hl 4 rfl) ?_
    refine lv_sipush (v := 1440) hx hb dX1_tell_16 (by decide) ?_
    refine lv_icmp_lt (tgt := 32) hx hb dX1_tell_19 (by decide) (fun c19_2 => ?_) (fun c19_2 => ?_)
    · refine lv_iload hx hb dX1_tell_32 (lv_at hl 5 rfl) ?_
      refine va_gets hx hb hEL.1 hS hown (hts _ (List.mem_of_getElem? (i := 5) rfl)) (fun _ h9 => h9) dX1_tell_34 ?_
      refine lv_iload_n hx hb dX1_tell_37 rfl (lv_at hl 3 rfl) ?_
      refine va_ti hx hb hEL.2 hS (v := .int (tp_vl f0)) (vp_in_nI (by omega) (by decide)) (by rw [nI_clamp (by omega)]) dX1_tell_38 ?_
      refine lv_icmp_lt (tgt := 52) hx hb dX1_tell_39 (by decide) (fun c39_3 => ?_) (fun c39_3 => ?_)
      · exact tp_throw (text := "the value is out of the range of the fact") (ik := 41) (is := 53) (ic := 45) hx hb hlt hown (by decide +kernel) (hts _ (List.mem_of_getElem? (i := 1) rfl)) (hts _ (List.mem_of_getElem? (i := 2) rfl)) (by decide) (fun w h => hts w (List.mem_cons_of_mem _ (List.mem_append_left _ (List.mem_append_left _ (List.mem_append_right _ (h)))))) (by decide +kernel) (by decide +kernel) hE hK hP hD hS (hl.1.trans hml.symm) dX1_tell_52 dX1_tell_55 dX1_tell_56 dX1_tell_58 dX1_tell_61 hxt hlocks (Nat.le_of_ble_eq_true rfl) (Nat.le_of_ble_eq_true rfl) (Nat.le_of_ble_eq_true rfl) (Nat.le_of_ble_eq_true rfl)
      · refine lv_iload hx hb dX1_tell_42 (lv_at hl 5 rfl) ?_
        refine va_gets hx hb hEM.1 hS hown (hts _ (List.mem_of_getElem? (i := 6) rfl)) (fun _ h9 => h9) dX1_tell_44 ?_
        refine lv_iload_n hx hb dX1_tell_47 rfl (lv_at hl 3 rfl) ?_
        refine va_ti hx hb hEM.2 hS (v := .int (tp_vm f0)) (vp_in_nI (by omega) (by decide)) (by rw [nI_clamp (by omega)]) dX1_tell_48 ?_
        refine lv_icmp_le (tgt := 62) hx hb dX1_tell_49 (by decide) (fun c49_4 => ?_) (fun c49_4 => ?_)
        · exact absurd hvb (fun z => z.elim c39_3 (fun z => z c49_4))
        · exact tp_throw (text := "the value is out of the range of the fact") (ik := 41) (is := 53) (ic := 45) hx hb hlt hown (by decide +kernel) (hts _ (List.mem_of_getElem? (i := 1) rfl)) (hts _ (List.mem_of_getElem? (i := 2) rfl)) (by decide) (fun w h => hts w (List.mem_cons_of_mem _ (List.mem_append_left _ (List.mem_append_left _ (List.mem_append_right _ (h)))))) (by decide +kernel) (by decide +kernel) hE hK hP hD hS (hl.1.trans hml.symm) dX1_tell_52 dX1_tell_55 dX1_tell_56 dX1_tell_58 dX1_tell_61 hxt hlocks (Nat.le_of_ble_eq_true rfl) (Nat.le_of_ble_eq_true rfl) (Nat.le_of_ble_eq_true rfl) (Nat.le_of_ble_eq_true rfl)
    · exact absurd (nI_lt (a := d0) (b := 1440) (by omega) (by decide)) c19_2
set_option maxHeartbeats 4000000 in
set_option maxRecDepth 100000 in
/-- tell: full -/
theorem op_tell_full (l : Launch) (D : va_G) (cy : Nat → ClassId) (n : Nat) (ad : Nat → Nat) (o : Int64) (I : Nat → Nat → Int32) (sa : Nat → Nat) (tL tM : Nat) (hlt : l.stackTraces = false) (i : Nat) (hi : i < n) (hn6 : n ≤ 6) (f0 d0 : Nat) (hf5 : f0 < 5) (hd0 : d0 < 1440) (v : Int32) (hv1 : ¬ v < tp_vl f0) (hv2 : v ≤ tp_vm f0) (h100 : ¬ I (9 + 15 * i) 2 < 100) : tp_T l yX1_tell wsX1_tell 6 90 D cy n ad o sa tL tM [.ref (ad (0)), .int (nI i), .int (nI f0), .int (nI d0), .int v] I "java/lang/IllegalStateException" := by
  refine tp_ofT (lv := [(0, .ref (ad (0))), (1, .int (nI i)), (2, .int (nI f0)), (3, .int (nI d0)), (4, .int v)]) (by decide) rfl (Nat.le_of_ble_eq_true rfl) rfl (fun p e s m args below meth c A ls S0 hE hxt => ?_)
  obtain ⟨hx, hb, hr, hml, hown, hts, hlocks, hA, hK, hP, hD, hS, hl⟩ := S0
  obtain ⟨-, ⟨hEL, hEM⟩, -, hEw, -, hEa, hEo⟩ := id hE
  refine lv_aload_n hx hb dX1_tell_0 rfl (lv_at hl 0 rfl) ?_
  refine lv_iload_n hx hb dX1_tell_1 rfl (lv_at hl 1 rfl) ?_
  refine tp_callR ⟨hx, hb, hml, hown, hts⟩ (oc_existing l D cy n ad o I i hi hn6) (cwV 1 hts gX1_tell_X1_existing rfl rfl rfl (by decide +kernel) ⟨Nat.le_of_ble_eq_true rfl, Nat.le_of_ble_eq_true rfl⟩) hK hP hD hS hA 0 1 tp_e0 rfl rfl rfl hl.1 rfl (Nat.le_of_ble_eq_true rfl) dX1_tell_2 ⟨Nat.zero_le _, Nat.zero_le _⟩ (fun H locs hP hD hS => ?_)
  refine lv_astore (lv' := [(5, .ref (ad (9 + 15 * i))), (0, .ref (ad (0))), (1, .int (nI i)), (2, .int (nI f0)), (3, .int (nI d0)), (4, .int v)]) hx hb dX1_tell_5 hl (by decide) rfl (fun ls hl => ?_)
  refine lv_iload_n hx hb dX1_tell_7 rfl (lv_at hl 3 rfl) ?_
  refine tp_callSv ⟨hx, hb, hml, hown, hts⟩ (oc_checkFact l D cy n ad o I f0 (by omega)) (va_cwS 1 hts gX1_tell_X1_checkFact rfl rfl rfl (by decide +kernel) ⟨Nat.le_of_ble_eq_true rfl, Nat.le_of_ble_eq_true rfl⟩) hK hP hD hS hA rfl hl.1 rfl (Nat.le_of_ble_eq_true rfl) dX1_tell_8 ⟨Nat.zero_le _, Nat.zero_le _⟩ (fun I9 e9 H locs hP hD hS => ?_)
  subst e9
  refine lv_iload_n hx hb dX1_tell_11 rfl (lv_at hl 4 rfl) ?_
  refine lv_if_lt (tgt := 22) hx hb dX1_tell_12 (by decide) (fun c12_1 => ?_) (fun c12_1 => ?_)
  · exact absurd c12_1 (nI_pos (by omega))
  · refine lv_iload_n hx hb dX1_tell_15 rfl (lv_at hl 4 rfl) ?_
    refine lv_sipush (v := 1440) hx hb dX1_tell_16 (by decide) ?_
    refine lv_icmp_lt (tgt := 32) hx hb dX1_tell_19 (by decide) (fun c19_2 => ?_) (fun c19_2 => ?_)
    · refine lv_iload hx hb dX1_tell_32 (lv_at hl 5 rfl) ?_
      refine va_gets hx hb hEL.1 hS hown (hts _ (List.mem_of_getElem? (i := 5) rfl)) (fun _ h9 => h9) dX1_tell_34 ?_
      refine lv_iload_n hx hb dX1_tell_37 rfl (lv_at hl 3 rfl) ?_
      refine va_ti hx hb hEL.2 hS (v := .int (tp_vl f0)) (vp_in_nI (by omega) (by decide)) (by rw [nI_clamp (by omega)]) dX1_tell_38 ?_
      refine lv_icmp_lt (tgt := 52) hx hb dX1_tell_39 (by decide) (fun c39_3 => ?_) (fun c39_3 => ?_)
      · exact absurd c39_3 hv1
      · refine lv_iload hx hb dX1_tell_42 (lv_at hl 5 rfl) ?_
        refine va_gets hx hb hEM.1 hS hown (hts _ (List.mem_of_getElem? (i := 6) rfl)) (fun _ h9 => h9) dX1_tell_44 ?_
        refine lv_iload_n hx hb dX1_tell_47 rfl (lv_at hl 3 rfl) ?_
        refine va_ti hx hb hEM.2 hS (v := .int (tp_vm f0)) (vp_in_nI (by omega) (by decide)) (by rw [nI_clamp (by omega)]) dX1_tell_48 ?_
        refine lv_icmp_le (tgt := 62) hx hb dX1_tell_49 (by decide) (fun c49_4 => ?_) (fun c49_4 => ?_)
        · refine lv_aload hx hb dX1_tell_62 (lv_at hl 0 rfl) ?_
          refine va_getN (D := D) (host := "TaperOffice") (ci := 0) (v := .int (I (9 + 15 * i) 2)) (C := RX0) (T := TX0) (N := 9) hx hb hts (fun _ h => List.mem_cons_of_mem _ (List.mem_append_left _ (List.mem_append_left _ (List.mem_append_left _ (List.mem_append_left _ (List.mem_append_right _ (h))))))) hown hK hP (9 + 15 * i) (tp_eh hi) rfl 2 (by decide) (va_Nw.use rfl (hEw _ (List.mem_of_getElem? (i := 0) rfl))) (fun _ h9 => h9) rfl dX1_tell_64 ?_
          refine lv_bipush (v := 100) hx hb dX1_tell_67 (by decide) ?_
          refine lv_icmp_lt (tgt := 82) hx hb dX1_tell_69 (by decide) (fun c69_5 => ?_) (fun c69_5 => ?_)
          · exact absurd c69_5 h100
          · exact tp_throw (text := "100 changes were told of the household") (ik := 22) (is := 58) (ic := 26) hx hb hlt hown (by decide +kernel) (hts _ (List.mem_of_getElem? (i := 3) rfl)) (hts _ (List.mem_of_getElem? (i := 4) rfl)) (by decide) (fun w h => hts w (List.mem_cons_of_mem _ (List.mem_append_left _ (List.mem_append_right _ (h))))) (by decide +kernel) (by decide +kernel) hE hK hP hD hS (hl.1.trans hml.symm) dX1_tell_72 dX1_tell_75 dX1_tell_76 dX1_tell_78 dX1_tell_81 hxt hlocks (Nat.le_of_ble_eq_true rfl) (Nat.le_of_ble_eq_true rfl) (Nat.le_of_ble_eq_true rfl) (Nat.le_of_ble_eq_true rfl)
        · exact absurd hv2 c49_4
    · exact absurd (nI_lt (a := d0) (b := 1440) (by omega) (by decide)) c19_2
set_option maxHeartbeats 4000000 in
set_option maxRecDepth 100000 in
/-- tell: ok -/
theorem op_tell_ok (l : Launch) (D : va_G) (cy : Nat → ClassId) (n : Nat) (ad : Nat → Nat) (o : Int64) (I : Nat → Nat → Int32) (sa : Nat → Nat) (tL tM : Nat) (i : Nat) (hi : i < n) (hn6 : n ≤ 6) (f0 d0 : Nat) (hf5 : f0 < 5) (hd0 : d0 < 1440) (v : Int32) (hv1 : ¬ v < tp_vl f0) (hv2 : v ≤ tp_vm f0) (h100 : I (9 + 15 * i) 2 < 100) (z0 : Nat) (hz1 : tp_r0 d0 ≤ z0) (hz2 : z0 ≤ 48) (hz3 : ∀ m, tp_r0 d0 ≤ m → m < z0 → I (9 + 15 * i + 8 + f0) m ≤ nI (tp_r0 d0)) (hz4 : z0 = 48 ∨ ¬ I (9 + 15 * i + 8 + f0) z0 ≤ nI (tp_r0 d0)) : tp_IE l yX1_tell wsX1_tell (tp_rm 1 24) D cy n ad o sa tL tM [.ref (ad (0)), .int (nI i), .int (nI f0), .int (nI d0), .int v] I (nI (tp_r0 d0)) (tp_chg I (9 + 15 * i) f0 (tp_r0 d0) v (z0 - tp_r0 d0)) := by
  refine tp_ofIE (lv := [(0, .ref (ad (0))), (1, .int (nI i)), (2, .int (nI f0)), (3, .int (nI d0)), (4, .int v)]) (by decide) rfl (Nat.le_of_ble_eq_true rfl) rfl (fun p e s m args below meth c A ls S0 hE => ?_)
  obtain ⟨hx, hb, hr, hml, hown, hts, hlocks, hA, hK, hP, hD, hS, hl⟩ := S0
  obtain ⟨-, ⟨hEL, hEM⟩, -, hEw, -, hEa, hEo⟩ := id hE
  refine lv_aload_n hx hb dX1_tell_0 rfl (lv_at hl 0 rfl) ?_
  refine lv_iload_n hx hb dX1_tell_1 rfl (lv_at hl 1 rfl) ?_
  refine tp_callR ⟨hx, hb, hml, hown, hts⟩ (oc_existing l D cy n ad o I i hi hn6) (cwV 1 hts gX1_tell_X1_existing rfl rfl rfl (by decide +kernel) ⟨Nat.le_of_ble_eq_true rfl, Nat.le_of_ble_eq_true rfl⟩) hK hP hD hS hA 0 1 tp_e0 rfl rfl rfl hl.1 rfl (Nat.le_of_ble_eq_true rfl) dX1_tell_2 ⟨Nat.zero_le _, Nat.zero_le _⟩ (fun H locs hP hD hS => ?_)
  refine lv_astore (lv' := [(5, .ref (ad (9 + 15 * i))), (0, .ref (ad (0))), (1, .int (nI i)), (2, .int (nI f0)), (3, .int (nI d0)), (4, .int v)]) hx hb dX1_tell_5 hl (by decide) rfl (fun ls hl => ?_)
  refine lv_iload_n hx hb dX1_tell_7 rfl (lv_at hl 3 rfl) ?_
  refine tp_callSv ⟨hx, hb, hml, hown, hts⟩ (oc_checkFact l D cy n ad o I f0 (by omega)) (va_cwS 1 hts gX1_tell_X1_checkFact rfl rfl rfl (by decide +kernel) ⟨Nat.le_of_ble_eq_true rfl, Nat.le_of_ble_eq_true rfl⟩) hK hP hD hS hA rfl hl.1 rfl (Nat.le_of_ble_eq_true rfl) dX1_tell_8 ⟨Nat.zero_le _, Nat.zero_le _⟩ (fun I9 e9 H locs hP hD hS => ?_)
  subst e9
  refine lv_iload_n hx hb dX1_tell_11 rfl (lv_at hl 4 rfl) ?_
  refine lv_if_lt (tgt := 22) hx hb dX1_tell_12 (by decide) (fun c12_1 => ?_) (fun c12_1 => ?_)
  · exact absurd c12_1 (nI_pos (by omega))
  · refine lv_iload_n hx hb dX1_tell_15 rfl (lv_at hl 4 rfl) ?_
    refine lv_sipush (v := 1440) hx hb dX1_tell_16 (by decide) ?_
    refine lv_icmp_lt (tgt := 32) hx hb dX1_tell_19 (by decide) (fun c19_2 => ?_) (fun c19_2 => ?_)
    · refine lv_iload hx hb dX1_tell_32 (lv_at hl 5 rfl) ?_
      refine va_gets hx hb hEL.1 hS hown (hts _ (List.mem_of_getElem? (i := 5) rfl)) (fun _ h9 => h9) dX1_tell_34 ?_
      refine lv_iload_n hx hb dX1_tell_37 rfl (lv_at hl 3 rfl) ?_
      refine va_ti hx hb hEL.2 hS (v := .int (tp_vl f0)) (vp_in_nI (by omega) (by decide)) (by rw [nI_clamp (by omega)]) dX1_tell_38 ?_
      refine lv_icmp_lt (tgt := 52) hx hb dX1_tell_39 (by decide) (fun c39_3 => ?_) (fun c39_3 => ?_)
      · exact absurd c39_3 hv1
      · refine lv_iload hx hb dX1_tell_42 (lv_at hl 5 rfl) ?_
        refine va_gets hx hb hEM.1 hS hown (hts _ (List.mem_of_getElem? (i := 6) rfl)) (fun _ h9 => h9) dX1_tell_44 ?_
        refine lv_iload_n hx hb dX1_tell_47 rfl (lv_at hl 3 rfl) ?_
        refine va_ti hx hb hEM.2 hS (v := .int (tp_vm f0)) (vp_in_nI (by omega) (by decide)) (by rw [nI_clamp (by omega)]) dX1_tell_48 ?_
        refine lv_icmp_le (tgt := 62) hx hb dX1_tell_49 (by decide) (fun c49_4 => ?_) (fun c49_4 => ?_)
        · refine lv_aload hx hb dX1_tell_62 (lv_at hl 0 rfl) ?_
          refine va_getN (D := D) (host := "TaperOffice") (ci := 0) (v := .int (I (9 + 15 * i) 2)) (C := RX0) (T := TX0) (N := 9) hx hb hts (fun _ h => List.mem_cons_of_mem _ (List.mem_append_left _ (List.mem_append_left _ (List.mem_append_left _ (List.mem_append_left _ (List.mem_append_right _ (h))))))) hown hK hP (9 + 15 * i) (tp_eh hi) rfl 2 (by decide) (va_Nw.use rfl (hEw _ (List.mem_of_getElem? (i := 0) rfl))) (fun _ h9 => h9) rfl dX1_tell_64 ?_
          refine lv_bipush (v := 100) hx hb dX1_tell_67 (by decide) ?_
          refine lv_icmp_lt (tgt := 82) hx hb dX1_tell_69 (by decide) (fun c69_5 => ?_) (fun c69_5 => ?_)
          · refine lv_iload_n hx hb dX1_tell_82 rfl (lv_at hl 4 rfl) ?_
            refine tp_callS ⟨hx, hb, hml, hown, hts⟩ (oc_monthCountedFrom l D cy n ad o I d0 (by omega)) (va_cwS 1 hts gX1_tell_X1_monthCountedFrom rfl rfl rfl (by decide +kernel) ⟨Nat.le_of_ble_eq_true rfl, Nat.le_of_ble_eq_true rfl⟩) hK hP hD hS hA rfl hl.1 rfl (Nat.le_of_ble_eq_true rfl) dX1_tell_83 ⟨Nat.zero_le _, Nat.zero_le _⟩ (fun I9 e9 H locs hP hD hS => ?_)
            subst e9
            refine lv_istore (lv' := [(6, .int (nI (tp_r0 d0))), (5, .ref (ad (9 + 15 * i))), (0, .ref (ad (0))), (1, .int (nI i)), (2, .int (nI f0)), (3, .int (nI d0)), (4, .int v)]) hx hb dX1_tell_86 hl (by decide) rfl (fun ls hl => ?_)
            refine lv_aload hx hb dX1_tell_88 (lv_at hl 1 rfl) ?_
            refine lv_iload_n hx hb dX1_tell_90 rfl (lv_at hl 4 rfl) ?_
            refine lv_iload hx hb dX1_tell_91 (lv_at hl 0 rfl) ?_
            refine lv_iload hx hb dX1_tell_93 (lv_at hl 6 rfl) ?_
            refine tp_callNv ⟨hx, hb, hml, hown, hts⟩ (hc_change l D cy n ad o I i hi f0 (tp_r0 d0) z0 (by omega) v hz1 hz2 hz3 hz4) ⟨va_cnB (host := "TaperOffice") 3 hts gX1_tell_X0_change_n64 rfl rfl rfl (hEw _ (List.mem_of_getElem? (i := 8) rfl)) (hts _ (List.mem_of_getElem? (i := 22) rfl)) (by decide +kernel) ⟨Nat.le_of_ble_eq_true rfl, Nat.le_of_ble_eq_true rfl⟩, (hts _ (List.mem_of_getElem? (i := 21) rfl)), (hts _ (List.mem_of_getElem? (i := 23) rfl))⟩ hK hP hD hS hA (9 + 15 * i) 0 (tp_eh hi) rfl rfl rfl hl.1 rfl (Nat.le_of_ble_eq_true rfl) dX1_tell_95 ⟨Nat.zero_le _, Nat.zero_le _⟩ (fun I9 e9 H locs hP hD hS => ?_)
            subst e9
            refine lv_iload hx hb dX1_tell_98 (lv_at hl 0 rfl) ?_
            exact tp_reti hx hb hr hlocks hK hP hD hS rfl rfl rfl dX1_tell_100
          · exact absurd h100 c69_5
        · exact absurd hv2 c49_4
    · exact absurd (nI_lt (a := d0) (b := 1440) (by omega) (by decide)) c19_2
set_option maxHeartbeats 4000000 in
set_option maxRecDepth 100000 in
/-- add: full -/
theorem op_add_full (l : Launch) (D : va_G) (cy : Nat → ClassId) (n : Nat) (ad : Nat → Nat) (o : Int64) (I : Nat → Nat → Int32) (sa : Nat → Nat) (tL tM : Nat) (hlt : l.stackTraces = false) (hf : ¬ I 0 1 < 6) (hf0 : ¬ I 0 1 < 0) : tp_T l yX1_add wsX1_add 6 90 D cy n ad o sa tL tM [.ref (ad (0))] I "java/lang/IllegalStateException" := by
  refine tp_ofT (lv := [(0, .ref (ad (0)))]) (by decide) rfl (Nat.le_of_ble_eq_true rfl) rfl (fun p e s m args below meth c A ls S0 hE hxt => ?_)
  obtain ⟨hx, hb, hr, hml, hown, hts, hlocks, hA, hK, hP, hD, hS, hl⟩ := S0
  obtain ⟨-, ⟨hEL, hEM⟩, -, hEw, -, hEa, hEo⟩ := id hE
  refine lv_aload_n hx hb dX1_add_0 rfl (lv_at hl 0 rfl) ?_
  refine va_get (D := D) (ci := 1) (v := .int (I 0 1)) (C := RX1) (T := TX1) (N := 3) hx hb hts (fun _ h => List.mem_cons_of_mem _ (List.mem_append_left _ (List.mem_append_left _ (List.mem_append_right _ (h))))) hown hK hP 0 tp_e0 rfl 1 (by decide) (hts _ (List.mem_of_getElem? (i := 3) rfl)) (fun _ h9 => h9) rfl dX1_add_1 ?_
  refine lv_if_lt (tgt := 19) hx hb dX1_add_4 (by decide) (fun c4_1 => ?_) (fun c4_1 => ?_)
  · exact absurd c4_1 hf0
  · refine lv_aload_n hx hb dX1_add_7 rfl (lv_at hl 0 rfl) ?_
    refine va_get (D := D) (ci := 1) (v := .int (I 0 1)) (C := RX1) (T := TX1) (N := 3) hx hb hts (fun _ h => List.mem_cons_of_mem _ (List.mem_append_left _ (List.mem_append_left _ (List.mem_append_right _ (h))))) hown hK hP 0 tp_e0 rfl 1 (by decide) (hts _ (List.mem_of_getElem? (i := 3) rfl)) (fun _ h9 => h9) rfl dX1_add_8 ?_
    refine lv_aload_n hx hb dX1_add_11 rfl (lv_at hl 0 rfl) ?_
    refine va_get (D := D) (ci := 1) (v := .ref (ad (1))) (C := RX1) (T := TX1) (N := 3) hx hb hts (fun _ h => List.mem_cons_of_mem _ (List.mem_append_left _ (List.mem_append_left _ (List.mem_append_right _ (h))))) hown hK hP 0 tp_e0 rfl 0 (by decide) (hts _ (List.mem_of_getElem? (i := 4) rfl)) (fun _ h9 => h9) rfl dX1_add_12 ?_
    refine tp_rlen hx hb hK hP dX1_add_15 ?_
    refine lv_icmp_lt (tgt := 29) hx hb dX1_add_16 (by decide) (fun c16_2 => ?_) (fun c16_2 => ?_)
    · exact absurd c16_2 hf
    · exact tp_throw (text := "there are 6 households") (ik := 22) (is := 24) (ic := 26) hx hb hlt hown (by decide +kernel) (hts _ (List.mem_of_getElem? (i := 1) rfl)) (hts _ (List.mem_of_getElem? (i := 2) rfl)) (by decide) (fun w h => hts w (List.mem_cons_of_mem _ (List.mem_append_right _ (h)))) (by decide +kernel) (by decide +kernel) hE hK hP hD hS (hl.1.trans hml.symm) dX1_add_19 dX1_add_22 dX1_add_23 dX1_add_25 dX1_add_28 hxt hlocks (Nat.le_of_ble_eq_true rfl) (Nat.le_of_ble_eq_true rfl) (Nat.le_of_ble_eq_true rfl) (Nat.le_of_ble_eq_true rfl)
set_option maxHeartbeats 4000000 in
set_option maxRecDepth 100000 in
/-- add: end -/
theorem op_add_end (l : Launch) (D : va_G) (cy : Nat → ClassId) (n : Nat) (ad : Nat → Nat) (o : Int64) (I : Nat → Nat → Int32) (sa : Nat → Nat) (tL tM : Nat) (hlt : l.stackTraces = false) (hf : I 0 1 < 6) (hf0 : ¬ I 0 1 < 0) (he : ¬ I 0 2 < 48) : tp_T l yX1_add wsX1_add 6 90 D cy n ad o sa tL tM [.ref (ad (0))] I "java/lang/IllegalStateException" := by
  refine tp_ofT (lv := [(0, .ref (ad (0)))]) (by decide) rfl (Nat.le_of_ble_eq_true rfl) rfl (fun p e s m args below meth c A ls S0 hE hxt => ?_)
  obtain ⟨hx, hb, hr, hml, hown, hts, hlocks, hA, hK, hP, hD, hS, hl⟩ := S0
  obtain ⟨-, ⟨hEL, hEM⟩, -, hEw, -, hEa, hEo⟩ := id hE
  refine lv_aload_n hx hb dX1_add_0 rfl (lv_at hl 0 rfl) ?_
  refine va_get (D := D) (ci := 1) (v := .int (I 0 1)) (C := RX1) (T := TX1) (N := 3) hx hb hts (fun _ h => List.mem_cons_of_mem _ (List.mem_append_left _ (List.mem_append_left _ (List.mem_append_right _ (h))))) hown hK hP 0 tp_e0 rfl 1 (by decide) (hts _ (List.mem_of_getElem? (i := 3) rfl)) (fun _ h9 => h9) rfl dX1_add_1 ?_
  refine lv_if_lt (tgt := 19) hx hb dX1_add_4 (by decide) (fun c4_1 => ?_) (fun c4_1 => ?_)
  · exact absurd c4_1 hf0
  · refine lv_aload_n hx hb dX1_add_7 rfl (lv_at hl 0 rfl) ?_
    refine va_get (D := D) (ci := 1) (v := .int (I 0 1)) (C := RX1) (T := TX1) (N := 3) hx hb hts (fun _ h => List.mem_cons_of_mem _ (List.mem_append_left _ (List.mem_append_left _ (List.mem_append_right _ (h))))) hown hK hP 0 tp_e0 rfl 1 (by decide) (hts _ (List.mem_of_getElem? (i := 3) rfl)) (fun _ h9 => h9) rfl dX1_add_8 ?_
    refine lv_aload_n hx hb dX1_add_11 rfl (lv_at hl 0 rfl) ?_
    refine va_get (D := D) (ci := 1) (v := .ref (ad (1))) (C := RX1) (T := TX1) (N := 3) hx hb hts (fun _ h => List.mem_cons_of_mem _ (List.mem_append_left _ (List.mem_append_left _ (List.mem_append_right _ (h))))) hown hK hP 0 tp_e0 rfl 0 (by decide) (hts _ (List.mem_of_getElem? (i := 4) rfl)) (fun _ h9 => h9) rfl dX1_add_12 ?_
    refine tp_rlen hx hb hK hP dX1_add_15 ?_
    refine lv_icmp_lt (tgt := 29) hx hb dX1_add_16 (by decide) (fun c16_2 => ?_) (fun c16_2 => ?_)
    · refine lv_aload_n hx hb dX1_add_29 rfl (lv_at hl 0 rfl) ?_
      refine va_get (D := D) (ci := 1) (v := .int (I 0 2)) (C := RX1) (T := TX1) (N := 3) hx hb hts (fun _ h => List.mem_cons_of_mem _ (List.mem_append_left _ (List.mem_append_left _ (List.mem_append_right _ (h))))) hown hK hP 0 tp_e0 rfl 2 (by decide) (hts _ (List.mem_of_getElem? (i := 5) rfl)) (fun _ h9 => h9) rfl dX1_add_30 ?_
      refine lv_bipush (v := 48) hx hb dX1_add_33 (by decide) ?_
      refine lv_icmp_lt (tgt := 48) hx hb dX1_add_35 (by decide) (fun c35_3 => ?_) (fun c35_3 => ?_)
      · exact absurd c35_3 he
      · exact tp_throw (text := "there is no current month") (ik := 22) (is := 29) (ic := 26) hx hb hlt hown (by decide +kernel) (hts _ (List.mem_of_getElem? (i := 1) rfl)) (hts _ (List.mem_of_getElem? (i := 2) rfl)) (by decide) (fun w h => hts w (List.mem_cons_of_mem _ (List.mem_append_right _ (h)))) (by decide +kernel) (by decide +kernel) hE hK hP hD hS (hl.1.trans hml.symm) dX1_add_38 dX1_add_41 dX1_add_42 dX1_add_44 dX1_add_47 hxt hlocks (Nat.le_of_ble_eq_true rfl) (Nat.le_of_ble_eq_true rfl) (Nat.le_of_ble_eq_true rfl) (Nat.le_of_ble_eq_true rfl)
    · exact absurd hf c16_2
set_option maxHeartbeats 4000000 in
set_option maxRecDepth 100000 in
/-- close: end -/
theorem op_close_end (l : Launch) (D : va_G) (cy : Nat → ClassId) (n : Nat) (ad : Nat → Nat) (o : Int64) (I : Nat → Nat → Int32) (sa : Nat → Nat) (tL tM : Nat) (hlt : l.stackTraces = false) (he : ¬ I 0 2 < 48) : tp_T l yX1_close wsX1_close 6 90 D cy n ad o sa tL tM [.ref (ad (0))] I "java/lang/IllegalStateException" := by
  refine tp_ofT (lv := [(0, .ref (ad (0)))]) (by decide) rfl (Nat.le_of_ble_eq_true rfl) rfl (fun p e s m args below meth c A ls S0 hE hxt => ?_)
  obtain ⟨hx, hb, hr, hml, hown, hts, hlocks, hA, hK, hP, hD, hS, hl⟩ := S0
  obtain ⟨-, ⟨hEL, hEM⟩, -, hEw, -, hEa, hEo⟩ := id hE
  refine lv_aload_n hx hb dX1_close_0 rfl (lv_at hl 0 rfl) ?_
  refine va_get (D := D) (ci := 1) (v := .int (I 0 2)) (C := RX1) (T := TX1) (N := 3) hx hb hts (fun _ h => List.mem_cons_of_mem _ (List.mem_append_left _ (List.mem_append_left _ (List.mem_append_right _ (h))))) hown hK hP 0 tp_e0 rfl 2 (by decide) (hts _ (List.mem_of_getElem? (i := 3) rfl)) (fun _ h9 => h9) rfl dX1_close_1 ?_
  refine lv_bipush (v := 48) hx hb dX1_close_4 (by decide) ?_
  refine lv_icmp_lt (tgt := 19) hx hb dX1_close_6 (by decide) (fun c6_1 => ?_) (fun c6_1 => ?_)
  · exact absurd c6_1 he
  · exact tp_throw (text := "there is no current month") (ik := 22) (is := 29) (ic := 26) hx hb hlt hown (by decide +kernel) (hts _ (List.mem_of_getElem? (i := 1) rfl)) (hts _ (List.mem_of_getElem? (i := 2) rfl)) (by decide) (fun w h => hts w (List.mem_cons_of_mem _ (List.mem_append_right _ (h)))) (by decide +kernel) (by decide +kernel) hE hK hP hD hS (hl.1.trans hml.symm) dX1_close_9 dX1_close_12 dX1_close_13 dX1_close_15 dX1_close_18 hxt hlocks (Nat.le_of_ble_eq_true rfl) (Nat.le_of_ble_eq_true rfl) (Nat.le_of_ble_eq_true rfl) (Nat.le_of_ble_eq_true rfl)
