set_option maxHeartbeats 4000000 in
set_option maxRecDepth 100000 in
/-- thrown() -/
theorem mc_thrown (l : Launch) (D : va_G) (cy : Nat → ClassId) (n : Nat) (ad : Nat → Nat) (o : Int64) (I : Nat → Nat → Int32)  : tp_I l yX2_thrown wsX2_thrown (tp_rm 0 0) D cy n ad o [.ref (ad (2))] I (I 2 0) (I) := by
  refine tp_ofI (lv := [(0, .ref (ad (2)))]) (by decide) rfl (Nat.le_of_ble_eq_true rfl) rfl (fun p e s m args below meth c A ls S0 => ?_)
  obtain ⟨hx, hb, hr, hml, hown, hts, hlocks, hA, hK, hP, hD, hS, hl⟩ := S0
  refine lv_aload_n hx hb dX2_thrown_0 rfl (lv_at hl 0 rfl) ?_
  refine va_get (D := D) (ci := 2) (v := .int (I 2 0)) (C := RX2) (T := TX2) (N := 16) hx hb hts (fun _ h => List.mem_cons_of_mem _ (List.mem_append_right _ (h))) hown hK hP 2 tp_e2 rfl 0 (by decide) (hts _ (List.mem_of_getElem? (i := 1) rfl)) (fun _ h9 => h9) rfl dX2_thrown_1 ?_
  exact tp_reti hx hb hr hlocks hK hP hD hS rfl rfl rfl dX2_thrown_4
set_option maxHeartbeats 4000000 in
set_option maxRecDepth 100000 in
/-- fails(code) -/
theorem mc_fails (l : Launch) (D : va_G) (cy : Nat → ClassId) (n : Nat) (ad : Nat → Nat) (o : Int64) (I : Nat → Nat → Int32) (x : Int32) : tp_I l yX2_fails wsX2_fails (tp_rm 0 0) D cy n ad o [.ref (ad (2)), .int x] I (0) (tp_u I 2 0 x) := by
  refine tp_ofI (lv := [(0, .ref (ad (2))), (1, .int x)]) (by decide) rfl (Nat.le_of_ble_eq_true rfl) rfl (fun p e s m args below meth c A ls S0 => ?_)
  obtain ⟨hx, hb, hr, hml, hown, hts, hlocks, hA, hK, hP, hD, hS, hl⟩ := S0
  refine lv_aload_n hx hb dX2_fails_0 rfl (lv_at hl 0 rfl) ?_
  refine lv_iload_n hx hb dX2_fails_1 rfl (lv_at hl 1 rfl) ?_
  refine tp_put (ci := 2) (v := x) (ty := .int) (C := RX2) (T := TX2) (N := 16) hx hb hts (fun _ h => List.mem_cons_of_mem _ (List.mem_append_right _ (h))) tyX2 tyX2_ok nmX2 hown hK hP hD hS 2 tp_e2 (by omega) rfl 0 (by decide) (hts _ (List.mem_of_getElem? (i := 1) rfl)) rfl (by decide +kernel) rfl rfl (Nat.le_of_ble_eq_true rfl) rfl dX2_fails_2 (fun H locs hP hD hS => ?_)
  refine lv_iconst (v := 0) hx hb dX2_fails_5 (by decide) ?_
  exact tp_reti hx hb hr hlocks hK hP hD hS rfl rfl rfl dX2_fails_6
set_option maxHeartbeats 4000000 in
set_option maxRecDepth 100000 in
/-- in(v, low, high) -/
theorem mc_in (l : Launch) (D : va_G) (cy : Nat → ClassId) (n : Nat) (ad : Nat → Nat) (o : Int64) (I : Nat → Nat → Int32) (x a b : Int32) : tp_I l yX2_in wsX2_in (tp_rm 0 0) D cy n ad o [.int x, .int a, .int b] I (tp_in x a b) (I) := by
  refine tp_ofI (lv := [(0, .int x), (1, .int a), (2, .int b)]) (by decide) rfl (Nat.le_of_ble_eq_true rfl) rfl (fun p e s m args below meth c A ls S0 => ?_)
  obtain ⟨hx, hb, hr, hml, hown, hts, hlocks, hA, hK, hP, hD, hS, hl⟩ := S0
  refine lv_iload_n hx hb dX2_in_0 rfl (lv_at hl 0 rfl) ?_
  refine lv_iload_n hx hb dX2_in_1 rfl (lv_at hl 1 rfl) ?_
  refine lv_icmp_lt (tgt := 14) hx hb dX2_in_2 (by decide) (fun c2_1 => ?_) (fun c2_1 => ?_)
  · refine lv_iconst (v := 0) hx hb dX2_in_14 (by decide) ?_
    exact tp_reti hx hb hr hlocks hK hP hD hS rfl (by unfold tp_in; rw [if_pos c2_1]) rfl dX2_in_15
  · refine lv_iload_n hx hb dX2_in_5 rfl (lv_at hl 0 rfl) ?_
    refine lv_iload_n hx hb dX2_in_6 rfl (lv_at hl 2 rfl) ?_
    refine lv_icmp_gt (tgt := 14) hx hb dX2_in_7 (by decide) (fun c7_2 => ?_) (fun c7_2 => ?_)
    · refine lv_iconst (v := 0) hx hb dX2_in_14 (by decide) ?_
      exact tp_reti hx hb hr hlocks hK hP hD hS rfl (by unfold tp_in; rw [if_neg c2_1, if_pos c7_2]) rfl dX2_in_15
    · refine lv_iconst (v := 1) hx hb dX2_in_10 (by decide) ?_
      refine lv_goto (tgt := 15) hx hb dX2_in_11 (by decide) ?_
      exact tp_reti hx hb hr hlocks hK hP hD hS rfl (by unfold tp_in; rw [if_neg c2_1, if_neg c7_2]) rfl dX2_in_15
theorem tp_in_n (x a b : Int32) : narrow .boolean (.int (tp_in x a b)) = .int (tp_in x a b) := by
  unfold tp_in
  split
  · rfl
  · split <;> rfl
set_option maxHeartbeats 4000000 in
set_option maxRecDepth 100000 in
/-- isHome(h) -/
theorem mc_isHome (l : Launch) (D : va_G) (cy : Nat → ClassId) (n : Nat) (ad : Nat → Nat) (o : Int64) (I : Nat → Nat → Int32) (x : Int32) : tp_I l yX2_isHome wsX2_isHome (tp_rm 1 22) D cy n ad o [.ref (ad (2)), .int x] I (tp_in x 0 (I 2 2 - 1)) (I) := by
  refine tp_ofI (lv := [(0, .ref (ad (2))), (1, .int x)]) (by decide) rfl (Nat.le_of_ble_eq_true rfl) rfl (fun p e s m args below meth c A ls S0 => ?_)
  obtain ⟨hx, hb, hr, hml, hown, hts, hlocks, hA, hK, hP, hD, hS, hl⟩ := S0
  refine lv_iload_n hx hb dX2_isHome_0 rfl (lv_at hl 1 rfl) ?_
  refine lv_iconst (v := 0) hx hb dX2_isHome_1 (by decide) ?_
  refine lv_aload_n hx hb dX2_isHome_2 rfl (lv_at hl 0 rfl) ?_
  refine va_get (D := D) (ci := 2) (v := .int (I 2 2)) (C := RX2) (T := TX2) (N := 16) hx hb hts (fun _ h => List.mem_cons_of_mem _ (List.mem_append_right _ (h))) hown hK hP 2 tp_e2 rfl 2 (by decide) (hts _ (List.mem_of_getElem? (i := 1) rfl)) (fun _ h9 => h9) rfl dX2_isHome_3 ?_
  refine lv_iconst (v := 1) hx hb dX2_isHome_6 (by decide) ?_
  refine lv_isub hx hb dX2_isHome_7 ?_
  refine tp_callS ⟨hx, hb, hml, hown, hts⟩ (mc_in l D cy n ad o I x 0 ((I 2 2) - 1)) (va_cwS 3 hts gX2_isHome_X2_in rfl rfl rfl (by decide +kernel) ⟨Nat.le_of_ble_eq_true rfl, Nat.le_of_ble_eq_true rfl⟩) hK hP hD hS hA rfl hl.1 rfl (Nat.le_of_ble_eq_true rfl) dX2_isHome_8 ⟨Nat.zero_le _, Nat.zero_le _⟩ (fun I9 e9 H locs hP hD hS => ?_)
  subst e9
  exact tp_reti hx hb hr hlocks hK hP hD hS (tp_in_n _ _ _) rfl rfl dX2_isHome_11
set_option maxHeartbeats 4000000 in
set_option maxRecDepth 100000 in
/-- isAsked(h, m) -/
theorem mc_isAsked (l : Launch) (D : va_G) (cy : Nat → ClassId) (n : Nat) (ad : Nat → Nat) (o : Int64) (I : Nat → Nat → Int32) (x k : Int32) : tp_I l yX2_isAsked wsX2_isAsked (tp_rm 2 43) D cy n ad o [.ref (ad (2)), .int x, .int k] I (if tp_ask I x k = 0 then 1 else 0) (tp_u I 2 0 (tp_ask I x k)) := by
  refine tp_ofI (lv := [(0, .ref (ad (2))), (1, .int x), (2, .int k)]) (by decide) rfl (Nat.le_of_ble_eq_true rfl) rfl (fun p e s m args below meth c A ls S0 => ?_)
  obtain ⟨hx, hb, hr, hml, hown, hts, hlocks, hA, hK, hP, hD, hS, hl⟩ := S0
  refine lv_aload_n hx hb dX2_isAsked_0 rfl (lv_at hl 0 rfl) ?_
  refine tp_meetH (D := D) (cy := cy) (n := n) (ad := ad) (I := I) (o := o) (A := A) (H0 := s.heap) (tp_ask I x k : Int32) (fun y => F0 m 24 ls (.int y :: [.ref (ad (2))])) (fun hj24 => ?_) (fun H locs hP hD hS => ?_)
  · refine lv_aload_n hx hb dX2_isAsked_1 rfl (lv_at hl 0 rfl) ?_
    refine lv_iload_n hx hb dX2_isAsked_2 rfl (lv_at hl 1 rfl) ?_
    refine tp_callV ⟨hx, hb, hml, hown, hts⟩ (mc_isHome l D cy n ad o I x) (cwV 1 hts gX2_isAsked_X2_isHome rfl rfl rfl (by decide +kernel) ⟨Nat.le_of_ble_eq_true rfl, Nat.le_of_ble_eq_true rfl⟩) hK hP hD hS hA 2 2 tp_e2 rfl rfl rfl hl.1 rfl (Nat.le_of_ble_eq_true rfl) dX2_isAsked_3 ⟨Nat.zero_le _, Nat.zero_le _⟩ (fun I9 e9 H locs hP hD hS => ?_)
    subst e9
    refine lv_if_eq (tgt := 23) hx hb dX2_isAsked_6 (by decide) (fun c6_1 => ?_) (fun c6_1 => ?_)
    · refine lv_iconst (v := 1) hx hb dX2_isAsked_23 (by decide) ?_
      exact hj24 _ (by unfold tp_ask; rw [if_pos c6_1]) H locs hP hD hS
    · refine lv_iload_n hx hb dX2_isAsked_9 rfl (lv_at hl 2 rfl) ?_
      refine lv_iconst (v := 0) hx hb dX2_isAsked_10 (by decide) ?_
      refine lv_bipush (v := 47) hx hb dX2_isAsked_11 (by decide) ?_
      refine tp_callS ⟨hx, hb, hml, hown, hts⟩ (mc_in l D cy n ad o I k 0 47) (va_cwS 3 hts gX2_isAsked_X2_in rfl rfl rfl (by decide +kernel) ⟨Nat.le_of_ble_eq_true rfl, Nat.le_of_ble_eq_true rfl⟩) hK hP hD hS hA rfl hl.1 rfl (Nat.le_of_ble_eq_true rfl) dX2_isAsked_13 ⟨Nat.zero_le _, Nat.zero_le _⟩ (fun I9 e9 H locs hP hD hS => ?_)
      subst e9
      refine lv_if_eq (tgt := 23) hx hb dX2_isAsked_16 (by decide) (fun c16_2 => ?_) (fun c16_2 => ?_)
      · refine lv_iconst (v := 1) hx hb dX2_isAsked_23 (by decide) ?_
        exact hj24 _ (by unfold tp_ask; rw [if_neg c6_1, if_pos c16_2]) H locs hP hD hS
      · refine lv_iconst (v := 0) hx hb dX2_isAsked_19 (by decide) ?_
        refine lv_goto (tgt := 24) hx hb dX2_isAsked_20 (by decide) ?_
        exact hj24 _ (by unfold tp_ask; rw [if_neg c6_1, if_neg c16_2]) H locs hP hD hS
  refine tp_put (ci := 2) (v := (tp_ask I x k)) (ty := .int) (C := RX2) (T := TX2) (N := 16) hx hb hts (fun _ h => List.mem_cons_of_mem _ (List.mem_append_right _ (h))) tyX2 tyX2_ok nmX2 hown hK hP hD hS 2 tp_e2 (by omega) rfl 0 (by decide) (hts _ (List.mem_of_getElem? (i := 1) rfl)) rfl (by decide +kernel) rfl rfl (Nat.le_of_ble_eq_true rfl) rfl dX2_isAsked_24 (fun H locs hP hD hS => ?_)
  refine lv_aload_n hx hb dX2_isAsked_27 rfl (lv_at hl 0 rfl) ?_
  refine va_get (D := D) (ci := 2) (v := .int (tp_ask I x k)) (C := RX2) (T := TX2) (N := 16) hx hb hts (fun _ h => List.mem_cons_of_mem _ (List.mem_append_right _ (h))) hown hK hP 2 tp_e2 rfl 0 (by decide) (hts _ (List.mem_of_getElem? (i := 1) rfl)) (fun _ h9 => h9) rfl dX2_isAsked_28 ?_
  refine lv_if_ne (tgt := 38) hx hb dX2_isAsked_31 (by decide) (fun c31_3 => ?_) (fun c31_3 => ?_)
  · refine lv_iconst (v := 0) hx hb dX2_isAsked_38 (by decide) ?_
    exact tp_reti hx hb hr hlocks hK hP hD hS rfl (by rw [if_neg c31_3]) rfl dX2_isAsked_39
  · refine lv_iconst (v := 1) hx hb dX2_isAsked_34 (by decide) ?_
    refine lv_goto (tgt := 39) hx hb dX2_isAsked_35 (by decide) ?_
    exact tp_reti hx hb hr hlocks hK hP hD hS rfl (by rw [if_pos c31_3]) rfl dX2_isAsked_39
set_option maxHeartbeats 4000000 in
set_option maxRecDepth 100000 in
/-- lowest -/
theorem mc_lowest (l : Launch) (D : va_G) (cy : Nat → ClassId) (n : Nat) (ad : Nat → Nat) (o : Int64) (I : Nat → Nat → Int32) (f : Int32) : tp_I l yX2_lowest wsX2_lowest (tp_rm 0 0) D cy n ad o [.int f] I (tp_low f) (I) := by
  refine tp_ofI (lv := [(0, .int f)]) (by decide) rfl (Nat.le_of_ble_eq_true rfl) rfl (fun p e s m args below meth c A ls S0 => ?_)
  obtain ⟨hx, hb, hr, hml, hown, hts, hlocks, hA, hK, hP, hD, hS, hl⟩ := S0
  refine lv_iload_n hx hb dX2_lowest_0 rfl (lv_at hl 0 rfl) ?_
  refine lv_if_ne (tgt := 8) hx hb dX2_lowest_1 (by decide) (fun c1_1 => ?_) (fun c1_1 => ?_)
  · refine lv_iconst (v := 0) hx hb dX2_lowest_8 (by decide) ?_
    exact tp_reti hx hb hr hlocks hK hP hD hS rfl (by unfold tp_low; rw [if_neg c1_1]) rfl dX2_lowest_9
  · refine lv_iconst (v := 1) hx hb dX2_lowest_4 (by decide) ?_
    refine lv_goto (tgt := 9) hx hb dX2_lowest_5 (by decide) ?_
    exact tp_reti hx hb hr hlocks hK hP hD hS rfl (by unfold tp_low; rw [if_pos c1_1]) rfl dX2_lowest_9
set_option maxHeartbeats 4000000 in
set_option maxRecDepth 100000 in
/-- greatest -/
theorem mc_greatest (l : Launch) (D : va_G) (cy : Nat → ClassId) (n : Nat) (ad : Nat → Nat) (o : Int64) (I : Nat → Nat → Int32) (f : Int32) : tp_I l yX2_greatest wsX2_greatest (tp_rm 0 0) D cy n ad o [.int f] I (tp_great f) (I) := by
  refine tp_ofI (lv := [(0, .int f)]) (by decide) rfl (Nat.le_of_ble_eq_true rfl) rfl (fun p e s m args below meth c A ls S0 => ?_)
  obtain ⟨hx, hb, hr, hml, hown, hts, hlocks, hA, hK, hP, hD, hS, hl⟩ := S0
  refine lv_iload_n hx hb dX2_greatest_0 rfl (lv_at hl 0 rfl) ?_
  refine lv_if_ne (tgt := 8) hx hb dX2_greatest_1 (by decide) (fun c1_1 => ?_) (fun c1_1 => ?_)
  · refine lv_iload_n hx hb dX2_greatest_8 rfl (lv_at hl 0 rfl) ?_
    refine lv_iconst (v := 1) hx hb dX2_greatest_9 (by decide) ?_
    refine lv_icmp_ne (tgt := 18) hx hb dX2_greatest_10 (by decide) (fun c10_2 => ?_) (fun c10_2 => ?_)
    · refine lv_iload_n hx hb dX2_greatest_18 rfl (lv_at hl 0 rfl) ?_
      refine lv_iconst (v := 4) hx hb dX2_greatest_19 (by decide) ?_
      refine lv_icmp_ne (tgt := 28) hx hb dX2_greatest_20 (by decide) (fun c20_3 => ?_) (fun c20_3 => ?_)
      · refine lv_ldc (v := 1000000) hx hb hown (hts _ (List.mem_of_getElem? (i := 2) rfl)) dX2_greatest_28 ?_
        exact tp_reti hx hb hr hlocks hK hP hD hS rfl (by unfold tp_great; rw [if_neg c1_1, if_neg c10_2, if_neg c20_3]) rfl dX2_greatest_30
      · refine lv_ldc (v := 10000000) hx hb hown (hts _ (List.mem_of_getElem? (i := 1) rfl)) dX2_greatest_23 ?_
        refine lv_goto (tgt := 30) hx hb dX2_greatest_25 (by decide) ?_
        exact tp_reti hx hb hr hlocks hK hP hD hS rfl (by unfold tp_great; rw [if_neg c1_1, if_neg c10_2, if_pos c20_3]) rfl dX2_greatest_30
    · refine lv_bipush (v := 9) hx hb dX2_greatest_13 (by decide) ?_
      refine lv_goto (tgt := 30) hx hb dX2_greatest_15 (by decide) ?_
      exact tp_reti hx hb hr hlocks hK hP hD hS rfl (by unfold tp_great; rw [if_neg c1_1, if_pos c10_2]) rfl dX2_greatest_30
  · refine lv_iconst (v := 2) hx hb dX2_greatest_4 (by decide) ?_
    refine lv_goto (tgt := 30) hx hb dX2_greatest_5 (by decide) ?_
    exact tp_reti hx hb hr hlocks hK hP hD hS rfl (by unfold tp_great; rw [if_pos c1_1]) rfl dX2_greatest_30
set_option maxHeartbeats 4000000 in
set_option maxRecDepth 100000 in
/-- least -/
theorem mc_least (l : Launch) (D : va_G) (cy : Nat → ClassId) (n : Nat) (ad : Nat → Nat) (o : Int64) (I : Nat → Nat → Int32) (x y : Int32) : tp_I l yX2_least wsX2_least (tp_rm 0 0) D cy n ad o [.int x, .int y] I (tp_least x y) (I) := by
  refine tp_ofI (lv := [(0, .int x), (1, .int y)]) (by decide) rfl (Nat.le_of_ble_eq_true rfl) rfl (fun p e s m args below meth c A ls S0 => ?_)
  obtain ⟨hx, hb, hr, hml, hown, hts, hlocks, hA, hK, hP, hD, hS, hl⟩ := S0
  refine lv_iload_n hx hb dX2_least_0 rfl (lv_at hl 0 rfl) ?_
  refine lv_iload_n hx hb dX2_least_1 rfl (lv_at hl 1 rfl) ?_
  refine lv_icmp_ge (tgt := 9) hx hb dX2_least_2 (by decide) (fun c2_1 => ?_) (fun c2_1 => ?_)
  · refine lv_iload_n hx hb dX2_least_9 rfl (lv_at hl 1 rfl) ?_
    exact tp_reti hx hb hr hlocks hK hP hD hS rfl (by unfold tp_least; rw [if_pos c2_1]) rfl dX2_least_10
  · refine lv_iload_n hx hb dX2_least_5 rfl (lv_at hl 0 rfl) ?_
    refine lv_goto (tgt := 10) hx hb dX2_least_6 (by decide) ?_
    exact tp_reti hx hb hr hlocks hK hP hD hS rfl (by unfold tp_least; rw [if_neg c2_1]) rfl dX2_least_10
set_option maxHeartbeats 4000000 in
set_option maxRecDepth 100000 in
/-- factOf(h, f, m) -/
theorem mc_factOf (l : Launch) (D : va_G) (cy : Nat → ClassId) (n : Nat) (ad : Nat → Nat) (o : Int64) (I : Nat → Nat → Int32) (h : Nat) (hh : h < 6) (hc : tp_C I h) (f k : Int32) : tp_I l yX2_factOf wsX2_factOf (tp_rm 1 20) D cy n ad o [.ref (ad (2)), .int (nI h), .int f, .int k] I (tp_mfact I h f k) (I) := by
  obtain ⟨c0, hc100, hc0⟩ := hc
  refine tp_ofI (lv := [(0, .ref (ad (2))), (1, .int (nI h)), (2, .int f), (3, .int k)]) (by decide) rfl (Nat.le_of_ble_eq_true rfl) rfl (fun p e s m args below meth c A ls S0 => ?_)
  obtain ⟨hx, hb, hr, hml, hown, hts, hlocks, hA, hK, hP, hD, hS, hl⟩ := S0
  refine lv_iload_n hx hb dX2_factOf_0 rfl (lv_at hl 2 rfl) ?_
  refine tp_callS ⟨hx, hb, hml, hown, hts⟩ (mc_lowest l D cy n ad o I f) (va_cwS 1 hts gX2_factOf_X2_lowest rfl rfl rfl (by decide +kernel) ⟨Nat.le_of_ble_eq_true rfl, Nat.le_of_ble_eq_true rfl⟩) hK hP hD hS hA rfl hl.1 rfl (Nat.le_of_ble_eq_true rfl) dX2_factOf_1 ⟨Nat.zero_le _, Nat.zero_le _⟩ (fun I9 e9 H locs hP hD hS => ?_)
  subst e9
  refine lv_istore (lv' := [(4, .int (tp_low f)), (0, .ref (ad (2))), (1, .int (nI h)), (2, .int f), (3, .int k)]) hx hb dX2_factOf_4 hl (by decide) rfl (fun ls hl => ?_)
  refine lv_iconst (v := (-1)) hx hb dX2_factOf_6 (by decide) ?_
  refine lv_istore (lv' := [(5, .int ((-1))), (4, .int (tp_low f)), (0, .ref (ad (2))), (1, .int (nI h)), (2, .int f), (3, .int k)]) hx hb dX2_factOf_7 hl (by decide) rfl (fun ls hl => ?_)
  refine lv_bipush (v := 100) hx hb dX2_factOf_9 (by decide) ?_
  refine lv_iload_n hx hb dX2_factOf_11 rfl (lv_at hl 3 rfl) ?_
  refine lv_imul hx hb dX2_factOf_12 ?_
  refine tp_eqi (y := nI (100 * h)) (pk_mul 100 h) ?_
  refine lv_istore (lv' := [(6, .int (nI (100 * h))), (5, .int ((-1))), (4, .int (tp_low f)), (0, .ref (ad (2))), (1, .int (nI h)), (2, .int f), (3, .int k)]) hx hb dX2_factOf_13 hl (by decide) rfl (fun ls hl => ?_)
  refine tp_for (nL := 8) c0 (fun _ => I) (fun t => [(6, .int (nI (100 * h + t))), (5, .int (tp_scan I f k (100 * h) t).2), (4, .int (tp_scan I f k (100 * h) t).1), (0, .ref (ad (2))), (1, .int (nI h)), (2, .int f), (3, .int k)]) (fun t ht ls H locs hl hP hD hS ih => ?_) (fun ls H locs hl hP hD hS => ?_) hl hP hD hS
  · refine lv_iload hx hb dX2_factOf_15 (lv_at hl 0 rfl) ?_
    refine lv_bipush (v := 100) hx hb dX2_factOf_17 (by decide) ?_
    refine lv_iload_n hx hb dX2_factOf_19 rfl (lv_at hl 4 rfl) ?_
    refine lv_imul hx hb dX2_factOf_20 ?_
    refine tp_eqi (y := nI (100 * h)) (pk_mul 100 h) ?_
    refine lv_aload_n hx hb dX2_factOf_21 rfl (lv_at hl 3 rfl) ?_
    refine va_get (D := D) (ci := 2) (v := .ref (ad (4))) (C := RX2) (T := TX2) (N := 16) hx hb hts (fun _ h => List.mem_cons_of_mem _ (List.mem_append_right _ (h))) hown hK hP 2 tp_e2 rfl 4 (by decide) (hts _ (List.mem_of_getElem? (i := 1) rfl)) (fun _ h9 => h9) rfl dX2_factOf_22 ?_
    refine lv_iload_n hx hb dX2_factOf_25 rfl (lv_at hl 4 rfl) ?_
    refine tp_iald hx hb hK hP 4 6 (h) (by omega) rfl rfl (by omega) (by decide) dX2_factOf_26 ?_
    refine tp_eqi (y := nI c0) hc0 ?_
    refine lv_iadd hx hb dX2_factOf_27 ?_
    refine tp_eqi (y := nI ((100 * h) + c0)) (nI_add (100 * h) c0) ?_
    refine lv_icmp_ge (tgt := 116) hx hb dX2_factOf_28 (by decide) (fun c28_1 => ?_) (fun c28_1 => ?_)
    · exact absurd c28_1 (nI_ge (by omega) (by omega))
    · refine tp_meetH (D := D) (cy := cy) (n := n) (ad := ad) (I := I) (o := o) (A := A) (H0 := s.heap) (tp_cnt I f k (tp_scan I f k (100 * h) t).2 (100 * h + t) : Int32) (fun y => F0 m 70 ls (.int y :: [])) (fun hj70 => ?_) (fun H locs hP hD hS => ?_)
      · refine lv_aload_n hx hb dX2_factOf_31 rfl (lv_at hl 3 rfl) ?_
        refine va_get (D := D) (ci := 2) (v := .ref (ad (5))) (C := RX2) (T := TX2) (N := 16) hx hb hts (fun _ h => List.mem_cons_of_mem _ (List.mem_append_right _ (h))) hown hK hP 2 tp_e2 rfl 5 (by decide) (hts _ (List.mem_of_getElem? (i := 2) rfl)) (fun _ h9 => h9) rfl dX2_factOf_32 ?_
        refine lv_iload hx hb dX2_factOf_35 (lv_at hl 0 rfl) ?_
        refine tp_iald hx hb hK hP 5 600 ((100 * h + t)) (by omega) rfl rfl (by omega) (by decide) dX2_factOf_37 ?_
        refine lv_iload_n hx hb dX2_factOf_38 rfl (lv_at hl 5 rfl) ?_
        refine lv_icmp_ne (tgt := 69) hx hb dX2_factOf_39 (by decide) (fun c39_2 => ?_) (fun c39_2 => ?_)
        · refine lv_iconst (v := 0) hx hb dX2_factOf_69 (by decide) ?_
          exact hj70 _ (by unfold tp_cnt; rw [if_neg c39_2]) H locs hP hD hS
        · refine lv_aload_n hx hb dX2_factOf_42 rfl (lv_at hl 3 rfl) ?_
          refine va_get (D := D) (ci := 2) (v := .ref (ad (6))) (C := RX2) (T := TX2) (N := 16) hx hb hts (fun _ h => List.mem_cons_of_mem _ (List.mem_append_right _ (h))) hown hK hP 2 tp_e2 rfl 6 (by decide) (hts _ (List.mem_of_getElem? (i := 3) rfl)) (fun _ h9 => h9) rfl dX2_factOf_43 ?_
          refine lv_iload hx hb dX2_factOf_46 (lv_at hl 0 rfl) ?_
          refine tp_iald hx hb hK hP 6 600 ((100 * h + t)) (by omega) rfl rfl (by omega) (by decide) dX2_factOf_48 ?_
          refine lv_iload_n hx hb dX2_factOf_49 rfl (lv_at hl 6 rfl) ?_
          refine lv_icmp_gt (tgt := 69) hx hb dX2_factOf_50 (by decide) (fun c50_3 => ?_) (fun c50_3 => ?_)
          · refine lv_iconst (v := 0) hx hb dX2_factOf_69 (by decide) ?_
            exact hj70 _ (by unfold tp_cnt; rw [if_pos c39_2, if_pos c50_3]) H locs hP hD hS
          · refine lv_aload_n hx hb dX2_factOf_53 rfl (lv_at hl 3 rfl) ?_
            refine va_get (D := D) (ci := 2) (v := .ref (ad (6))) (C := RX2) (T := TX2) (N := 16) hx hb hts (fun _ h => List.mem_cons_of_mem _ (List.mem_append_right _ (h))) hown hK hP 2 tp_e2 rfl 6 (by decide) (hts _ (List.mem_of_getElem? (i := 3) rfl)) (fun _ h9 => h9) rfl dX2_factOf_54 ?_
            refine lv_iload hx hb dX2_factOf_57 (lv_at hl 0 rfl) ?_
            refine tp_iald hx hb hK hP 6 600 ((100 * h + t)) (by omega) rfl rfl (by omega) (by decide) dX2_factOf_59 ?_
            refine lv_iload hx hb dX2_factOf_60 (lv_at hl 1 rfl) ?_
            refine lv_icmp_lt (tgt := 69) hx hb dX2_factOf_62 (by decide) (fun c62_4 => ?_) (fun c62_4 => ?_)
            · refine lv_iconst (v := 0) hx hb dX2_factOf_69 (by decide) ?_
              exact hj70 _ (by unfold tp_cnt; rw [if_pos c39_2, if_neg c50_3, if_pos c62_4]) H locs hP hD hS
            · refine lv_iconst (v := 1) hx hb dX2_factOf_65 (by decide) ?_
              refine lv_goto (tgt := 70) hx hb dX2_factOf_66 (by decide) ?_
              exact hj70 _ (by unfold tp_cnt; rw [if_pos c39_2, if_neg c50_3, if_neg c62_4]) H locs hP hD hS
      refine lv_istore (lv' := [(7, .int (tp_cnt I f k (tp_scan I f k (100 * h) t).2 (100 * h + t))), (6, .int (nI (100 * h + t))), (5, .int ((tp_scan I f k (100 * h) t).2)), (4, .int ((tp_scan I f k (100 * h) t).1)), (0, .ref (ad (2))), (1, .int (nI h)), (2, .int f), (3, .int k)]) hx hb dX2_factOf_70 hl (by decide) rfl (fun ls hl => ?_)
      refine tp_meetH (D := D) (cy := cy) (n := n) (ad := ad) (I := I) (o := o) (A := A) (H0 := s.heap) (if tp_cnt I f k (tp_scan I f k (100 * h) t).2 (100 * h + t) = 0 then (tp_scan I f k (100 * h) t).1 else I 7 (100 * h + t) : Int32) (fun y => F0 m 89 ls (.int y :: [])) (fun hj89 => ?_) (fun H locs hP hD hS => ?_)
      · refine lv_iload hx hb dX2_factOf_72 (lv_at hl 0 rfl) ?_
        refine lv_if_eq (tgt := 87) hx hb dX2_factOf_74 (by decide) (fun c74_5 => ?_) (fun c74_5 => ?_)
        · refine lv_iload hx hb dX2_factOf_87 (lv_at hl 3 rfl) ?_
          exact hj89 _ (by rw [if_pos c74_5]) H locs hP hD hS
        · refine lv_aload_n hx hb dX2_factOf_77 rfl (lv_at hl 4 rfl) ?_
          refine va_get (D := D) (ci := 2) (v := .ref (ad (7))) (C := RX2) (T := TX2) (N := 16) hx hb hts (fun _ h => List.mem_cons_of_mem _ (List.mem_append_right _ (h))) hown hK hP 2 tp_e2 rfl 7 (by decide) (hts _ (List.mem_of_getElem? (i := 4) rfl)) (fun _ h9 => h9) rfl dX2_factOf_78 ?_
          refine lv_iload hx hb dX2_factOf_81 (lv_at hl 1 rfl) ?_
          refine tp_iald hx hb hK hP 7 600 ((100 * h + t)) (by omega) rfl rfl (by omega) (by decide) dX2_factOf_83 ?_
          refine lv_goto (tgt := 89) hx hb dX2_factOf_84 (by decide) ?_
          exact hj89 _ (by rw [if_neg c74_5]) H locs hP hD hS
      refine lv_istore (lv' := [(4, .int (if tp_cnt I f k (tp_scan I f k (100 * h) t).2 (100 * h + t) = 0 then (tp_scan I f k (100 * h) t).1 else I 7 (100 * h + t))), (7, .int (tp_cnt I f k (tp_scan I f k (100 * h) t).2 (100 * h + t))), (6, .int (nI (100 * h + t))), (5, .int ((tp_scan I f k (100 * h) t).2)), (0, .ref (ad (2))), (1, .int (nI h)), (2, .int f), (3, .int k)]) hx hb dX2_factOf_89 hl (by decide) rfl (fun ls hl => ?_)
      refine tp_meetH (D := D) (cy := cy) (n := n) (ad := ad) (I := I) (o := o) (A := A) (H0 := s.heap) (if tp_cnt I f k (tp_scan I f k (100 * h) t).2 (100 * h + t) = 0 then (tp_scan I f k (100 * h) t).2 else I 6 (100 * h + t) : Int32) (fun y => F0 m 108 ls (.int y :: [])) (fun hj108 => ?_) (fun H locs hP hD hS => ?_)
      · refine lv_iload hx hb dX2_factOf_91 (lv_at hl 1 rfl) ?_
        refine lv_if_eq (tgt := 106) hx hb dX2_factOf_93 (by decide) (fun c93_6 => ?_) (fun c93_6 => ?_)
        · refine lv_iload hx hb dX2_factOf_106 (lv_at hl 3 rfl) ?_
          exact hj108 _ (by rw [if_pos c93_6]) H locs hP hD hS
        · refine lv_aload_n hx hb dX2_factOf_96 rfl (lv_at hl 4 rfl) ?_
          refine va_get (D := D) (ci := 2) (v := .ref (ad (6))) (C := RX2) (T := TX2) (N := 16) hx hb hts (fun _ h => List.mem_cons_of_mem _ (List.mem_append_right _ (h))) hown hK hP 2 tp_e2 rfl 6 (by decide) (hts _ (List.mem_of_getElem? (i := 3) rfl)) (fun _ h9 => h9) rfl dX2_factOf_97 ?_
          refine lv_iload hx hb dX2_factOf_100 (lv_at hl 2 rfl) ?_
          refine tp_iald hx hb hK hP 6 600 ((100 * h + t)) (by omega) rfl rfl (by omega) (by decide) dX2_factOf_102 ?_
          refine lv_goto (tgt := 108) hx hb dX2_factOf_103 (by decide) ?_
          exact hj108 _ (by rw [if_neg c93_6]) H locs hP hD hS
      refine lv_istore (lv' := [(5, .int (if tp_cnt I f k (tp_scan I f k (100 * h) t).2 (100 * h + t) = 0 then (tp_scan I f k (100 * h) t).2 else I 6 (100 * h + t))), (4, .int (if tp_cnt I f k (tp_scan I f k (100 * h) t).2 (100 * h + t) = 0 then (tp_scan I f k (100 * h) t).1 else I 7 (100 * h + t))), (7, .int (tp_cnt I f k (tp_scan I f k (100 * h) t).2 (100 * h + t))), (6, .int (nI (100 * h + t))), (0, .ref (ad (2))), (1, .int (nI h)), (2, .int f), (3, .int k)]) hx hb dX2_factOf_108 hl (by decide) rfl (fun ls hl => ?_)
      refine lv_iinc (v := (nI ((100 * h + t) + 1))) (lv' := [(6, .int (nI ((100 * h + t) + 1))), (5, .int (if tp_cnt I f k (tp_scan I f k (100 * h) t).2 (100 * h + t) = 0 then (tp_scan I f k (100 * h) t).2 else I 6 (100 * h + t))), (4, .int (if tp_cnt I f k (tp_scan I f k (100 * h) t).2 (100 * h + t) = 0 then (tp_scan I f k (100 * h) t).1 else I 7 (100 * h + t))), (7, .int (tp_cnt I f k (tp_scan I f k (100 * h) t).2 (100 * h + t))), (0, .ref (ad (2))), (1, .int (nI h)), (2, .int f), (3, .int k)]) hx hb dX2_factOf_110 hl (k := 3) rfl (nI_1 _) (by decide) rfl (fun ls hl => ?_)
      refine lv_goto (tgt := 15) hx hb dX2_factOf_113 (by decide) ?_
      exact ih ls H locs (lv_sub hl [0, 1, 2, 4, 5, 6, 7] rfl) hP hD hS
  · refine lv_iload hx hb dX2_factOf_15 (lv_at hl 0 rfl) ?_
    refine lv_bipush (v := 100) hx hb dX2_factOf_17 (by decide) ?_
    refine lv_iload_n hx hb dX2_factOf_19 rfl (lv_at hl 4 rfl) ?_
    refine lv_imul hx hb dX2_factOf_20 ?_
    refine tp_eqi (y := nI (100 * h)) (pk_mul 100 h) ?_
    refine lv_aload_n hx hb dX2_factOf_21 rfl (lv_at hl 3 rfl) ?_
    refine va_get (D := D) (ci := 2) (v := .ref (ad (4))) (C := RX2) (T := TX2) (N := 16) hx hb hts (fun _ h => List.mem_cons_of_mem _ (List.mem_append_right _ (h))) hown hK hP 2 tp_e2 rfl 4 (by decide) (hts _ (List.mem_of_getElem? (i := 1) rfl)) (fun _ h9 => h9) rfl dX2_factOf_22 ?_
    refine lv_iload_n hx hb dX2_factOf_25 rfl (lv_at hl 4 rfl) ?_
    refine tp_iald hx hb hK hP 4 6 (h) (by omega) rfl rfl (by omega) (by decide) dX2_factOf_26 ?_
    refine tp_eqi (y := nI c0) hc0 ?_
    refine lv_iadd hx hb dX2_factOf_27 ?_
    refine tp_eqi (y := nI ((100 * h) + c0)) (nI_add (100 * h) c0) ?_
    refine lv_icmp_ge (tgt := 116) hx hb dX2_factOf_28 (by decide) (fun c28_7 => ?_) (fun c28_7 => ?_)
    · refine lv_iload hx hb dX2_factOf_116 (lv_at hl 2 rfl) ?_
      exact tp_reti hx hb hr hlocks hK hP hD hS rfl (by unfold tp_mfact; rw [hc0, nI_clamp (by omega)]) rfl dX2_factOf_118
    · exact absurd (nI_le (by omega) (by omega)) c28_7
set_option maxHeartbeats 4000000 in
set_option maxRecDepth 100000 in
/-- needOf(h, m) -/
theorem mc_needOf (l : Launch) (D : va_G) (cy : Nat → ClassId) (n : Nat) (ad : Nat → Nat) (o : Int64) (I : Nat → Nat → Int32) (h : Nat) (hh : h < 6) (hc : tp_C I h) (k : Int32) : tp_I l yX2_needOf wsX2_needOf (tp_rm 2 47) D cy n ad o [.ref (ad (2)), .int (nI h), .int k] I (tp_mneed I h k) (I) := by
  refine tp_ofI (lv := [(0, .ref (ad (2))), (1, .int (nI h)), (2, .int k)]) (by decide) rfl (Nat.le_of_ble_eq_true rfl) rfl (fun p e s m args below meth c A ls S0 => ?_)
  obtain ⟨hx, hb, hr, hml, hown, hts, hlocks, hA, hK, hP, hD, hS, hl⟩ := S0
  refine lv_aload_n hx hb dX2_needOf_0 rfl (lv_at hl 0 rfl) ?_
  refine lv_iload_n hx hb dX2_needOf_1 rfl (lv_at hl 1 rfl) ?_
  refine lv_iconst (v := 2) hx hb dX2_needOf_2 (by decide) ?_
  refine lv_iload_n hx hb dX2_needOf_3 rfl (lv_at hl 2 rfl) ?_
  refine tp_callV ⟨hx, hb, hml, hown, hts⟩ (mc_factOf l D cy n ad o I h (by omega) hc 2 k) (cwV 3 hts gX2_needOf_X2_factOf rfl rfl rfl (by decide +kernel) ⟨Nat.le_of_ble_eq_true rfl, Nat.le_of_ble_eq_true rfl⟩) hK hP hD hS hA 2 2 tp_e2 rfl rfl rfl hl.1 rfl (Nat.le_of_ble_eq_true rfl) dX2_needOf_4 ⟨Nat.zero_le _, Nat.zero_le _⟩ (fun I9 e9 H locs hP hD hS => ?_)
  subst e9
  refine lv_istore_n (lv' := [(3, .int (tp_mfact I h 2 k)), (0, .ref (ad (2))), (1, .int (nI h)), (2, .int k)]) hx hb dX2_needOf_7 rfl hl (by decide) rfl (fun ls hl => ?_)
  refine lv_sipush (v := 30000) hx hb dX2_needOf_8 (by decide) ?_
  refine lv_aload_n hx hb dX2_needOf_11 rfl (lv_at hl 1 rfl) ?_
  refine lv_iload_n hx hb dX2_needOf_12 rfl (lv_at hl 2 rfl) ?_
  refine lv_iconst (v := 0) hx hb dX2_needOf_13 (by decide) ?_
  refine lv_iload_n hx hb dX2_needOf_14 rfl (lv_at hl 3 rfl) ?_
  refine tp_callV ⟨hx, hb, hml, hown, hts⟩ (mc_factOf l D cy n ad o I h (by omega) hc 0 k) (cwV 3 hts gX2_needOf_X2_factOf rfl rfl rfl (by decide +kernel) ⟨Nat.le_of_ble_eq_true rfl, Nat.le_of_ble_eq_true rfl⟩) hK hP hD hS hA 2 2 tp_e2 rfl rfl rfl hl.1 rfl (Nat.le_of_ble_eq_true rfl) dX2_needOf_15 ⟨Nat.zero_le _, Nat.zero_le _⟩ (fun I9 e9 H locs hP hD hS => ?_)
  subst e9
  refine tp_meetH (D := D) (cy := cy) (n := n) (ad := ad) (I := I) (o := o) (A := A) (H0 := s.heap) (if tp_mfact I h 0 k = 2 then 12000 else 0 : Int32) (fun y => F0 m 29 ls (.int y :: [.int 30000])) (fun hj29 => ?_) (fun H locs hP hD hS => ?_)
  · refine lv_iconst (v := 2) hx hb dX2_needOf_18 (by decide) ?_
    refine lv_icmp_ne (tgt := 28) hx hb dX2_needOf_19 (by decide) (fun c19_1 => ?_) (fun c19_1 => ?_)
    · refine lv_iconst (v := 0) hx hb dX2_needOf_28 (by decide) ?_
      exact hj29 _ (by rw [if_neg c19_1]) H locs hP hD hS
    · refine lv_sipush (v := 12000) hx hb dX2_needOf_22 (by decide) ?_
      refine lv_goto (tgt := 29) hx hb dX2_needOf_25 (by decide) ?_
      exact hj29 _ (by rw [if_pos c19_1]) H locs hP hD hS
  refine lv_iadd hx hb dX2_needOf_29 ?_
  refine lv_sipush (v := 8000) hx hb dX2_needOf_30 (by decide) ?_
  refine lv_aload_n hx hb dX2_needOf_33 rfl (lv_at hl 1 rfl) ?_
  refine lv_iload_n hx hb dX2_needOf_34 rfl (lv_at hl 2 rfl) ?_
  refine lv_iconst (v := 1) hx hb dX2_needOf_35 (by decide) ?_
  refine lv_iload_n hx hb dX2_needOf_36 rfl (lv_at hl 3 rfl) ?_
  refine tp_callV ⟨hx, hb, hml, hown, hts⟩ (mc_factOf l D cy n ad o I h (by omega) hc 1 k) (cwV 3 hts gX2_needOf_X2_factOf rfl rfl rfl (by decide +kernel) ⟨Nat.le_of_ble_eq_true rfl, Nat.le_of_ble_eq_true rfl⟩) hK hP hD hS hA 2 2 tp_e2 rfl rfl rfl hl.1 rfl (Nat.le_of_ble_eq_true rfl) dX2_needOf_37 ⟨Nat.zero_le _, Nat.zero_le _⟩ (fun I9 e9 H locs hP hD hS => ?_)
  subst e9
  refine lv_imul hx hb dX2_needOf_40 ?_
  refine lv_iadd hx hb dX2_needOf_41 ?_
  refine tp_meetH (D := D) (cy := cy) (n := n) (ad := ad) (I := I) (o := o) (A := A) (H0 := s.heap) (if 60000 ≤ tp_mfact I h 2 k then 60000 else tp_mfact I h 2 k : Int32) (fun y => F0 m 54 ls (.int y :: [.int ((30000 + (if tp_mfact I h 0 k = 2 then 12000 else 0)) + (8000 * (tp_mfact I h 1 k)))])) (fun hj54 => ?_) (fun H locs hP hD hS => ?_)
  · refine lv_iload_n hx hb dX2_needOf_42 rfl (lv_at hl 0 rfl) ?_
    refine lv_ldc (v := 60000) hx hb hown (hts _ (List.mem_of_getElem? (i := 1) rfl)) dX2_needOf_43 ?_
    refine lv_icmp_ge (tgt := 52) hx hb dX2_needOf_45 (by decide) (fun c45_2 => ?_) (fun c45_2 => ?_)
    · refine lv_ldc (v := 60000) hx hb hown (hts _ (List.mem_of_getElem? (i := 1) rfl)) dX2_needOf_52 ?_
      exact hj54 _ (by rw [if_pos c45_2]) H locs hP hD hS
    · refine lv_iload_n hx hb dX2_needOf_48 rfl (lv_at hl 0 rfl) ?_
      refine lv_goto (tgt := 54) hx hb dX2_needOf_49 (by decide) ?_
      exact hj54 _ (by rw [if_neg c45_2]) H locs hP hD hS
  refine lv_iadd hx hb dX2_needOf_54 ?_
  exact tp_reti hx hb hr hlocks hK hP hD hS rfl rfl rfl dX2_needOf_55
set_option maxHeartbeats 4000000 in
set_option maxRecDepth 100000 in
/-- taperOf(h, m) -/
theorem mc_taperOf (l : Launch) (D : va_G) (cy : Nat → ClassId) (n : Nat) (ad : Nat → Nat) (o : Int64) (I : Nat → Nat → Int32) (h : Nat) (hh : h < 6) (hc : tp_C I h) (k : Int32) : tp_I l yX2_taperOf wsX2_taperOf (tp_rm 2 47) D cy n ad o [.ref (ad (2)), .int (nI h), .int k] I (tp_mtaper I h k) (I) := by
  refine tp_ofI (lv := [(0, .ref (ad (2))), (1, .int (nI h)), (2, .int k)]) (by decide) rfl (Nat.le_of_ble_eq_true rfl) rfl (fun p e s m args below meth c A ls S0 => ?_)
  obtain ⟨hx, hb, hr, hml, hown, hts, hlocks, hA, hK, hP, hD, hS, hl⟩ := S0
  refine lv_aload_n hx hb dX2_taperOf_0 rfl (lv_at hl 0 rfl) ?_
  refine lv_iload_n hx hb dX2_taperOf_1 rfl (lv_at hl 1 rfl) ?_
  refine lv_iconst (v := 3) hx hb dX2_taperOf_2 (by decide) ?_
  refine lv_iload_n hx hb dX2_taperOf_3 rfl (lv_at hl 2 rfl) ?_
  refine tp_callV ⟨hx, hb, hml, hown, hts⟩ (mc_factOf l D cy n ad o I h (by omega) hc 3 k) (cwV 3 hts gX2_taperOf_X2_factOf rfl rfl rfl (by decide +kernel) ⟨Nat.le_of_ble_eq_true rfl, Nat.le_of_ble_eq_true rfl⟩) hK hP hD hS hA 2 2 tp_e2 rfl rfl rfl hl.1 rfl (Nat.le_of_ble_eq_true rfl) dX2_taperOf_4 ⟨Nat.zero_le _, Nat.zero_le _⟩ (fun I9 e9 H locs hP hD hS => ?_)
  subst e9
  refine lv_sipush (v := 20000) hx hb dX2_taperOf_7 (by decide) ?_
  refine lv_isub hx hb dX2_taperOf_10 ?_
  refine lv_istore_n (lv' := [(3, .int ((tp_mfact I h 3 k) - 20000)), (0, .ref (ad (2))), (1, .int (nI h)), (2, .int k)]) hx hb dX2_taperOf_11 rfl hl (by decide) rfl (fun ls hl => ?_)
  refine lv_iload_n hx hb dX2_taperOf_12 rfl (lv_at hl 0 rfl) ?_
  refine lv_if_le (tgt := 26) hx hb dX2_taperOf_13 (by decide) (fun c13_1 => ?_) (fun c13_1 => ?_)
  · refine lv_iconst (v := 0) hx hb dX2_taperOf_26 (by decide) ?_
    exact tp_reti hx hb hr hlocks hK hP hD hS rfl (by unfold tp_mtaper; rw [if_pos c13_1]) rfl dX2_taperOf_27
  · refine lv_iload_n hx hb dX2_taperOf_16 rfl (lv_at hl 0 rfl) ?_
    refine lv_bipush (v := 60) hx hb dX2_taperOf_17 (by decide) ?_
    refine lv_imul hx hb dX2_taperOf_19 ?_
    refine lv_bipush (v := 100) hx hb dX2_taperOf_20 (by decide) ?_
    refine lv_idiv hx hb dX2_taperOf_22 (by decide) ?_
    refine lv_goto (tgt := 27) hx hb dX2_taperOf_23 (by decide) ?_
    exact tp_reti hx hb hr hlocks hK hP hD hS rfl (by unfold tp_mtaper; rw [if_neg c13_1]) rfl dX2_taperOf_27
set_option maxHeartbeats 4000000 in
set_option maxRecDepth 100000 in
/-- tariffOf(h, m) -/
theorem mc_tariffOf (l : Launch) (D : va_G) (cy : Nat → ClassId) (n : Nat) (ad : Nat → Nat) (o : Int64) (I : Nat → Nat → Int32) (h : Nat) (hh : h < 6) (hc : tp_C I h) (k : Int32) : tp_I l yX2_tariffOf wsX2_tariffOf (tp_rm 2 47) D cy n ad o [.ref (ad (2)), .int (nI h), .int k] I (tp_mtariff I h k) (I) := by
  refine tp_ofI (lv := [(0, .ref (ad (2))), (1, .int (nI h)), (2, .int k)]) (by decide) rfl (Nat.le_of_ble_eq_true rfl) rfl (fun p e s m args below meth c A ls S0 => ?_)
  obtain ⟨hx, hb, hr, hml, hown, hts, hlocks, hA, hK, hP, hD, hS, hl⟩ := S0
  refine lv_aload_n hx hb dX2_tariffOf_0 rfl (lv_at hl 0 rfl) ?_
  refine lv_iload_n hx hb dX2_tariffOf_1 rfl (lv_at hl 1 rfl) ?_
  refine lv_iconst (v := 4) hx hb dX2_tariffOf_2 (by decide) ?_
  refine lv_iload_n hx hb dX2_tariffOf_3 rfl (lv_at hl 2 rfl) ?_
  refine tp_callV ⟨hx, hb, hml, hown, hts⟩ (mc_factOf l D cy n ad o I h (by omega) hc 4 k) (cwV 3 hts gX2_tariffOf_X2_factOf rfl rfl rfl (by decide +kernel) ⟨Nat.le_of_ble_eq_true rfl, Nat.le_of_ble_eq_true rfl⟩) hK hP hD hS hA 2 2 tp_e2 rfl rfl rfl hl.1 rfl (Nat.le_of_ble_eq_true rfl) dX2_tariffOf_4 ⟨Nat.zero_le _, Nat.zero_le _⟩ (fun I9 e9 H locs hP hD hS => ?_)
  subst e9
  refine lv_ldc (v := 600000) hx hb hown (hts _ (List.mem_of_getElem? (i := 1) rfl)) dX2_tariffOf_7 ?_
  refine lv_isub hx hb dX2_tariffOf_9 ?_
  refine lv_istore_n (lv' := [(3, .int ((tp_mfact I h 4 k) - 600000)), (0, .ref (ad (2))), (1, .int (nI h)), (2, .int k)]) hx hb dX2_tariffOf_10 rfl hl (by decide) rfl (fun ls hl => ?_)
  refine lv_iload_n hx hb dX2_tariffOf_11 rfl (lv_at hl 0 rfl) ?_
  refine lv_if_le (tgt := 31) hx hb dX2_tariffOf_12 (by decide) (fun c12_1 => ?_) (fun c12_1 => ?_)
  · refine lv_iconst (v := 0) hx hb dX2_tariffOf_31 (by decide) ?_
    exact tp_reti hx hb hr hlocks hK hP hD hS rfl (by unfold tp_mtariff; rw [if_pos c12_1]) rfl dX2_tariffOf_32
  · refine lv_iload_n hx hb dX2_tariffOf_15 rfl (lv_at hl 0 rfl) ?_
    refine lv_sipush (v := 24999) hx hb dX2_tariffOf_16 (by decide) ?_
    refine lv_iadd hx hb dX2_tariffOf_19 ?_
    refine lv_sipush (v := 25000) hx hb dX2_tariffOf_20 (by decide) ?_
    refine lv_idiv hx hb dX2_tariffOf_23 (by decide) ?_
    refine lv_sipush (v := 500) hx hb dX2_tariffOf_24 (by decide) ?_
    refine lv_imul hx hb dX2_tariffOf_27 ?_
    refine lv_goto (tgt := 32) hx hb dX2_tariffOf_28 (by decide) ?_
    exact tp_reti hx hb hr hlocks hK hP hD hS rfl (by unfold tp_mtariff; rw [if_neg c12_1]) rfl dX2_tariffOf_32
set_option maxHeartbeats 4000000 in
set_option maxRecDepth 100000 in
/-- dueOf(h, m) -/
theorem mc_dueOf (l : Launch) (D : va_G) (cy : Nat → ClassId) (n : Nat) (ad : Nat → Nat) (o : Int64) (I : Nat → Nat → Int32) (h : Nat) (hh : h < 6) (hc : tp_C I h) (k : Int32) : tp_I l yX2_dueOf wsX2_dueOf (tp_rm 3 70) D cy n ad o [.ref (ad (2)), .int (nI h), .int k] I (tp_mdue I h k) (I) := by
  refine tp_ofI (lv := [(0, .ref (ad (2))), (1, .int (nI h)), (2, .int k)]) (by decide) rfl (Nat.le_of_ble_eq_true rfl) rfl (fun p e s m args below meth c A ls S0 => ?_)
  obtain ⟨hx, hb, hr, hml, hown, hts, hlocks, hA, hK, hP, hD, hS, hl⟩ := S0
  refine lv_aload_n hx hb dX2_dueOf_0 rfl (lv_at hl 0 rfl) ?_
  refine lv_iload_n hx hb dX2_dueOf_1 rfl (lv_at hl 1 rfl) ?_
  refine lv_iload_n hx hb dX2_dueOf_2 rfl (lv_at hl 2 rfl) ?_
  refine tp_callV ⟨hx, hb, hml, hown, hts⟩ (mc_needOf l D cy n ad o I h (by omega) hc k) (cwV 2 hts gX2_dueOf_X2_needOf rfl rfl rfl (by decide +kernel) ⟨Nat.le_of_ble_eq_true rfl, Nat.le_of_ble_eq_true rfl⟩) hK hP hD hS hA 2 2 tp_e2 rfl rfl rfl hl.1 rfl (Nat.le_of_ble_eq_true rfl) dX2_dueOf_3 ⟨Nat.zero_le _, Nat.zero_le _⟩ (fun I9 e9 H locs hP hD hS => ?_)
  subst e9
  refine lv_aload_n hx hb dX2_dueOf_6 rfl (lv_at hl 0 rfl) ?_
  refine lv_iload_n hx hb dX2_dueOf_7 rfl (lv_at hl 1 rfl) ?_
  refine lv_iload_n hx hb dX2_dueOf_8 rfl (lv_at hl 2 rfl) ?_
  refine tp_callV ⟨hx, hb, hml, hown, hts⟩ (mc_taperOf l D cy n ad o I h (by omega) hc k) (cwV 2 hts gX2_dueOf_X2_taperOf rfl rfl rfl (by decide +kernel) ⟨Nat.le_of_ble_eq_true rfl, Nat.le_of_ble_eq_true rfl⟩) hK hP hD hS hA 2 2 tp_e2 rfl rfl rfl hl.1 rfl (Nat.le_of_ble_eq_true rfl) dX2_dueOf_9 ⟨Nat.zero_le _, Nat.zero_le _⟩ (fun I9 e9 H locs hP hD hS => ?_)
  subst e9
  refine lv_isub hx hb dX2_dueOf_12 ?_
  refine lv_aload_n hx hb dX2_dueOf_13 rfl (lv_at hl 0 rfl) ?_
  refine lv_iload_n hx hb dX2_dueOf_14 rfl (lv_at hl 1 rfl) ?_
  refine lv_iload_n hx hb dX2_dueOf_15 rfl (lv_at hl 2 rfl) ?_
  refine tp_callV ⟨hx, hb, hml, hown, hts⟩ (mc_tariffOf l D cy n ad o I h (by omega) hc k) (cwV 2 hts gX2_dueOf_X2_tariffOf rfl rfl rfl (by decide +kernel) ⟨Nat.le_of_ble_eq_true rfl, Nat.le_of_ble_eq_true rfl⟩) hK hP hD hS hA 2 2 tp_e2 rfl rfl rfl hl.1 rfl (Nat.le_of_ble_eq_true rfl) dX2_dueOf_16 ⟨Nat.zero_le _, Nat.zero_le _⟩ (fun I9 e9 H locs hP hD hS => ?_)
  subst e9
  refine lv_isub hx hb dX2_dueOf_19 ?_
  refine lv_istore_n (lv' := [(3, .int (((tp_mneed I h k) - (tp_mtaper I h k)) - (tp_mtariff I h k))), (0, .ref (ad (2))), (1, .int (nI h)), (2, .int k)]) hx hb dX2_dueOf_20 rfl hl (by decide) rfl (fun ls hl => ?_)
  refine lv_iload_n hx hb dX2_dueOf_21 rfl (lv_at hl 0 rfl) ?_
  refine lv_sipush (v := 500) hx hb dX2_dueOf_22 (by decide) ?_
  refine lv_icmp_lt (tgt := 40) hx hb dX2_dueOf_25 (by decide) (fun c25_1 => ?_) (fun c25_1 => ?_)
  · refine lv_iconst (v := 0) hx hb dX2_dueOf_40 (by decide) ?_
    refine lv_goto (tgt := 45) hx hb dX2_dueOf_41 (by decide) ?_
    exact tp_reti hx hb hr hlocks hK hP hD hS rfl (by unfold tp_mdue; rw [if_pos c25_1]) rfl dX2_dueOf_45
  · refine lv_aload_n hx hb dX2_dueOf_28 rfl (lv_at hl 1 rfl) ?_
    refine lv_iload_n hx hb dX2_dueOf_29 rfl (lv_at hl 2 rfl) ?_
    refine lv_iconst (v := 4) hx hb dX2_dueOf_30 (by decide) ?_
    refine lv_iload_n hx hb dX2_dueOf_31 rfl (lv_at hl 3 rfl) ?_
    refine tp_callV ⟨hx, hb, hml, hown, hts⟩ (mc_factOf l D cy n ad o I h (by omega) hc 4 k) (cwV 3 hts gX2_dueOf_X2_factOf rfl rfl rfl (by decide +kernel) ⟨Nat.le_of_ble_eq_true rfl, Nat.le_of_ble_eq_true rfl⟩) hK hP hD hS hA 2 2 tp_e2 rfl rfl rfl hl.1 rfl (Nat.le_of_ble_eq_true rfl) dX2_dueOf_32 ⟨Nat.zero_le _, Nat.zero_le _⟩ (fun I9 e9 H locs hP hD hS => ?_)
    subst e9
    refine lv_ldc (v := 1600000) hx hb hown (hts _ (List.mem_of_getElem? (i := 1) rfl)) dX2_dueOf_35 ?_
    refine lv_icmp_le (tgt := 44) hx hb dX2_dueOf_37 (by decide) (fun c37_2 => ?_) (fun c37_2 => ?_)
    · refine lv_iload_n hx hb dX2_dueOf_44 rfl (lv_at hl 0 rfl) ?_
      exact tp_reti hx hb hr hlocks hK hP hD hS rfl (by unfold tp_mdue; rw [if_neg c25_1, if_pos c37_2]) rfl dX2_dueOf_45
    · refine lv_iconst (v := 0) hx hb dX2_dueOf_40 (by decide) ?_
      refine lv_goto (tgt := 45) hx hb dX2_dueOf_41 (by decide) ?_
      exact tp_reti hx hb hr hlocks hK hP hD hS rfl (by unfold tp_mdue; rw [if_neg c25_1, if_neg c37_2]) rfl dX2_dueOf_45
set_option maxHeartbeats 4000000 in
set_option maxRecDepth 100000 in
/-- openOf(h) -/
theorem mc_openOf (l : Launch) (D : va_G) (cy : Nat → ClassId) (n : Nat) (ad : Nat → Nat) (o : Int64) (I : Nat → Nat → Int32) (h : Nat) (hh : h < 6) (hc : tp_C I h) (a0 e0 : Nat) (ha : I 3 h = nI a0) (he : I 2 1 = nI e0) (ha8 : a0 ≤ 48) (he8 : e0 ≤ 48) : tp_I l yX2_openOf wsX2_openOf (tp_rm 4 93) D cy n ad o [.ref (ad (2)), .int (nI h)] I (tp_mopen I h a0 e0) (I) := by
  refine tp_ofI (lv := [(0, .ref (ad (2))), (1, .int (nI h))]) (by decide) rfl (Nat.le_of_ble_eq_true rfl) rfl (fun p e s m args below meth c A ls S0 => ?_)
  obtain ⟨hx, hb, hr, hml, hown, hts, hlocks, hA, hK, hP, hD, hS, hl⟩ := S0
  refine lv_iconst (v := 0) hx hb dX2_openOf_0 (by decide) ?_
  refine lv_istore_n (lv' := [(2, .int 0), (0, .ref (ad (2))), (1, .int (nI h))]) hx hb dX2_openOf_1 rfl hl (by decide) rfl (fun ls hl => ?_)
  refine lv_aload_n hx hb dX2_openOf_2 rfl (lv_at hl 1 rfl) ?_
  refine va_get (D := D) (ci := 2) (v := .ref (ad (3))) (C := RX2) (T := TX2) (N := 16) hx hb hts (fun _ h => List.mem_cons_of_mem _ (List.mem_append_right _ (h))) hown hK hP 2 tp_e2 rfl 3 (by decide) (hts _ (List.mem_of_getElem? (i := 1) rfl)) (fun _ h9 => h9) rfl dX2_openOf_3 ?_
  refine lv_iload_n hx hb dX2_openOf_6 rfl (lv_at hl 2 rfl) ?_
  refine tp_iald hx hb hK hP 3 6 (h) (by omega) rfl rfl (by omega) (by decide) dX2_openOf_7 ?_
  refine tp_eqi (y := nI a0) ha ?_
  refine lv_istore_n (lv' := [(3, .int (nI a0)), (2, .int 0), (0, .ref (ad (2))), (1, .int (nI h))]) hx hb dX2_openOf_8 rfl hl (by decide) rfl (fun ls hl => ?_)
  refine tp_for (nL := 4) (e0 - a0) (fun _ => I) (fun t => [(3, .int (nI (a0 + t))), (2, .int (tp_sum (fun m => tp_mdue I h (nI m) - I 8 (48 * h + m)) a0 t)), (0, .ref (ad (2))), (1, .int (nI h))]) (fun t ht ls H locs hl hP hD hS ih => ?_) (fun ls H locs hl hP hD hS => ?_) hl hP hD hS
  · refine lv_iload_n hx hb dX2_openOf_9 rfl (lv_at hl 0 rfl) ?_
    refine lv_aload_n hx hb dX2_openOf_10 rfl (lv_at hl 2 rfl) ?_
    refine va_get (D := D) (ci := 2) (v := .int (I 2 1)) (C := RX2) (T := TX2) (N := 16) hx hb hts (fun _ h => List.mem_cons_of_mem _ (List.mem_append_right _ (h))) hown hK hP 2 tp_e2 rfl 1 (by decide) (hts _ (List.mem_of_getElem? (i := 2) rfl)) (fun _ h9 => h9) rfl dX2_openOf_11 ?_
    refine tp_eqi (y := nI e0) he ?_
    refine lv_icmp_ge (tgt := 44) hx hb dX2_openOf_14 (by decide) (fun c14_1 => ?_) (fun c14_1 => ?_)
    · exact absurd c14_1 (nI_ge (by omega) (by omega))
    · refine lv_iload_n hx hb dX2_openOf_17 rfl (lv_at hl 1 rfl) ?_
      refine lv_aload_n hx hb dX2_openOf_18 rfl (lv_at hl 2 rfl) ?_
      refine lv_iload_n hx hb dX2_openOf_19 rfl (lv_at hl 3 rfl) ?_
      refine lv_iload_n hx hb dX2_openOf_20 rfl (lv_at hl 0 rfl) ?_
      refine tp_callV ⟨hx, hb, hml, hown, hts⟩ (mc_dueOf l D cy n ad o I h (by omega) hc (nI (a0 + t))) (cwV 2 hts gX2_openOf_X2_dueOf rfl rfl rfl (by decide +kernel) ⟨Nat.le_of_ble_eq_true rfl, Nat.le_of_ble_eq_true rfl⟩) hK hP hD hS hA 2 2 tp_e2 rfl rfl rfl hl.1 rfl (Nat.le_of_ble_eq_true rfl) dX2_openOf_21 ⟨Nat.zero_le _, Nat.zero_le _⟩ (fun I9 e9 H locs hP hD hS => ?_)
      subst e9
      refine lv_aload_n hx hb dX2_openOf_24 rfl (lv_at hl 2 rfl) ?_
      refine va_get (D := D) (ci := 2) (v := .ref (ad (8))) (C := RX2) (T := TX2) (N := 16) hx hb hts (fun _ h => List.mem_cons_of_mem _ (List.mem_append_right _ (h))) hown hK hP 2 tp_e2 rfl 8 (by decide) (hts _ (List.mem_of_getElem? (i := 3) rfl)) (fun _ h9 => h9) rfl dX2_openOf_25 ?_
      refine lv_bipush (v := 48) hx hb dX2_openOf_28 (by decide) ?_
      refine lv_iload_n hx hb dX2_openOf_30 rfl (lv_at hl 3 rfl) ?_
      refine lv_imul hx hb dX2_openOf_31 ?_
      refine tp_eqi (y := nI (48 * h)) (pk_mul 48 h) ?_
      refine lv_iload_n hx hb dX2_openOf_32 rfl (lv_at hl 0 rfl) ?_
      refine lv_iadd hx hb dX2_openOf_33 ?_
      refine tp_eqi (y := nI ((48 * h) + (a0 + t))) (nI_add (48 * h) (a0 + t)) ?_
      refine tp_iald hx hb hK hP 8 288 (((48 * h) + (a0 + t))) (by omega) rfl rfl (by omega) (by decide) dX2_openOf_34 ?_
      refine lv_isub hx hb dX2_openOf_35 ?_
      refine lv_iadd hx hb dX2_openOf_36 ?_
      refine lv_istore_n (lv' := [(2, .int ((tp_sum (fun m => tp_mdue I h (nI m) - I 8 (48 * h + m)) a0 t) + ((tp_mdue I h (nI (a0 + t))) - (I 8 ((48 * h) + (a0 + t)))))), (3, .int (nI (a0 + t))), (0, .ref (ad (2))), (1, .int (nI h))]) hx hb dX2_openOf_37 rfl hl (by decide) rfl (fun ls hl => ?_)
      refine lv_iinc (v := (nI ((a0 + t) + 1))) (lv' := [(3, .int (nI ((a0 + t) + 1))), (2, .int ((tp_sum (fun m => tp_mdue I h (nI m) - I 8 (48 * h + m)) a0 t) + ((tp_mdue I h (nI (a0 + t))) - (I 8 ((48 * h) + (a0 + t)))))), (0, .ref (ad (2))), (1, .int (nI h))]) hx hb dX2_openOf_38 hl (k := 1) rfl (nI_1 _) (by decide) rfl (fun ls hl => ?_)
      refine lv_goto (tgt := 9) hx hb dX2_openOf_41 (by decide) ?_
      exact ih ls H locs (lv_sub hl [0, 1, 2, 3] rfl) hP hD hS
  · refine lv_iload_n hx hb dX2_openOf_9 rfl (lv_at hl 0 rfl) ?_
    refine lv_aload_n hx hb dX2_openOf_10 rfl (lv_at hl 2 rfl) ?_
    refine va_get (D := D) (ci := 2) (v := .int (I 2 1)) (C := RX2) (T := TX2) (N := 16) hx hb hts (fun _ h => List.mem_cons_of_mem _ (List.mem_append_right _ (h))) hown hK hP 2 tp_e2 rfl 1 (by decide) (hts _ (List.mem_of_getElem? (i := 2) rfl)) (fun _ h9 => h9) rfl dX2_openOf_11 ?_
    refine tp_eqi (y := nI e0) he ?_
    refine lv_icmp_ge (tgt := 44) hx hb dX2_openOf_14 (by decide) (fun c14_2 => ?_) (fun c14_2 => ?_)
    · refine lv_iload_n hx hb dX2_openOf_44 rfl (lv_at hl 1 rfl) ?_
      exact tp_reti hx hb hr hlocks hK hP hD hS rfl rfl rfl dX2_openOf_45
    · exact absurd (nI_le (by omega) (by omega)) c14_2
set_option maxHeartbeats 4000000 in
set_option maxRecDepth 100000 in
/-- reckons(h) -/
theorem mc_reckons (l : Launch) (D : va_G) (cy : Nat → ClassId) (n : Nat) (ad : Nat → Nat) (o : Int64) (I : Nat → Nat → Int32) (h : Nat) (hh : h < 6) (hc : tp_C I h) (a0 e0 : Nat) (ha : I 3 h = nI a0) (he : I 2 1 = nI e0) (ha8 : a0 ≤ 48) (he8 : e0 ≤ 48) : tp_V l yX2_reckons wsX2_reckons (tp_rm 5 116) D cy n ad o [.ref (ad (2)), .int (nI h)] I (tp_reck I h (nI e0) (tp_mopen I h a0 e0)) := by
  refine tp_ofV (lv := [(0, .ref (ad (2))), (1, .int (nI h))]) (by decide) rfl (Nat.le_of_ble_eq_true rfl) rfl (fun p e s m args below meth c A ls S0 => ?_)
  obtain ⟨hx, hb, hr, hml, hown, hts, hlocks, hA, hK, hP, hD, hS, hl⟩ := S0
  refine lv_aload_n hx hb dX2_reckons_0 rfl (lv_at hl 0 rfl) ?_
  refine lv_iload_n hx hb dX2_reckons_1 rfl (lv_at hl 1 rfl) ?_
  refine tp_callV ⟨hx, hb, hml, hown, hts⟩ (mc_openOf l D cy n ad o I h (by omega) hc a0 e0 ha he ha8 he8) (cwV 1 hts gX2_reckons_X2_openOf rfl rfl rfl (by decide +kernel) ⟨Nat.le_of_ble_eq_true rfl, Nat.le_of_ble_eq_true rfl⟩) hK hP hD hS hA 2 2 tp_e2 rfl rfl rfl hl.1 rfl (Nat.le_of_ble_eq_true rfl) dX2_reckons_2 ⟨Nat.zero_le _, Nat.zero_le _⟩ (fun I9 e9 H locs hP hD hS => ?_)
  subst e9
  refine lv_istore_n (lv' := [(2, .int (tp_mopen I h a0 e0)), (0, .ref (ad (2))), (1, .int (nI h))]) hx hb dX2_reckons_5 rfl hl (by decide) rfl (fun ls hl => ?_)
  refine tp_meetH (D := D) (cy := cy) (n := n) (ad := ad) (I := I) (o := o) (A := A) (H0 := s.heap) (tp_rdown I h (tp_mopen I h a0 e0) : Int32) (fun y => F0 m 24 ls (.int y :: [])) (fun hj24 => ?_) (fun H locs hP hD hS => ?_)
  · refine lv_iload_n hx hb dX2_reckons_6 rfl (lv_at hl 0 rfl) ?_
    refine lv_if_le (tgt := 23) hx hb dX2_reckons_7 (by decide) (fun c7_1 => ?_) (fun c7_1 => ?_)
    · refine lv_iconst (v := 0) hx hb dX2_reckons_23 (by decide) ?_
      exact hj24 _ (by unfold tp_rdown; rw [if_pos c7_1]) H locs hP hD hS
    · refine lv_iload_n hx hb dX2_reckons_10 rfl (lv_at hl 0 rfl) ?_
      refine lv_aload_n hx hb dX2_reckons_11 rfl (lv_at hl 1 rfl) ?_
      refine va_get (D := D) (ci := 2) (v := .ref (ad (10))) (C := RX2) (T := TX2) (N := 16) hx hb hts (fun _ h => List.mem_cons_of_mem _ (List.mem_append_right _ (h))) hown hK hP 2 tp_e2 rfl 10 (by decide) (hts _ (List.mem_of_getElem? (i := 1) rfl)) (fun _ h9 => h9) rfl dX2_reckons_12 ?_
      refine lv_iload_n hx hb dX2_reckons_15 rfl (lv_at hl 2 rfl) ?_
      refine tp_iald hx hb hK hP 10 6 (h) (by omega) rfl rfl (by omega) (by decide) dX2_reckons_16 ?_
      refine tp_callS ⟨hx, hb, hml, hown, hts⟩ (mc_least l D cy n ad o I (tp_mopen I h a0 e0) (I 10 h)) (va_cwS 2 hts gX2_reckons_X2_least rfl rfl rfl (by decide +kernel) ⟨Nat.le_of_ble_eq_true rfl, Nat.le_of_ble_eq_true rfl⟩) hK hP hD hS hA rfl hl.1 rfl (Nat.le_of_ble_eq_true rfl) dX2_reckons_17 ⟨Nat.zero_le _, Nat.zero_le _⟩ (fun I9 e9 H locs hP hD hS => ?_)
      subst e9
      refine lv_goto (tgt := 24) hx hb dX2_reckons_20 (by decide) ?_
      exact hj24 _ (by unfold tp_rdown; rw [if_neg c7_1]) H locs hP hD hS
  refine lv_istore_n (lv' := [(3, .int (tp_rdown I h (tp_mopen I h a0 e0))), (2, .int (tp_mopen I h a0 e0)), (0, .ref (ad (2))), (1, .int (nI h))]) hx hb dX2_reckons_24 rfl hl (by decide) rfl (fun ls hl => ?_)
  refine tp_meetH (D := D) (cy := cy) (n := n) (ad := ad) (I := I) (o := o) (A := A) (H0 := s.heap) (tp_rarr I h (tp_mopen I h a0 e0) : Int32) (fun y => F0 m 36 ls (.int y :: [])) (fun hj36 => ?_) (fun H locs hP hD hS => ?_)
  · refine lv_iload_n hx hb dX2_reckons_25 rfl (lv_at hl 1 rfl) ?_
    refine lv_if_le (tgt := 35) hx hb dX2_reckons_26 (by decide) (fun c26_2 => ?_) (fun c26_2 => ?_)
    · refine lv_iconst (v := 0) hx hb dX2_reckons_35 (by decide) ?_
      exact hj36 _ (by unfold tp_rarr; rw [if_pos c26_2]) H locs hP hD hS
    · refine lv_iload_n hx hb dX2_reckons_29 rfl (lv_at hl 1 rfl) ?_
      refine lv_iload_n hx hb dX2_reckons_30 rfl (lv_at hl 0 rfl) ?_
      refine lv_isub hx hb dX2_reckons_31 ?_
      refine lv_goto (tgt := 36) hx hb dX2_reckons_32 (by decide) ?_
      exact hj36 _ (by unfold tp_rarr; rw [if_neg c26_2]) H locs hP hD hS
  refine lv_istore (lv' := [(4, .int (tp_rarr I h (tp_mopen I h a0 e0))), (3, .int (tp_rdown I h (tp_mopen I h a0 e0))), (2, .int (tp_mopen I h a0 e0)), (0, .ref (ad (2))), (1, .int (nI h))]) hx hb dX2_reckons_36 hl (by decide) rfl (fun ls hl => ?_)
  refine lv_aload_n hx hb dX2_reckons_38 rfl (lv_at hl 3 rfl) ?_
  refine lv_iload_n hx hb dX2_reckons_39 rfl (lv_at hl 4 rfl) ?_
  refine lv_aload_n hx hb dX2_reckons_40 rfl (lv_at hl 3 rfl) ?_
  refine va_get (D := D) (ci := 2) (v := .int (I 2 1)) (C := RX2) (T := TX2) (N := 16) hx hb hts (fun _ h => List.mem_cons_of_mem _ (List.mem_append_right _ (h))) hown hK hP 2 tp_e2 rfl 1 (by decide) (hts _ (List.mem_of_getElem? (i := 2) rfl)) (fun _ h9 => h9) rfl dX2_reckons_41 ?_
  refine tp_eqi (y := nI e0) he ?_
  refine tp_callV ⟨hx, hb, hml, hown, hts⟩ (mc_dueOf l D cy n ad o I h (by omega) hc (nI e0)) (cwV 2 hts gX2_reckons_X2_dueOf rfl rfl rfl (by decide +kernel) ⟨Nat.le_of_ble_eq_true rfl, Nat.le_of_ble_eq_true rfl⟩) hK hP hD hS hA 2 2 tp_e2 rfl rfl rfl hl.1 rfl (Nat.le_of_ble_eq_true rfl) dX2_reckons_44 ⟨Nat.zero_le _, Nat.zero_le _⟩ (fun I9 e9 H locs hP hD hS => ?_)
  subst e9
  refine lv_istore (lv' := [(5, .int (tp_mdue I h (nI e0))), (4, .int (tp_rarr I h (tp_mopen I h a0 e0))), (3, .int (tp_rdown I h (tp_mopen I h a0 e0))), (2, .int (tp_mopen I h a0 e0)), (0, .ref (ad (2))), (1, .int (nI h))]) hx hb dX2_reckons_47 hl (by decide) rfl (fun ls hl => ?_)
  refine lv_iload hx hb dX2_reckons_49 (lv_at hl 0 rfl) ?_
  refine lv_aload_n hx hb dX2_reckons_51 rfl (lv_at hl 4 rfl) ?_
  refine lv_iload_n hx hb dX2_reckons_52 rfl (lv_at hl 5 rfl) ?_
  refine lv_iconst (v := 3) hx hb dX2_reckons_53 (by decide) ?_
  refine lv_aload_n hx hb dX2_reckons_54 rfl (lv_at hl 4 rfl) ?_
  refine va_get (D := D) (ci := 2) (v := .int (I 2 1)) (C := RX2) (T := TX2) (N := 16) hx hb hts (fun _ h => List.mem_cons_of_mem _ (List.mem_append_right _ (h))) hown hK hP 2 tp_e2 rfl 1 (by decide) (hts _ (List.mem_of_getElem? (i := 2) rfl)) (fun _ h9 => h9) rfl dX2_reckons_55 ?_
  refine tp_eqi (y := nI e0) he ?_
  refine tp_callV ⟨hx, hb, hml, hown, hts⟩ (mc_factOf l D cy n ad o I h (by omega) hc 3 (nI e0)) (cwV 3 hts gX2_reckons_X2_factOf rfl rfl rfl (by decide +kernel) ⟨Nat.le_of_ble_eq_true rfl, Nat.le_of_ble_eq_true rfl⟩) hK hP hD hS hA 2 2 tp_e2 rfl rfl rfl hl.1 rfl (Nat.le_of_ble_eq_true rfl) dX2_reckons_58 ⟨Nat.zero_le _, Nat.zero_le _⟩ (fun I9 e9 H locs hP hD hS => ?_)
  subst e9
  refine lv_iadd hx hb dX2_reckons_61 ?_
  refine lv_sipush (v := 25000) hx hb dX2_reckons_62 (by decide) ?_
  refine lv_isub hx hb dX2_reckons_65 ?_
  refine lv_istore (lv' := [(6, .int (((tp_mdue I h (nI e0)) + (tp_mfact I h 3 (nI e0))) - 25000)), (5, .int (tp_mdue I h (nI e0))), (4, .int (tp_rarr I h (tp_mopen I h a0 e0))), (3, .int (tp_rdown I h (tp_mopen I h a0 e0))), (2, .int (tp_mopen I h a0 e0)), (0, .ref (ad (2))), (1, .int (nI h))]) hx hb dX2_reckons_66 hl (by decide) rfl (fun ls hl => ?_)
  refine lv_aload_n hx hb dX2_reckons_68 rfl (lv_at hl 5 rfl) ?_
  refine tp_meetH (D := D) (cy := cy) (n := n) (ad := ad) (I := I) (o := o) (A := A) (H0 := s.heap) (tp_rthen I h (tp_mopen I h a0 e0) : Int32) (fun y => F0 m 92 ls (.int y :: [.ref (ad (2))])) (fun hj92 => ?_) (fun H locs hP hD hS => ?_)
  · refine lv_iload_n hx hb dX2_reckons_69 rfl (lv_at hl 4 rfl) ?_
    refine lv_if_le (tgt := 84) hx hb dX2_reckons_70 (by decide) (fun c70_3 => ?_) (fun c70_3 => ?_)
    · refine lv_aload_n hx hb dX2_reckons_84 rfl (lv_at hl 5 rfl) ?_
      refine va_get (D := D) (ci := 2) (v := .ref (ad (10))) (C := RX2) (T := TX2) (N := 16) hx hb hts (fun _ h => List.mem_cons_of_mem _ (List.mem_append_right _ (h))) hown hK hP 2 tp_e2 rfl 10 (by decide) (hts _ (List.mem_of_getElem? (i := 1) rfl)) (fun _ h9 => h9) rfl dX2_reckons_85 ?_
      refine lv_iload_n hx hb dX2_reckons_88 rfl (lv_at hl 6 rfl) ?_
      refine tp_iald hx hb hK hP 10 6 (h) (by omega) rfl rfl (by omega) (by decide) dX2_reckons_89 ?_
      refine lv_iload_n hx hb dX2_reckons_90 rfl (lv_at hl 4 rfl) ?_
      refine lv_isub hx hb dX2_reckons_91 ?_
      exact hj92 _ (by unfold tp_rthen; rw [if_pos c70_3]) H locs hP hD hS
    · refine lv_aload_n hx hb dX2_reckons_73 rfl (lv_at hl 5 rfl) ?_
      refine va_get (D := D) (ci := 2) (v := .ref (ad (10))) (C := RX2) (T := TX2) (N := 16) hx hb hts (fun _ h => List.mem_cons_of_mem _ (List.mem_append_right _ (h))) hown hK hP 2 tp_e2 rfl 10 (by decide) (hts _ (List.mem_of_getElem? (i := 1) rfl)) (fun _ h9 => h9) rfl dX2_reckons_74 ?_
      refine lv_iload_n hx hb dX2_reckons_77 rfl (lv_at hl 6 rfl) ?_
      refine tp_iald hx hb hK hP 10 6 (h) (by omega) rfl rfl (by omega) (by decide) dX2_reckons_78 ?_
      refine lv_iload_n hx hb dX2_reckons_79 rfl (lv_at hl 3 rfl) ?_
      refine lv_isub hx hb dX2_reckons_80 ?_
      refine lv_goto (tgt := 92) hx hb dX2_reckons_81 (by decide) ?_
      exact hj92 _ (by unfold tp_rthen; rw [if_neg c70_3]) H locs hP hD hS
  refine tp_put (ci := 2) (v := (tp_rthen I h (tp_mopen I h a0 e0))) (ty := .int) (C := RX2) (T := TX2) (N := 16) hx hb hts (fun _ h => List.mem_cons_of_mem _ (List.mem_append_right _ (h))) tyX2 tyX2_ok nmX2 hown hK hP hD hS 2 tp_e2 (by omega) rfl 13 (by decide) (hts _ (List.mem_of_getElem? (i := 3) rfl)) rfl (by decide +kernel) rfl rfl (Nat.le_of_ble_eq_true rfl) rfl dX2_reckons_92 (fun H locs hP hD hS => ?_)
  refine lv_aload_n hx hb dX2_reckons_95 rfl (lv_at hl 5 rfl) ?_
  refine tp_meetH (D := D) (cy := cy) (n := n) (ad := ad) (I := tp_u I 2 13 (tp_rthen I h (tp_mopen I h a0 e0))) (o := o) (A := A) (H0 := s.heap) (tp_rtaken I h (nI e0) (tp_mopen I h a0 e0) : Int32) (fun y => F0 m 134 ls (.int y :: [.ref (ad (2))])) (fun hj134 => ?_) (fun H locs hP hD hS => ?_)
  · refine lv_aload_n hx hb dX2_reckons_96 rfl (lv_at hl 5 rfl) ?_
    refine va_get (D := D) (ci := 2) (v := .ref (ad (12))) (C := RX2) (T := TX2) (N := 16) hx hb hts (fun _ h => List.mem_cons_of_mem _ (List.mem_append_right _ (h))) hown hK hP 2 tp_e2 rfl 12 (by decide) (hts _ (List.mem_of_getElem? (i := 4) rfl)) (fun _ h9 => h9) rfl dX2_reckons_97 ?_
    refine lv_iload_n hx hb dX2_reckons_100 rfl (lv_at hl 6 rfl) ?_
    refine tp_zald hx hb hK hP 12 6 (h) (by omega) rfl rfl (by omega) (by decide) dX2_reckons_101 ?_
    refine tp_eqi (y := (I 12 h)) rfl ?_
    refine lv_if_ne (tgt := 110) hx hb dX2_reckons_102 (by decide) (fun c102_4 => ?_) (fun c102_4 => ?_)
    · refine lv_iconst (v := 0) hx hb dX2_reckons_110 (by decide) ?_
      refine lv_goto (tgt := 134) hx hb dX2_reckons_111 (by decide) ?_
      exact hj134 _ (by unfold tp_rtaken tp_rroom; rw [if_neg c102_4]) H locs hP hD hS
    · refine lv_iload hx hb dX2_reckons_105 (lv_at hl 0 rfl) ?_
      refine lv_if_ge (tgt := 114) hx hb dX2_reckons_107 (by decide) (fun c107_5 => ?_) (fun c107_5 => ?_)
      · refine lv_aload_n hx hb dX2_reckons_114 rfl (lv_at hl 5 rfl) ?_
        refine va_get (D := D) (ci := 2) (v := .int (tp_rthen I h (tp_mopen I h a0 e0))) (C := RX2) (T := TX2) (N := 16) hx hb hts (fun _ h => List.mem_cons_of_mem _ (List.mem_append_right _ (h))) hown hK hP 2 tp_e2 rfl 13 (by decide) (hts _ (List.mem_of_getElem? (i := 3) rfl)) (fun _ h9 => h9) rfl dX2_reckons_115 ?_
        refine lv_iload hx hb dX2_reckons_118 (lv_at hl 1 rfl) ?_
        refine lv_bipush (v := 15) hx hb dX2_reckons_120 (by decide) ?_
        refine lv_imul hx hb dX2_reckons_122 ?_
        refine lv_bipush (v := 100) hx hb dX2_reckons_123 (by decide) ?_
        refine lv_idiv hx hb dX2_reckons_125 (by decide) ?_
        refine lv_iload hx hb dX2_reckons_126 (lv_at hl 0 rfl) ?_
        refine tp_callS ⟨hx, hb, hml, hown, hts⟩ (mc_least l D cy n ad o (tp_u I 2 13 (tp_rthen I h (tp_mopen I h a0 e0))) (((tp_mdue I h (nI e0)) * 15) / 100) (((tp_mdue I h (nI e0)) + (tp_mfact I h 3 (nI e0))) - 25000)) (va_cwS 2 hts gX2_reckons_X2_least rfl rfl rfl (by decide +kernel) ⟨Nat.le_of_ble_eq_true rfl, Nat.le_of_ble_eq_true rfl⟩) hK hP hD hS hA rfl hl.1 rfl (Nat.le_of_ble_eq_true rfl) dX2_reckons_128 ⟨Nat.zero_le _, Nat.zero_le _⟩ (fun I9 e9 H locs hP hD hS => ?_)
        subst e9
        refine tp_callS ⟨hx, hb, hml, hown, hts⟩ (mc_least l D cy n ad o (tp_u I 2 13 (tp_rthen I h (tp_mopen I h a0 e0))) (tp_rthen I h (tp_mopen I h a0 e0)) (tp_least (((tp_mdue I h (nI e0)) * 15) / 100) (((tp_mdue I h (nI e0)) + (tp_mfact I h 3 (nI e0))) - 25000))) (va_cwS 2 hts gX2_reckons_X2_least rfl rfl rfl (by decide +kernel) ⟨Nat.le_of_ble_eq_true rfl, Nat.le_of_ble_eq_true rfl⟩) hK hP hD hS hA rfl hl.1 rfl (Nat.le_of_ble_eq_true rfl) dX2_reckons_131 ⟨Nat.zero_le _, Nat.zero_le _⟩ (fun I9 e9 H locs hP hD hS => ?_)
        subst e9
        exact hj134 _ (by unfold tp_rtaken tp_rroom; rw [if_pos c102_4, if_pos c107_5]) H locs hP hD hS
      · refine lv_iconst (v := 0) hx hb dX2_reckons_110 (by decide) ?_
        refine lv_goto (tgt := 134) hx hb dX2_reckons_111 (by decide) ?_
        exact hj134 _ (by unfold tp_rtaken tp_rroom; rw [if_pos c102_4, if_neg c107_5]) H locs hP hD hS
  refine tp_put (ci := 2) (v := (tp_rtaken I h (nI e0) (tp_mopen I h a0 e0))) (ty := .int) (C := RX2) (T := TX2) (N := 16) hx hb hts (fun _ h => List.mem_cons_of_mem _ (List.mem_append_right _ (h))) tyX2 tyX2_ok nmX2 hown hK hP hD hS 2 tp_e2 (by omega) rfl 14 (by decide) (hts _ (List.mem_of_getElem? (i := 5) rfl)) rfl (by decide +kernel) rfl rfl (Nat.le_of_ble_eq_true rfl) rfl dX2_reckons_134 (fun H locs hP hD hS => ?_)
  refine lv_aload_n hx hb dX2_reckons_137 rfl (lv_at hl 5 rfl) ?_
  refine lv_iload hx hb dX2_reckons_138 (lv_at hl 1 rfl) ?_
  refine lv_aload_n hx hb dX2_reckons_140 rfl (lv_at hl 5 rfl) ?_
  refine va_get (D := D) (ci := 2) (v := .int (tp_rtaken I h (nI e0) (tp_mopen I h a0 e0))) (C := RX2) (T := TX2) (N := 16) hx hb hts (fun _ h => List.mem_cons_of_mem _ (List.mem_append_right _ (h))) hown hK hP 2 tp_e2 rfl 14 (by decide) (hts _ (List.mem_of_getElem? (i := 5) rfl)) (fun _ h9 => h9) rfl dX2_reckons_141 ?_
  refine lv_isub hx hb dX2_reckons_144 ?_
  refine lv_iload hx hb dX2_reckons_145 (lv_at hl 2 rfl) ?_
  refine lv_iadd hx hb dX2_reckons_147 ?_
  refine tp_put (ci := 2) (v := (((tp_mdue I h (nI e0)) - (tp_rtaken I h (nI e0) (tp_mopen I h a0 e0))) + (tp_rarr I h (tp_mopen I h a0 e0)))) (ty := .int) (C := RX2) (T := TX2) (N := 16) hx hb hts (fun _ h => List.mem_cons_of_mem _ (List.mem_append_right _ (h))) tyX2 tyX2_ok nmX2 hown hK hP hD hS 2 tp_e2 (by omega) rfl 15 (by decide) (hts _ (List.mem_of_getElem? (i := 6) rfl)) rfl (by decide +kernel) rfl rfl (Nat.le_of_ble_eq_true rfl) rfl dX2_reckons_148 (fun H locs hP hD hS => ?_)
  exact tp_retv hx hb hr hlocks hK hP hD hS rfl dX2_reckons_151
