/-! THE LAW'S OWN RECKONING -/
def tl_shr (x y : Int32) : Int32 := x >>> (y &&& 31)
def tl_low (x : Int32) (k : Nat) : Nat := x.toBitVec.toNat % 2 ^ 31 % k
theorem tl_low_lt {x : Int32} {k : Nat} (h : 0 < k) : tl_low x k < k := Nat.mod_lt _ h
set_option maxHeartbeats 4000000 in
set_option maxRecDepth 100000 in
/-- low(v, n) -/
theorem lf_low (l : Launch) (D : va_G) (cy : Nat → ClassId) (n : Nat) (ad : Nat → Nat) (o : Int64) (I : Nat → Nat → Int32) (x : Int32) (k : Nat) (hk0 : 0 < k) (hk : k < 2 ^ 31) : tp_I l yL_low wsL_low (tp_rm 0 0) D cy n ad o [.int x, .int (nI k)] I (nI (tl_low x k)) (I) := by
  refine tp_ofI (lv := [(0, .int x), (1, .int (nI k))]) (by decide) rfl (Nat.le_of_ble_eq_true rfl) rfl (fun p e s m args below meth c A ls S0 => ?_)
  obtain ⟨hx, hb, hr, hml, hown, hts, hlocks, hA, hK, hP, hD, hS, hl⟩ := S0
  refine lv_iload_n hx hb dL_low_0 rfl (lv_at hl 0 rfl) ?_
  refine lv_ldc (v := 2147483647) hx hb hown (hts _ (List.mem_of_getElem? (i := 1) rfl)) dL_low_1 ?_
  refine lv_iand hx hb dL_low_3 ?_
  refine tp_eqi (y := (nI (x.toBitVec.toNat % 2 ^ 31))) (pk_and x 31 (by decide)) ?_
  refine lv_iload_n hx hb dL_low_4 rfl (lv_at hl 1 rfl) ?_
  refine lv_irem hx hb dL_low_5 (nI_ne0 hk0 hk) ?_
  refine tp_eqi (y := nI (tl_low x k)) (pk_rem (Nat.mod_lt _ (by decide)) hk0 hk) ?_
  exact tp_reti hx hb hr hlocks hK hP hD hS rfl rfl rfl dL_low_6
theorem tl_cA {cy : Nat → ClassId} {n : Nat} {ad : Nat → Nat} {I : Nat → Nat → Int32} {o : Int64} {h : Nat} (hh : h < 2) : tp_c cy n ad I o (5 + h) = .inl (cy 0, 48, .inl (I (5 + h))) := by
  rcases (show h = 0 ∨ h = 1 by omega) with rfl | rfl <;> rfl
theorem tl_cP {cy : Nat → ClassId} {n : Nat} {ad : Nat → Nat} {I : Nat → Nat → Int32} {o : Int64} {h : Nat} (hh : h < 2) : tp_c cy n ad I o (7 + h) = .inl (cy 0, 48, .inl (I (7 + h))) := by
  rcases (show h = 0 ∨ h = 1 by omega) with rfl | rfl <;> rfl
set_option maxHeartbeats 4000000 in
set_option maxRecDepth 100000 in
/-- fact(home, fact, month, f, v, q) -/
theorem lf_fact (l : Launch) (D : va_G) (cy : Nat → ClassId) (n : Nat) (ad : Nat → Nat) (o : Int64) (I : Nat → Nat → Int32) (h c0 : Nat) (hF : tq_F I h c0) (f0 m0 : Nat) (hf : f0 < 5) (hm : m0 < 48) : tp_I l yL_fact wsL_fact (tp_rm 0 0) D cy n ad o [.int (nI h), .int (nI f0), .int (nI m0), .ref (ad (3)), .ref (ad (4)), .ref (ad (2))] I (I (9 + 15 * h + 2 + f0) m0) (I) := by
  have hc64 := hF.1.2.1
  refine tp_ofI (lv := [(0, .int (nI h)), (1, .int (nI f0)), (2, .int (nI m0)), (3, .ref (ad (3))), (4, .ref (ad (4))), (5, .ref (ad (2)))]) (by decide) rfl (Nat.le_of_ble_eq_true rfl) rfl (fun p e s m args below meth c A ls S0 => ?_)
  obtain ⟨hx, hb, hr, hml, hown, hts, hlocks, hA, hK, hP, hD, hS, hl⟩ := S0
  refine tp_meetH (D := D) (cy := cy) (n := n) (ad := ad) (I := I) (o := o) (A := A) (H0 := s.heap) (tl_v0 f0 : Int32) (fun y => F0 m 9 ls (.int y :: [])) (fun hj9 => ?_) (fun H locs hP hD hS => ?_)
  · refine lv_iload_n hx hb dL_fact_0 rfl (lv_at hl 1 rfl) ?_
    refine lv_if_ne (tgt := 8) hx hb dL_fact_1 (by decide) (fun c1_1 => ?_) (fun c1_1 => ?_)
    · refine lv_iconst (v := 0) hx hb dL_fact_8 (by decide) ?_
      exact hj9 _ (by unfold tl_v0; rw [if_neg c1_1]) _ _ hP hD hS
    · refine lv_iconst (v := 1) hx hb dL_fact_4 (by decide) ?_
      refine lv_goto (tgt := 9) hx hb dL_fact_5 (by decide) ?_
      exact hj9 _ (by unfold tl_v0; rw [if_pos c1_1]) _ _ hP hD hS
  refine lv_istore (lv' := [(6, .int (tl_v0 f0)), (0, .int (nI h)), (1, .int (nI f0)), (2, .int (nI m0)), (3, .ref (ad (3))), (4, .ref (ad (4))), (5, .ref (ad (2)))]) hx hb dL_fact_9 hl (by decide) rfl (fun ls hl => ?_)
  refine lv_iconst (v := (-1)) hx hb dL_fact_11 (by decide) ?_
  refine lv_istore (lv' := [(7, .int ((-1))), (6, .int (tl_v0 f0)), (0, .int (nI h)), (1, .int (nI f0)), (2, .int (nI m0)), (3, .ref (ad (3))), (4, .ref (ad (4))), (5, .ref (ad (2)))]) hx hb dL_fact_12 hl (by decide) rfl (fun ls hl => ?_)
  refine lv_iconst (v := 0) hx hb dL_fact_14 (by decide) ?_
  refine lv_istore (lv' := [(8, .int 0), (7, .int ((-1))), (6, .int (tl_v0 f0)), (0, .int (nI h)), (1, .int (nI f0)), (2, .int (nI m0)), (3, .ref (ad (3))), (4, .ref (ad (4))), (5, .ref (ad (2)))]) hx hb dL_fact_15 hl (by decide) rfl (fun ls hl => ?_)
  have hl : lv_has ls 11 [(8, .int (nI 0)), (7, .int ((tl_scan I h f0 m0 0).2)), (6, .int ((tl_scan I h f0 m0 0).1)), (0, .int (nI h)), (1, .int (nI f0)), (2, .int (nI m0)), (3, .ref (ad (3))), (4, .ref (ad (4))), (5, .ref (ad (2)))] := hl
  refine tp_for (nL := 11) c0 (fun _ => I) (fun t => [(8, .int (nI t)), (7, .int ((tl_scan I h f0 m0 t).2)), (6, .int ((tl_scan I h f0 m0 t).1)), (0, .int (nI h)), (1, .int (nI f0)), (2, .int (nI m0)), (3, .ref (ad (3))), (4, .ref (ad (4))), (5, .ref (ad (2)))]) (fun t ht ls H locs hl hP hD hS ih => ?_) (fun ls H locs hl hP hD hS => ?_) hl hP hD hS
  · refine lv_iload hx hb dL_fact_17 (lv_at hl 0 rfl) ?_
    refine lv_aload hx hb dL_fact_19 (lv_at hl 8 rfl) ?_
    refine lv_iconst (v := 2) hx hb dL_fact_21 (by decide) ?_
    refine tp_iald hx hb hK hP (2) 12 (2) (by omega) rfl (by decide) (by decide) (by decide) dL_fact_22 ?_
    refine tp_eqi (y := nI c0) hF.1.2.2 ?_
    refine lv_icmp_ge (tgt := 115) hx hb dL_fact_23 (by decide) (fun c23_2 => ?_) (fun c23_2 => ?_)
    · exact absurd c23_2 (nI_ge (by omega) (by omega))
    · refine lv_aload_n hx hb dL_fact_26 rfl (lv_at hl 6 rfl) ?_
      refine lv_iload hx hb dL_fact_27 (lv_at hl 0 rfl) ?_
      refine tp_iald hx hb hK hP (3) 64 (t) (by omega) rfl rfl (by omega) (by decide) dL_fact_29 ?_
      refine lv_bipush (v := 16) hx hb dL_fact_30 (by decide) ?_
      refine lv_idiv hx hb dL_fact_32 (by decide) ?_
      refine lv_istore (lv' := [(9, .int ((I 3 t) / 16)), (8, .int (nI t)), (7, .int ((tl_scan I h f0 m0 t).2)), (6, .int ((tl_scan I h f0 m0 t).1)), (0, .int (nI h)), (1, .int (nI f0)), (2, .int (nI m0)), (3, .ref (ad (3))), (4, .ref (ad (4))), (5, .ref (ad (2)))]) hx hb dL_fact_33 hl (by decide) rfl (fun ls hl => ?_)
      refine tp_meetH (D := D) (cy := cy) (n := n) (ad := ad) (I := I) (o := o) (A := A) (H0 := s.heap) (tl_its I h f0 m0 t : Int32) (fun y => F0 m 62 ls (.int y :: [])) (fun hj62 => ?_) (fun H locs hP hD hS => ?_)
      · refine lv_aload_n hx hb dL_fact_35 rfl (lv_at hl 7 rfl) ?_
        refine lv_iload hx hb dL_fact_36 (lv_at hl 1 rfl) ?_
        refine tp_iald hx hb hK hP (3) 64 (t) (by omega) rfl rfl (by omega) (by decide) dL_fact_38 ?_
        refine lv_bipush (v := 16) hx hb dL_fact_39 (by decide) ?_
        refine lv_irem hx hb dL_fact_41 (by decide) ?_
        refine lv_bipush (v := 8) hx hb dL_fact_42 (by decide) ?_
        refine lv_iload_n hx hb dL_fact_44 rfl (lv_at hl 4 rfl) ?_
        refine lv_imul hx hb dL_fact_45 ?_
        refine tp_eqi (y := nI (8 * h)) (pk_mul 8 h) ?_
        refine lv_iload_n hx hb dL_fact_46 rfl (lv_at hl 5 rfl) ?_
        refine lv_iadd hx hb dL_fact_47 ?_
        refine tp_eqi (y := nI ((8 * h) + f0)) (nI_add (8 * h) f0) ?_
        refine lv_icmp_ne (tgt := 61) hx hb dL_fact_48 (by decide) (fun c48_3 => ?_) (fun c48_3 => ?_)
        · refine lv_iconst (v := 0) hx hb dL_fact_61 (by decide) ?_
          exact hj62 _ (by unfold tl_its; rw [if_neg c48_3]) _ _ hP hD hS
        · refine lv_iload hx hb dL_fact_51 (lv_at hl 0 rfl) ?_
          refine lv_iload_n hx hb dL_fact_53 rfl (lv_at hl 6 rfl) ?_
          refine lv_icmp_gt (tgt := 61) hx hb dL_fact_54 (by decide) (fun c54_4 => ?_) (fun c54_4 => ?_)
          · refine lv_iconst (v := 0) hx hb dL_fact_61 (by decide) ?_
            exact hj62 _ (by unfold tl_its; rw [if_pos c48_3, if_pos c54_4]) _ _ hP hD hS
          · refine lv_iconst (v := 1) hx hb dL_fact_57 (by decide) ?_
            refine lv_goto (tgt := 62) hx hb dL_fact_58 (by decide) ?_
            exact hj62 _ (by unfold tl_its; rw [if_pos c48_3, if_neg c54_4]) _ _ hP hD hS
      refine lv_istore (lv' := [(10, .int (tl_its I h f0 m0 t)), (9, .int ((I 3 t) / 16)), (8, .int (nI t)), (7, .int ((tl_scan I h f0 m0 t).2)), (6, .int ((tl_scan I h f0 m0 t).1)), (0, .int (nI h)), (1, .int (nI f0)), (2, .int (nI m0)), (3, .ref (ad (3))), (4, .ref (ad (4))), (5, .ref (ad (2)))]) hx hb dL_fact_62 hl (by decide) rfl (fun ls hl => ?_)
      refine tp_meetH (D := D) (cy := cy) (n := n) (ad := ad) (I := I) (o := o) (A := A) (H0 := s.heap) (if tl_its I h f0 m0 t = 0 then (tl_scan I h f0 m0 t).1 else if I 3 t / 16 < (tl_scan I h f0 m0 t).2 then (tl_scan I h f0 m0 t).1 else I 4 t : Int32) (fun y => F0 m 86 ls (.int y :: [])) (fun hj86 => ?_) (fun H locs hP hD hS => ?_)
      · refine lv_iload hx hb dL_fact_64 (lv_at hl 0 rfl) ?_
        refine lv_if_eq (tgt := 84) hx hb dL_fact_66 (by decide) (fun c66_5 => ?_) (fun c66_5 => ?_)
        · refine lv_iload hx hb dL_fact_84 (lv_at hl 4 rfl) ?_
          exact hj86 _ (by rw [if_pos c66_5]) _ _ hP hD hS
        · refine lv_iload hx hb dL_fact_69 (lv_at hl 1 rfl) ?_
          refine lv_iload hx hb dL_fact_71 (lv_at hl 3 rfl) ?_
          refine lv_icmp_lt (tgt := 84) hx hb dL_fact_73 (by decide) (fun c73_6 => ?_) (fun c73_6 => ?_)
          · refine lv_iload hx hb dL_fact_84 (lv_at hl 4 rfl) ?_
            exact hj86 _ (by rw [if_neg c66_5, if_pos c73_6]) _ _ hP hD hS
          · refine lv_aload hx hb dL_fact_76 (lv_at hl 9 rfl) ?_
            refine lv_iload hx hb dL_fact_78 (lv_at hl 2 rfl) ?_
            refine tp_iald hx hb hK hP (4) 64 (t) (by omega) rfl rfl (by omega) (by decide) dL_fact_80 ?_
            refine lv_goto (tgt := 86) hx hb dL_fact_81 (by decide) ?_
            exact hj86 _ (by rw [if_neg c66_5, if_neg c73_6]) _ _ hP hD hS
      refine lv_istore (lv' := [(6, .int (if tl_its I h f0 m0 t = 0 then (tl_scan I h f0 m0 t).1 else if I 3 t / 16 < (tl_scan I h f0 m0 t).2 then (tl_scan I h f0 m0 t).1 else I 4 t)), (10, .int (tl_its I h f0 m0 t)), (9, .int ((I 3 t) / 16)), (8, .int (nI t)), (7, .int ((tl_scan I h f0 m0 t).2)), (0, .int (nI h)), (1, .int (nI f0)), (2, .int (nI m0)), (3, .ref (ad (3))), (4, .ref (ad (4))), (5, .ref (ad (2)))]) hx hb dL_fact_86 hl (by decide) rfl (fun ls hl => ?_)
      refine tp_meetH (D := D) (cy := cy) (n := n) (ad := ad) (I := I) (o := o) (A := A) (H0 := s.heap) (if tl_its I h f0 m0 t = 0 then (tl_scan I h f0 m0 t).2 else if I 3 t / 16 ≤ (tl_scan I h f0 m0 t).2 then (tl_scan I h f0 m0 t).2 else I 3 t / 16 : Int32) (fun y => F0 m 107 ls (.int y :: [])) (fun hj107 => ?_) (fun H locs hP hD hS => ?_)
      · refine lv_iload hx hb dL_fact_88 (lv_at hl 1 rfl) ?_
        refine lv_if_eq (tgt := 105) hx hb dL_fact_90 (by decide) (fun c90_7 => ?_) (fun c90_7 => ?_)
        · refine lv_iload hx hb dL_fact_105 (lv_at hl 4 rfl) ?_
          exact hj107 _ (by rw [if_pos c90_7]) _ _ hP hD hS
        · refine lv_iload hx hb dL_fact_93 (lv_at hl 2 rfl) ?_
          refine lv_iload hx hb dL_fact_95 (lv_at hl 4 rfl) ?_
          refine lv_icmp_le (tgt := 105) hx hb dL_fact_97 (by decide) (fun c97_8 => ?_) (fun c97_8 => ?_)
          · refine lv_iload hx hb dL_fact_105 (lv_at hl 4 rfl) ?_
            exact hj107 _ (by rw [if_neg c90_7, if_pos c97_8]) _ _ hP hD hS
          · refine lv_iload hx hb dL_fact_100 (lv_at hl 2 rfl) ?_
            refine lv_goto (tgt := 107) hx hb dL_fact_102 (by decide) ?_
            exact hj107 _ (by rw [if_neg c90_7, if_neg c97_8]) _ _ hP hD hS
      refine lv_istore (lv' := [(7, .int (if tl_its I h f0 m0 t = 0 then (tl_scan I h f0 m0 t).2 else if I 3 t / 16 ≤ (tl_scan I h f0 m0 t).2 then (tl_scan I h f0 m0 t).2 else I 3 t / 16)), (6, .int (if tl_its I h f0 m0 t = 0 then (tl_scan I h f0 m0 t).1 else if I 3 t / 16 < (tl_scan I h f0 m0 t).2 then (tl_scan I h f0 m0 t).1 else I 4 t)), (10, .int (tl_its I h f0 m0 t)), (9, .int ((I 3 t) / 16)), (8, .int (nI t)), (0, .int (nI h)), (1, .int (nI f0)), (2, .int (nI m0)), (3, .ref (ad (3))), (4, .ref (ad (4))), (5, .ref (ad (2)))]) hx hb dL_fact_107 hl (by decide) rfl (fun ls hl => ?_)
      refine lv_iinc (v := (nI (t + 1))) (lv' := [(8, .int (nI (t + 1))), (7, .int (if tl_its I h f0 m0 t = 0 then (tl_scan I h f0 m0 t).2 else if I 3 t / 16 ≤ (tl_scan I h f0 m0 t).2 then (tl_scan I h f0 m0 t).2 else I 3 t / 16)), (6, .int (if tl_its I h f0 m0 t = 0 then (tl_scan I h f0 m0 t).1 else if I 3 t / 16 < (tl_scan I h f0 m0 t).2 then (tl_scan I h f0 m0 t).1 else I 4 t)), (10, .int (tl_its I h f0 m0 t)), (9, .int ((I 3 t) / 16)), (0, .int (nI h)), (1, .int (nI f0)), (2, .int (nI m0)), (3, .ref (ad (3))), (4, .ref (ad (4))), (5, .ref (ad (2)))]) hx hb dL_fact_109 hl (k := 4) rfl (nI_1 _) (by decide) rfl (fun ls hl => ?_)
      refine lv_goto (tgt := 17) hx hb dL_fact_112 (by decide) ?_
      exact ih ls H locs (lv_sub hl [0, 1, 2, 5, 6, 7, 8, 9, 10] rfl) hP hD hS
  · refine lv_iload hx hb dL_fact_17 (lv_at hl 0 rfl) ?_
    refine lv_aload hx hb dL_fact_19 (lv_at hl 8 rfl) ?_
    refine lv_iconst (v := 2) hx hb dL_fact_21 (by decide) ?_
    refine tp_iald hx hb hK hP (2) 12 (2) (by omega) rfl (by decide) (by decide) (by decide) dL_fact_22 ?_
    refine tp_eqi (y := nI c0) hF.1.2.2 ?_
    refine lv_icmp_ge (tgt := 115) hx hb dL_fact_23 (by decide) (fun c23_9 => ?_) (fun c23_9 => ?_)
    · refine lv_iload hx hb dL_fact_115 (lv_at hl 2 rfl) ?_
      exact tp_reti hx hb hr hlocks hK hP hD hS rfl (hF.2.2 f0 hf m0 hm).1.symm rfl dL_fact_117
    · exact absurd (nI_le (by omega) (by omega)) c23_9
set_option maxHeartbeats 4000000 in
set_option maxRecDepth 100000 in
/-- need(home, month, f, v, q) -/
theorem lf_need (l : Launch) (D : va_G) (cy : Nat → ClassId) (n : Nat) (ad : Nat → Nat) (o : Int64) (I : Nat → Nat → Int32) (h c0 : Nat) (hF : tq_F I h c0) (m0 : Nat) (hm : m0 < 48) : tp_I l yL_need wsL_need (tp_rm 1 30) D cy n ad o [.int (nI h), .int (nI m0), .ref (ad (3)), .ref (ad (4)), .ref (ad (2))] I (tp_need I (9 + 15 * h) m0) (I) := by
  have hxx := tq_fx hF (m := m0) hm
  refine tp_ofI (lv := [(0, .int (nI h)), (1, .int (nI m0)), (2, .ref (ad (3))), (3, .ref (ad (4))), (4, .ref (ad (2)))]) (by decide) rfl (Nat.le_of_ble_eq_true rfl) rfl (fun p e s m args below meth c A ls S0 => ?_)
  obtain ⟨hx, hb, hr, hml, hown, hts, hlocks, hA, hK, hP, hD, hS, hl⟩ := S0
  refine lv_iload_n hx hb dL_need_0 rfl (lv_at hl 0 rfl) ?_
  refine lv_iconst (v := 2) hx hb dL_need_1 (by decide) ?_
  refine lv_iload_n hx hb dL_need_2 rfl (lv_at hl 1 rfl) ?_
  refine lv_aload_n hx hb dL_need_3 rfl (lv_at hl 2 rfl) ?_
  refine lv_aload_n hx hb dL_need_4 rfl (lv_at hl 3 rfl) ?_
  refine lv_aload hx hb dL_need_5 (lv_at hl 4 rfl) ?_
  refine tp_callS ⟨hx, hb, hml, hown, hts⟩ (lf_fact l D cy n ad o I h c0 hF 2 m0 (by decide) (by omega)) (va_cwS 6 hts gL_need_L_fact rfl rfl rfl (by decide +kernel) ⟨Nat.le_of_ble_eq_true rfl, Nat.le_of_ble_eq_true rfl⟩) hK hP hD hS hA rfl hl.1 rfl (Nat.le_of_ble_eq_true rfl) dL_need_7 ⟨Nat.zero_le _, Nat.zero_le _⟩ (fun I9 e9 H locs hP hD hS => ?_)
  subst e9
  refine lv_istore (lv' := [(5, .int (I (9 + 15 * h + 2 + 2) m0)), (0, .int (nI h)), (1, .int (nI m0)), (2, .ref (ad (3))), (3, .ref (ad (4))), (4, .ref (ad (2)))]) hx hb dL_need_10 hl (by decide) rfl (fun ls hl => ?_)
  refine lv_sipush (v := 18000) hx hb dL_need_12 (by decide) ?_
  refine lv_sipush (v := 12000) hx hb dL_need_15 (by decide) ?_
  refine lv_iload_n hx hb dL_need_18 rfl (lv_at hl 1 rfl) ?_
  refine lv_iconst (v := 0) hx hb dL_need_19 (by decide) ?_
  refine lv_iload_n hx hb dL_need_20 rfl (lv_at hl 2 rfl) ?_
  refine lv_aload_n hx hb dL_need_21 rfl (lv_at hl 3 rfl) ?_
  refine lv_aload_n hx hb dL_need_22 rfl (lv_at hl 4 rfl) ?_
  refine lv_aload hx hb dL_need_23 (lv_at hl 5 rfl) ?_
  refine tp_callS ⟨hx, hb, hml, hown, hts⟩ (lf_fact l D cy n ad o I h c0 hF 0 m0 (by decide) (by omega)) (va_cwS 6 hts gL_need_L_fact rfl rfl rfl (by decide +kernel) ⟨Nat.le_of_ble_eq_true rfl, Nat.le_of_ble_eq_true rfl⟩) hK hP hD hS hA rfl hl.1 rfl (Nat.le_of_ble_eq_true rfl) dL_need_25 ⟨Nat.zero_le _, Nat.zero_le _⟩ (fun I9 e9 H locs hP hD hS => ?_)
  subst e9
  refine lv_imul hx hb dL_need_28 ?_
  refine lv_iadd hx hb dL_need_29 ?_
  refine lv_sipush (v := 8000) hx hb dL_need_30 (by decide) ?_
  refine lv_iload_n hx hb dL_need_33 rfl (lv_at hl 1 rfl) ?_
  refine lv_iconst (v := 1) hx hb dL_need_34 (by decide) ?_
  refine lv_iload_n hx hb dL_need_35 rfl (lv_at hl 2 rfl) ?_
  refine lv_aload_n hx hb dL_need_36 rfl (lv_at hl 3 rfl) ?_
  refine lv_aload_n hx hb dL_need_37 rfl (lv_at hl 4 rfl) ?_
  refine lv_aload hx hb dL_need_38 (lv_at hl 5 rfl) ?_
  refine tp_callS ⟨hx, hb, hml, hown, hts⟩ (lf_fact l D cy n ad o I h c0 hF 1 m0 (by decide) (by omega)) (va_cwS 6 hts gL_need_L_fact rfl rfl rfl (by decide +kernel) ⟨Nat.le_of_ble_eq_true rfl, Nat.le_of_ble_eq_true rfl⟩) hK hP hD hS hA rfl hl.1 rfl (Nat.le_of_ble_eq_true rfl) dL_need_40 ⟨Nat.zero_le _, Nat.zero_le _⟩ (fun I9 e9 H locs hP hD hS => ?_)
  subst e9
  refine lv_imul hx hb dL_need_43 ?_
  refine lv_iadd hx hb dL_need_44 ?_
  refine lv_iload hx hb dL_need_45 (lv_at hl 0 rfl) ?_
  refine lv_ldc (v := 60000) hx hb hown (hts _ (List.mem_of_getElem? (i := 1) rfl)) dL_need_47 ?_
  refine lv_icmp_le (tgt := 57) hx hb dL_need_49 (by decide) (fun c49_1 => ?_) (fun c49_1 => ?_)
  · refine lv_iload hx hb dL_need_57 (lv_at hl 0 rfl) ?_
    refine lv_iadd hx hb dL_need_59 ?_
    exact tp_reti hx hb hr hlocks hK hP hD hS rfl (by rw [← (tn_need hxx).1, if_pos c49_1]) rfl dL_need_60
  · refine lv_ldc (v := 60000) hx hb hown (hts _ (List.mem_of_getElem? (i := 1) rfl)) dL_need_52 ?_
    refine lv_goto (tgt := 59) hx hb dL_need_54 (by decide) ?_
    refine lv_iadd hx hb dL_need_59 ?_
    exact tp_reti hx hb hr hlocks hK hP hD hS rfl (by rw [← (tn_need hxx).1, if_neg c49_1]) rfl dL_need_60
set_option maxHeartbeats 4000000 in
set_option maxRecDepth 100000 in
/-- taper(home, month, f, v, q) -/
theorem lf_taper (l : Launch) (D : va_G) (cy : Nat → ClassId) (n : Nat) (ad : Nat → Nat) (o : Int64) (I : Nat → Nat → Int32) (h c0 : Nat) (hF : tq_F I h c0) (m0 : Nat) (hm : m0 < 48) : tp_I l yL_taper wsL_taper (tp_rm 1 30) D cy n ad o [.int (nI h), .int (nI m0), .ref (ad (3)), .ref (ad (4)), .ref (ad (2))] I (tp_taper I (9 + 15 * h) m0) (I) := by
  have hxx := tq_fx hF (m := m0) hm
  refine tp_ofI (lv := [(0, .int (nI h)), (1, .int (nI m0)), (2, .ref (ad (3))), (3, .ref (ad (4))), (4, .ref (ad (2)))]) (by decide) rfl (Nat.le_of_ble_eq_true rfl) rfl (fun p e s m args below meth c A ls S0 => ?_)
  obtain ⟨hx, hb, hr, hml, hown, hts, hlocks, hA, hK, hP, hD, hS, hl⟩ := S0
  refine lv_iload_n hx hb dL_taper_0 rfl (lv_at hl 0 rfl) ?_
  refine lv_iconst (v := 3) hx hb dL_taper_1 (by decide) ?_
  refine lv_iload_n hx hb dL_taper_2 rfl (lv_at hl 1 rfl) ?_
  refine lv_aload_n hx hb dL_taper_3 rfl (lv_at hl 2 rfl) ?_
  refine lv_aload_n hx hb dL_taper_4 rfl (lv_at hl 3 rfl) ?_
  refine lv_aload hx hb dL_taper_5 (lv_at hl 4 rfl) ?_
  refine tp_callS ⟨hx, hb, hml, hown, hts⟩ (lf_fact l D cy n ad o I h c0 hF 3 m0 (by decide) (by omega)) (va_cwS 6 hts gL_taper_L_fact rfl rfl rfl (by decide +kernel) ⟨Nat.le_of_ble_eq_true rfl, Nat.le_of_ble_eq_true rfl⟩) hK hP hD hS hA rfl hl.1 rfl (Nat.le_of_ble_eq_true rfl) dL_taper_7 ⟨Nat.zero_le _, Nat.zero_le _⟩ (fun I9 e9 H locs hP hD hS => ?_)
  subst e9
  refine lv_istore (lv' := [(5, .int (I (9 + 15 * h + 2 + 3) m0)), (0, .int (nI h)), (1, .int (nI m0)), (2, .ref (ad (3))), (3, .ref (ad (4))), (4, .ref (ad (2)))]) hx hb dL_taper_10 hl (by decide) rfl (fun ls hl => ?_)
  refine lv_iload hx hb dL_taper_12 (lv_at hl 0 rfl) ?_
  refine lv_sipush (v := 20000) hx hb dL_taper_14 (by decide) ?_
  refine lv_icmp_ge (tgt := 24) hx hb dL_taper_17 (by decide) (fun c17_1 => ?_) (fun c17_1 => ?_)
  · refine lv_iload hx hb dL_taper_24 (lv_at hl 0 rfl) ?_
    refine lv_i2l hx hb dL_taper_26 rfl ?_
    refine lv_ldc2 (v := 20000) hx hb hown (hts _ (List.mem_of_getElem? (i := 1) rfl)) dL_taper_27 ?_
    refine lv_lsub hx hb dL_taper_30 ?_
    refine lv_ldc2 (v := 3) hx hb hown (hts _ (List.mem_of_getElem? (i := 2) rfl)) dL_taper_31 ?_
    refine lv_lmul hx hb dL_taper_34 ?_
    refine lv_ldc2 (v := 5) hx hb hown (hts _ (List.mem_of_getElem? (i := 3) rfl)) dL_taper_35 ?_
    refine lv_ldiv hx hb dL_taper_38 (by decide) ?_
    refine lv_l2i hx hb dL_taper_39 rfl ?_
    exact tp_reti hx hb hr hlocks hK hP hD hS rfl (tn_taper1 hxx c17_1) rfl dL_taper_40
  · refine lv_iconst (v := 0) hx hb dL_taper_20 (by decide) ?_
    refine lv_goto (tgt := 40) hx hb dL_taper_21 (by decide) ?_
    exact tp_reti hx hb hr hlocks hK hP hD hS rfl (tn_taper0 hxx c17_1) rfl dL_taper_40
theorem tl_t1 (t : Nat) : nI (500 * t) + Int32.ofInt 500 = nI (500 * (t + 1)) := by
  rw [show Int32.ofInt 500 = nI 500 by decide, nI_add]
  exact congrArg nI (by omega)
theorem tl_t2 (s t : Nat) : nI s - nI (600000 + 25000 * t) + Int32.ofInt (-25000) = nI s - nI (600000 + 25000 * (t + 1)) := by
  rw [show nI (600000 + 25000 * (t + 1)) = nI (600000 + 25000 * t) + nI 25000 by rw [nI_add]; exact congrArg nI (by omega), show Int32.ofInt (-25000) = -nI 25000 by decide, Int32.sub_eq_add_neg, Int32.sub_eq_add_neg, Int32.neg_add, Int32.sub_eq_add_neg, Int32.add_assoc]
theorem tl_t3 {a b : Nat} (ha : a < 2 ^ 30) (hb : b < 2 ^ 30) : nI a - nI b ≤ 0 ↔ a ≤ b := by
  have c0 : (0 : Int32).toInt = 0 := rfl
  rw [tm_le, pk_sub_toInt ha hb, c0]
  omega
set_option maxHeartbeats 4000000 in
set_option maxRecDepth 100000 in
/-- tariff(home, month, f, v, q) -/
theorem lf_tariff (l : Launch) (D : va_G) (cy : Nat → ClassId) (n : Nat) (ad : Nat → Nat) (o : Int64) (I : Nat → Nat → Int32) (h c0 : Nat) (hF : tq_F I h c0) (m0 : Nat) (hm : m0 < 48) : tp_I l yL_tariff wsL_tariff (tp_rm 1 30) D cy n ad o [.int (nI h), .int (nI m0), .ref (ad (3)), .ref (ad (4)), .ref (ad (2))] I (tp_tariff I (9 + 15 * h) m0) (I) := by
  obtain ⟨s0, hs0, es0, et0⟩ := tn_tariff (tq_fx hF (m := m0) hm)
  refine tp_ofI (lv := [(0, .int (nI h)), (1, .int (nI m0)), (2, .ref (ad (3))), (3, .ref (ad (4))), (4, .ref (ad (2)))]) (by decide) rfl (Nat.le_of_ble_eq_true rfl) rfl (fun p e s m args below meth c A ls S0 => ?_)
  obtain ⟨hx, hb, hr, hml, hown, hts, hlocks, hA, hK, hP, hD, hS, hl⟩ := S0
  refine lv_iconst (v := 0) hx hb dL_tariff_0 (by decide) ?_
  refine lv_istore (lv' := [(5, .int 0), (0, .int (nI h)), (1, .int (nI m0)), (2, .ref (ad (3))), (3, .ref (ad (4))), (4, .ref (ad (2)))]) hx hb dL_tariff_1 hl (by decide) rfl (fun ls hl => ?_)
  refine lv_iload_n hx hb dL_tariff_3 rfl (lv_at hl 1 rfl) ?_
  refine lv_iconst (v := 4) hx hb dL_tariff_4 (by decide) ?_
  refine lv_iload_n hx hb dL_tariff_5 rfl (lv_at hl 2 rfl) ?_
  refine lv_aload_n hx hb dL_tariff_6 rfl (lv_at hl 3 rfl) ?_
  refine lv_aload_n hx hb dL_tariff_7 rfl (lv_at hl 4 rfl) ?_
  refine lv_aload hx hb dL_tariff_8 (lv_at hl 5 rfl) ?_
  refine tp_callS ⟨hx, hb, hml, hown, hts⟩ (lf_fact l D cy n ad o I h c0 hF 4 m0 (by decide) (by omega)) (va_cwS 6 hts gL_tariff_L_fact rfl rfl rfl (by decide +kernel) ⟨Nat.le_of_ble_eq_true rfl, Nat.le_of_ble_eq_true rfl⟩) hK hP hD hS hA rfl hl.1 rfl (Nat.le_of_ble_eq_true rfl) dL_tariff_10 ⟨Nat.zero_le _, Nat.zero_le _⟩ (fun I9 e9 H locs hP hD hS => ?_)
  subst e9
  refine tp_eqi (y := (nI s0)) es0 ?_
  refine lv_ldc (v := 600000) hx hb hown (hts _ (List.mem_of_getElem? (i := 1) rfl)) dL_tariff_13 ?_
  refine lv_isub hx hb dL_tariff_15 ?_
  refine lv_istore (lv' := [(6, .int ((nI s0) - 600000)), (5, .int 0), (0, .int (nI h)), (1, .int (nI m0)), (2, .ref (ad (3))), (3, .ref (ad (4))), (4, .ref (ad (2)))]) hx hb dL_tariff_16 hl (by decide) rfl (fun ls hl => ?_)
  have hl : lv_has ls 7 [(6, .int (nI s0 - nI (600000 + 25000 * 0))), (5, .int (nI (500 * 0))), (0, .int (nI h)), (1, .int (nI m0)), (2, .ref (ad (3))), (3, .ref (ad (4))), (4, .ref (ad (2)))] := hl
  refine tp_for (nL := 7) ((s0 - 600000 + 24999) / 25000) (fun _ => I) (fun t => [(6, .int (nI s0 - nI (600000 + 25000 * t))), (5, .int (nI (500 * t))), (0, .int (nI h)), (1, .int (nI m0)), (2, .ref (ad (3))), (3, .ref (ad (4))), (4, .ref (ad (2)))]) (fun t ht ls H locs hl hP hD hS ih => ?_) (fun ls H locs hl hP hD hS => ?_) hl hP hD hS
  · refine lv_iload hx hb dL_tariff_18 (lv_at hl 0 rfl) ?_
    refine lv_if_le (tgt := 38) hx hb dL_tariff_20 (by decide) (fun c20_1 => ?_) (fun c20_1 => ?_)
    · exact absurd ((tl_t3 (by omega) (by omega)).mp c20_1) (by omega)
    · refine lv_iincW (v := (nI (500 * (t + 1)))) (lv' := [(5, .int (nI (500 * (t + 1)))), (6, .int (nI s0 - nI (600000 + 25000 * t))), (0, .int (nI h)), (1, .int (nI m0)), (2, .ref (ad (3))), (3, .ref (ad (4))), (4, .ref (ad (2)))]) hx hb dL_tariff_23 hl (k := 1) rfl (tl_t1 t) (by decide) rfl (fun ls hl => ?_)
      refine lv_iincW (v := (nI s0 - nI (600000 + 25000 * (t + 1)))) (lv' := [(6, .int (nI s0 - nI (600000 + 25000 * (t + 1)))), (5, .int (nI (500 * (t + 1)))), (0, .int (nI h)), (1, .int (nI m0)), (2, .ref (ad (3))), (3, .ref (ad (4))), (4, .ref (ad (2)))]) hx hb dL_tariff_29 hl (k := 1) rfl (tl_t2 s0 t) (by decide) rfl (fun ls hl => ?_)
      refine lv_goto (tgt := 18) hx hb dL_tariff_35 (by decide) ?_
      exact ih ls H locs (lv_sub hl [0, 1, 2, 3, 4, 5, 6] rfl) hP hD hS
  · refine lv_iload hx hb dL_tariff_18 (lv_at hl 0 rfl) ?_
    refine lv_if_le (tgt := 38) hx hb dL_tariff_20 (by decide) (fun c20_2 => ?_) (fun c20_2 => ?_)
    · refine lv_iload hx hb dL_tariff_38 (lv_at hl 1 rfl) ?_
      exact tp_reti hx hb hr hlocks hK hP hD hS rfl et0.symm rfl dL_tariff_40
    · exact absurd ((tl_t3 (by omega) (by omega)).mpr (by omega)) c20_2
set_option maxHeartbeats 4000000 in
set_option maxRecDepth 100000 in
/-- due(home, month, f, v, q) -/
theorem lf_due (l : Launch) (D : va_G) (cy : Nat → ClassId) (n : Nat) (ad : Nat → Nat) (o : Int64) (I : Nat → Nat → Int32) (h c0 : Nat) (hF : tq_F I h c0) (m0 : Nat) (hm : m0 < 48) : tp_I l yL_due wsL_due (tp_rm 2 56) D cy n ad o [.int (nI h), .int (nI m0), .ref (ad (3)), .ref (ad (4)), .ref (ad (2))] I (tp_due I (9 + 15 * h) m0) (I) := by
  refine tp_ofI (lv := [(0, .int (nI h)), (1, .int (nI m0)), (2, .ref (ad (3))), (3, .ref (ad (4))), (4, .ref (ad (2)))]) (by decide) rfl (Nat.le_of_ble_eq_true rfl) rfl (fun p e s m args below meth c A ls S0 => ?_)
  obtain ⟨hx, hb, hr, hml, hown, hts, hlocks, hA, hK, hP, hD, hS, hl⟩ := S0
  refine lv_iload_n hx hb dL_due_0 rfl (lv_at hl 0 rfl) ?_
  refine lv_iload_n hx hb dL_due_1 rfl (lv_at hl 1 rfl) ?_
  refine lv_aload_n hx hb dL_due_2 rfl (lv_at hl 2 rfl) ?_
  refine lv_aload_n hx hb dL_due_3 rfl (lv_at hl 3 rfl) ?_
  refine lv_aload hx hb dL_due_4 (lv_at hl 4 rfl) ?_
  refine tp_callS ⟨hx, hb, hml, hown, hts⟩ (lf_need l D cy n ad o I h c0 hF m0 (by omega)) (va_cwS 5 hts gL_due_L_need rfl rfl rfl (by decide +kernel) ⟨Nat.le_of_ble_eq_true rfl, Nat.le_of_ble_eq_true rfl⟩) hK hP hD hS hA rfl hl.1 rfl (Nat.le_of_ble_eq_true rfl) dL_due_6 ⟨Nat.zero_le _, Nat.zero_le _⟩ (fun I9 e9 H locs hP hD hS => ?_)
  subst e9
  refine lv_iload_n hx hb dL_due_9 rfl (lv_at hl 0 rfl) ?_
  refine lv_iload_n hx hb dL_due_10 rfl (lv_at hl 1 rfl) ?_
  refine lv_aload_n hx hb dL_due_11 rfl (lv_at hl 2 rfl) ?_
  refine lv_aload_n hx hb dL_due_12 rfl (lv_at hl 3 rfl) ?_
  refine lv_aload hx hb dL_due_13 (lv_at hl 4 rfl) ?_
  refine tp_callS ⟨hx, hb, hml, hown, hts⟩ (lf_taper l D cy n ad o I h c0 hF m0 (by omega)) (va_cwS 5 hts gL_due_L_taper rfl rfl rfl (by decide +kernel) ⟨Nat.le_of_ble_eq_true rfl, Nat.le_of_ble_eq_true rfl⟩) hK hP hD hS hA rfl hl.1 rfl (Nat.le_of_ble_eq_true rfl) dL_due_15 ⟨Nat.zero_le _, Nat.zero_le _⟩ (fun I9 e9 H locs hP hD hS => ?_)
  subst e9
  refine lv_isub hx hb dL_due_18 ?_
  refine lv_iload_n hx hb dL_due_19 rfl (lv_at hl 0 rfl) ?_
  refine lv_iload_n hx hb dL_due_20 rfl (lv_at hl 1 rfl) ?_
  refine lv_aload_n hx hb dL_due_21 rfl (lv_at hl 2 rfl) ?_
  refine lv_aload_n hx hb dL_due_22 rfl (lv_at hl 3 rfl) ?_
  refine lv_aload hx hb dL_due_23 (lv_at hl 4 rfl) ?_
  refine tp_callS ⟨hx, hb, hml, hown, hts⟩ (lf_tariff l D cy n ad o I h c0 hF m0 (by omega)) (va_cwS 5 hts gL_due_L_tariff rfl rfl rfl (by decide +kernel) ⟨Nat.le_of_ble_eq_true rfl, Nat.le_of_ble_eq_true rfl⟩) hK hP hD hS hA rfl hl.1 rfl (Nat.le_of_ble_eq_true rfl) dL_due_25 ⟨Nat.zero_le _, Nat.zero_le _⟩ (fun I9 e9 H locs hP hD hS => ?_)
  subst e9
  refine lv_isub hx hb dL_due_28 ?_
  refine lv_istore (lv' := [(5, .int (((tp_need I (9 + 15 * h) m0) - (tp_taper I (9 + 15 * h) m0)) - (tp_tariff I (9 + 15 * h) m0))), (0, .int (nI h)), (1, .int (nI m0)), (2, .ref (ad (3))), (3, .ref (ad (4))), (4, .ref (ad (2)))]) hx hb dL_due_29 hl (by decide) rfl (fun ls hl => ?_)
  refine lv_iload_n hx hb dL_due_31 rfl (lv_at hl 1 rfl) ?_
  refine lv_iconst (v := 4) hx hb dL_due_32 (by decide) ?_
  refine lv_iload_n hx hb dL_due_33 rfl (lv_at hl 2 rfl) ?_
  refine lv_aload_n hx hb dL_due_34 rfl (lv_at hl 3 rfl) ?_
  refine lv_aload_n hx hb dL_due_35 rfl (lv_at hl 4 rfl) ?_
  refine lv_aload hx hb dL_due_36 (lv_at hl 5 rfl) ?_
  refine tp_callS ⟨hx, hb, hml, hown, hts⟩ (lf_fact l D cy n ad o I h c0 hF 4 m0 (by decide) (by omega)) (va_cwS 6 hts gL_due_L_fact rfl rfl rfl (by decide +kernel) ⟨Nat.le_of_ble_eq_true rfl, Nat.le_of_ble_eq_true rfl⟩) hK hP hD hS hA rfl hl.1 rfl (Nat.le_of_ble_eq_true rfl) dL_due_38 ⟨Nat.zero_le _, Nat.zero_le _⟩ (fun I9 e9 H locs hP hD hS => ?_)
  subst e9
  refine lv_ldc (v := 1600000) hx hb hown (hts _ (List.mem_of_getElem? (i := 1) rfl)) dL_due_41 ?_
  refine lv_icmp_gt (tgt := 54) hx hb dL_due_43 (by decide) (fun c43_1 => ?_) (fun c43_1 => ?_)
  · refine lv_iconst (v := 0) hx hb dL_due_54 (by decide) ?_
    refine lv_goto (tgt := 60) hx hb dL_due_55 (by decide) ?_
    exact tp_reti hx hb hr hlocks hK hP hD hS rfl (by unfold tp_due; rw [if_neg (tm_nle c43_1)]) rfl dL_due_60
  · refine lv_iload hx hb dL_due_46 (lv_at hl 0 rfl) ?_
    refine lv_sipush (v := 500) hx hb dL_due_48 (by decide) ?_
    refine lv_icmp_ge (tgt := 58) hx hb dL_due_51 (by decide) (fun c51_2 => ?_) (fun c51_2 => ?_)
    · refine lv_iload hx hb dL_due_58 (lv_at hl 0 rfl) ?_
      exact tp_reti hx hb hr hlocks hK hP hD hS rfl (by unfold tp_due; rw [if_pos (tm_ge c43_1), if_pos c51_2]) rfl dL_due_60
    · refine lv_iconst (v := 0) hx hb dL_due_54 (by decide) ?_
      refine lv_goto (tgt := 60) hx hb dL_due_55 (by decide) ?_
      exact tp_reti hx hb hr hlocks hK hP hD hS rfl (by unfold tp_due; rw [if_pos (tm_ge c43_1), if_neg c51_2]) rfl dL_due_60
set_option maxHeartbeats 4000000 in
set_option maxRecDepth 100000 in
/-- open(home, f, v, a, q) -/
theorem lf_open (l : Launch) (D : va_G) (cy : Nat → ClassId) (n : Nat) (ad : Nat → Nat) (o : Int64) (I : Nat → Nat → Int32) (h c0 : Nat) (hF : tq_F I h c0) (e0 a0 : Nat) (hB : tq_B I h e0 a0) : tp_I l yL_open wsL_open (tp_rm 3 81) D cy n ad o [.int (nI h), .ref (ad (3)), .ref (ad (4)), .ref (ad (5 + h)), .ref (ad (2))] I (tp_open I (9 + 15 * h) a0 e0) (I) := by
  obtain ⟨⟨hh, ha8, he8, he, ha⟩, hA13, hd6, hd7, hd8, hd01, hd0, hdm⟩ := id hB
  refine tp_ofI (lv := [(0, .int (nI h)), (1, .ref (ad (3))), (2, .ref (ad (4))), (3, .ref (ad (5 + h))), (4, .ref (ad (2)))]) (by decide) rfl (Nat.le_of_ble_eq_true rfl) rfl (fun p e s m args below meth c A ls S0 => ?_)
  obtain ⟨hx, hb, hr, hml, hown, hts, hlocks, hA, hK, hP, hD, hS, hl⟩ := S0
  refine lv_iconst (v := 0) hx hb dL_open_0 (by decide) ?_
  refine lv_istore (lv' := [(5, .int 0), (0, .int (nI h)), (1, .ref (ad (3))), (2, .ref (ad (4))), (3, .ref (ad (5 + h))), (4, .ref (ad (2)))]) hx hb dL_open_1 hl (by decide) rfl (fun ls hl => ?_)
  refine lv_aload hx hb dL_open_3 (lv_at hl 5 rfl) ?_
  refine lv_iconst (v := 4) hx hb dL_open_5 (by decide) ?_
  refine lv_iload_n hx hb dL_open_6 rfl (lv_at hl 1 rfl) ?_
  refine lv_iadd hx hb dL_open_7 ?_
  refine tp_eqi (y := nI (4 + h)) (nI_add 4 h) ?_
  refine tp_iald hx hb hK hP (2) 12 ((4 + h)) (by omega) rfl rfl (by omega) (by decide) dL_open_8 ?_
  refine tp_eqi (y := nI a0) ha ?_
  refine lv_istore (lv' := [(6, .int (nI a0)), (5, .int 0), (0, .int (nI h)), (1, .ref (ad (3))), (2, .ref (ad (4))), (3, .ref (ad (5 + h))), (4, .ref (ad (2)))]) hx hb dL_open_9 hl (by decide) rfl (fun ls hl => ?_)
  have hl : lv_has ls 7 [(6, .int (nI (a0 + 0))), (5, .int (tp_sum (fun m => tp_due I (9 + 15 * h) m - I (9 + 15 * h + 13) m) a0 0)), (0, .int (nI h)), (1, .ref (ad (3))), (2, .ref (ad (4))), (3, .ref (ad (5 + h))), (4, .ref (ad (2)))] := hl
  refine tp_for (nL := 7) (e0 - a0) (fun _ => I) (fun t => [(6, .int (nI (a0 + t))), (5, .int (tp_sum (fun m => tp_due I (9 + 15 * h) m - I (9 + 15 * h + 13) m) a0 t)), (0, .int (nI h)), (1, .ref (ad (3))), (2, .ref (ad (4))), (3, .ref (ad (5 + h))), (4, .ref (ad (2)))]) (fun t ht ls H locs hl hP hD hS ih => ?_) (fun ls H locs hl hP hD hS => ?_) hl hP hD hS
  · refine lv_iload hx hb dL_open_11 (lv_at hl 0 rfl) ?_
    refine lv_aload hx hb dL_open_13 (lv_at hl 6 rfl) ?_
    refine lv_iconst (v := 0) hx hb dL_open_15 (by decide) ?_
    refine tp_iald hx hb hK hP (2) 12 (0) (by omega) rfl (by decide) (by decide) (by decide) dL_open_16 ?_
    refine tp_eqi (y := nI e0) he ?_
    refine lv_icmp_ge (tgt := 46) hx hb dL_open_17 (by decide) (fun c17_1 => ?_) (fun c17_1 => ?_)
    · exact absurd c17_1 (nI_ge (by omega) (by omega))
    · refine lv_iload hx hb dL_open_20 (lv_at hl 1 rfl) ?_
      refine lv_iload_n hx hb dL_open_22 rfl (lv_at hl 2 rfl) ?_
      refine lv_iload hx hb dL_open_23 (lv_at hl 0 rfl) ?_
      refine lv_aload_n hx hb dL_open_25 rfl (lv_at hl 3 rfl) ?_
      refine lv_aload_n hx hb dL_open_26 rfl (lv_at hl 4 rfl) ?_
      refine lv_aload hx hb dL_open_27 (lv_at hl 6 rfl) ?_
      refine tp_callS ⟨hx, hb, hml, hown, hts⟩ (lf_due l D cy n ad o I h c0 hF (a0 + t) (by omega)) (va_cwS 5 hts gL_open_L_due rfl rfl rfl (by decide +kernel) ⟨Nat.le_of_ble_eq_true rfl, Nat.le_of_ble_eq_true rfl⟩) hK hP hD hS hA rfl hl.1 rfl (Nat.le_of_ble_eq_true rfl) dL_open_29 ⟨Nat.zero_le _, Nat.zero_le _⟩ (fun I9 e9 H locs hP hD hS => ?_)
      subst e9
      refine lv_aload_n hx hb dL_open_32 rfl (lv_at hl 5 rfl) ?_
      refine lv_iload hx hb dL_open_33 (lv_at hl 0 rfl) ?_
      refine tp_iald hx hb hK hP (5 + h) 48 ((a0 + t)) (by omega) (tl_cA hh) rfl (by omega) (by decide) dL_open_35 ?_
      refine tp_eqi (y := (I (9 + 15 * h + 13) (a0 + t))) (hA13 (a0 + t) (by omega)).1.symm ?_
      refine lv_isub hx hb dL_open_36 ?_
      refine lv_iadd hx hb dL_open_37 ?_
      refine lv_istore (lv' := [(5, .int ((tp_sum (fun m => tp_due I (9 + 15 * h) m - I (9 + 15 * h + 13) m) a0 t) + ((tp_due I (9 + 15 * h) (a0 + t)) - (I (9 + 15 * h + 13) (a0 + t))))), (6, .int (nI (a0 + t))), (0, .int (nI h)), (1, .ref (ad (3))), (2, .ref (ad (4))), (3, .ref (ad (5 + h))), (4, .ref (ad (2)))]) hx hb dL_open_38 hl (by decide) rfl (fun ls hl => ?_)
      refine lv_iinc (v := (nI ((a0 + t) + 1))) (lv' := [(6, .int (nI ((a0 + t) + 1))), (5, .int ((tp_sum (fun m => tp_due I (9 + 15 * h) m - I (9 + 15 * h + 13) m) a0 t) + ((tp_due I (9 + 15 * h) (a0 + t)) - (I (9 + 15 * h + 13) (a0 + t))))), (0, .int (nI h)), (1, .ref (ad (3))), (2, .ref (ad (4))), (3, .ref (ad (5 + h))), (4, .ref (ad (2)))]) hx hb dL_open_40 hl (k := 1) rfl (nI_1 _) (by decide) rfl (fun ls hl => ?_)
      refine lv_goto (tgt := 11) hx hb dL_open_43 (by decide) ?_
      exact ih ls H locs (lv_sub hl [0, 1, 2, 3, 4, 5, 6] rfl) hP hD hS
  · refine lv_iload hx hb dL_open_11 (lv_at hl 0 rfl) ?_
    refine lv_aload hx hb dL_open_13 (lv_at hl 6 rfl) ?_
    refine lv_iconst (v := 0) hx hb dL_open_15 (by decide) ?_
    refine tp_iald hx hb hK hP (2) 12 (0) (by omega) rfl (by decide) (by decide) (by decide) dL_open_16 ?_
    refine tp_eqi (y := nI e0) he ?_
    refine lv_icmp_ge (tgt := 46) hx hb dL_open_17 (by decide) (fun c17_2 => ?_) (fun c17_2 => ?_)
    · refine lv_iload hx hb dL_open_46 (lv_at hl 1 rfl) ?_
      exact tp_reti hx hb hr hlocks hK hP hD hS rfl rfl rfl dL_open_48
    · exact absurd (nI_le (by omega) (by omega)) c17_2
set_option maxHeartbeats 4000000 in
set_option maxRecDepth 100000 in
/-- recovers(home, debt, award, f, v, q) -/
theorem lf_recovers (l : Launch) (D : va_G) (cy : Nat → ClassId) (n : Nat) (ad : Nat → Nat) (o : Int64) (I : Nat → Nat → Int32) (h c0 : Nat) (hF : tq_F I h c0) (e0 a0 : Nat) (hB : tq_B I h e0 a0) (he48 : e0 < 48) (x : Int32) (hx0 : 0 ≤ x.toInt) : tp_I l yL_recovers wsL_recovers (tp_rm 1 30) D cy n ad o [.int (nI h), .int x, .int (tp_due I (9 + 15 * h) e0), .ref (ad (3)), .ref (ad (4)), .ref (ad (2))] I (tp_rec I (9 + 15 * h) e0 x) (I) := by
  obtain ⟨⟨hh, ha8, he8, he, ha⟩, hA13, hd6, hd7, hd8, hd01, hd0, hdm⟩ := id hB
  obtain ⟨k0, hk0, ek0⟩ := tq_dueN hF (m := e0) he48
  have e15 : tp_due I (9 + 15 * h) e0 * 3 / 20 = tp_due I (9 + 15 * h) e0 * 15 / 100 := by rw [ek0]; exact (tn_15 hk0).1
  have h15 : 0 ≤ (tp_due I (9 + 15 * h) e0 * 15 / 100).toInt := by rw [ek0]; exact (tn_15 hk0).2
  refine tp_ofI (lv := [(0, .int (nI h)), (1, .int x), (2, .int (tp_due I (9 + 15 * h) e0)), (3, .ref (ad (3))), (4, .ref (ad (4))), (5, .ref (ad (2)))]) (by decide) rfl (Nat.le_of_ble_eq_true rfl) rfl (fun p e s m args below meth c A ls S0 => ?_)
  obtain ⟨hx, hb, hr, hml, hown, hts, hlocks, hA, hK, hP, hD, hS, hl⟩ := S0
  refine lv_iload_n hx hb dL_recovers_0 rfl (lv_at hl 2 rfl) ?_
  refine lv_iconst (v := 3) hx hb dL_recovers_1 (by decide) ?_
  refine lv_imul hx hb dL_recovers_2 ?_
  refine lv_bipush (v := 20) hx hb dL_recovers_3 (by decide) ?_
  refine lv_idiv hx hb dL_recovers_5 (by decide) ?_
  refine tp_eqi (y := (tp_due I (9 + 15 * h) e0 * 15 / 100)) e15 ?_
  refine lv_istore (lv' := [(6, .int (tp_due I (9 + 15 * h) e0 * 15 / 100)), (0, .int (nI h)), (1, .int x), (2, .int (tp_due I (9 + 15 * h) e0)), (3, .ref (ad (3))), (4, .ref (ad (4))), (5, .ref (ad (2)))]) hx hb dL_recovers_6 hl (by decide) rfl (fun ls hl => ?_)
  refine lv_iload_n hx hb dL_recovers_8 rfl (lv_at hl 3 rfl) ?_
  refine lv_iload_n hx hb dL_recovers_9 rfl (lv_at hl 1 rfl) ?_
  refine lv_iconst (v := 3) hx hb dL_recovers_10 (by decide) ?_
  refine lv_aload hx hb dL_recovers_11 (lv_at hl 6 rfl) ?_
  refine lv_iconst (v := 0) hx hb dL_recovers_13 (by decide) ?_
  refine tp_iald hx hb hK hP (2) 12 (0) (by omega) rfl (by decide) (by decide) (by decide) dL_recovers_14 ?_
  refine tp_eqi (y := nI e0) he ?_
  refine lv_aload_n hx hb dL_recovers_15 rfl (lv_at hl 4 rfl) ?_
  refine lv_aload hx hb dL_recovers_16 (lv_at hl 5 rfl) ?_
  refine lv_aload hx hb dL_recovers_18 (lv_at hl 6 rfl) ?_
  refine tp_callS ⟨hx, hb, hml, hown, hts⟩ (lf_fact l D cy n ad o I h c0 hF 3 e0 (by decide) (by omega)) (va_cwS 6 hts gL_recovers_L_fact rfl rfl rfl (by decide +kernel) ⟨Nat.le_of_ble_eq_true rfl, Nat.le_of_ble_eq_true rfl⟩) hK hP hD hS hA rfl hl.1 rfl (Nat.le_of_ble_eq_true rfl) dL_recovers_20 ⟨Nat.zero_le _, Nat.zero_le _⟩ (fun I9 e9 H locs hP hD hS => ?_)
  subst e9
  refine lv_iadd hx hb dL_recovers_23 ?_
  refine lv_sipush (v := 25000) hx hb dL_recovers_24 (by decide) ?_
  refine lv_isub hx hb dL_recovers_27 ?_
  refine lv_istore (lv' := [(7, .int (((tp_due I (9 + 15 * h) e0) + (I (9 + 15 * h + 2 + 3) e0)) - 25000)), (6, .int (tp_due I (9 + 15 * h) e0 * 15 / 100)), (0, .int (nI h)), (1, .int x), (2, .int (tp_due I (9 + 15 * h) e0)), (3, .ref (ad (3))), (4, .ref (ad (4))), (5, .ref (ad (2)))]) hx hb dL_recovers_28 hl (by decide) rfl (fun ls hl => ?_)
  refine tp_meetH (D := D) (cy := cy) (n := n) (ad := ad) (I := I) (o := o) (A := A) (H0 := s.heap) (tl_s1 x (tp_due I (9 + 15 * h) e0 * 15 / 100) : Int32) (fun y => F0 m 42 ls (.int y :: [])) (fun hj42 => ?_) (fun H locs hP hD hS => ?_)
  · refine lv_iload_n hx hb dL_recovers_30 rfl (lv_at hl 3 rfl) ?_
    refine lv_iload hx hb dL_recovers_31 (lv_at hl 1 rfl) ?_
    refine lv_icmp_ge (tgt := 40) hx hb dL_recovers_33 (by decide) (fun c33_1 => ?_) (fun c33_1 => ?_)
    · refine lv_iload hx hb dL_recovers_40 (lv_at hl 1 rfl) ?_
      exact hj42 _ (by unfold tl_s1; rw [if_pos c33_1]) _ _ hP hD hS
    · refine lv_iload_n hx hb dL_recovers_36 rfl (lv_at hl 3 rfl) ?_
      refine lv_goto (tgt := 42) hx hb dL_recovers_37 (by decide) ?_
      exact hj42 _ (by unfold tl_s1; rw [if_neg c33_1]) _ _ hP hD hS
  refine lv_istore (lv' := [(8, .int (tl_s1 x (tp_due I (9 + 15 * h) e0 * 15 / 100))), (7, .int (((tp_due I (9 + 15 * h) e0) + (I (9 + 15 * h + 2 + 3) e0)) - 25000)), (6, .int (tp_due I (9 + 15 * h) e0 * 15 / 100)), (0, .int (nI h)), (1, .int x), (2, .int (tp_due I (9 + 15 * h) e0)), (3, .ref (ad (3))), (4, .ref (ad (4))), (5, .ref (ad (2)))]) hx hb dL_recovers_42 hl (by decide) rfl (fun ls hl => ?_)
  refine tp_meetH (D := D) (cy := cy) (n := n) (ad := ad) (I := I) (o := o) (A := A) (H0 := s.heap) (tl_s2 x (tp_due I (9 + 15 * h) e0 * 15 / 100) (tp_due I (9 + 15 * h) e0 + I (9 + 15 * h + 2 + 3) e0 - 25000) : Int32) (fun y => F0 m 58 ls (.int y :: [])) (fun hj58 => ?_) (fun H locs hP hD hS => ?_)
  · refine lv_iload hx hb dL_recovers_44 (lv_at hl 1 rfl) ?_
    refine lv_iload hx hb dL_recovers_46 (lv_at hl 0 rfl) ?_
    refine lv_icmp_ge (tgt := 56) hx hb dL_recovers_48 (by decide) (fun c48_2 => ?_) (fun c48_2 => ?_)
    · refine lv_iload hx hb dL_recovers_56 (lv_at hl 0 rfl) ?_
      exact hj58 _ (by unfold tl_s2; rw [if_pos c48_2]) _ _ hP hD hS
    · refine lv_iload hx hb dL_recovers_51 (lv_at hl 1 rfl) ?_
      refine lv_goto (tgt := 58) hx hb dL_recovers_53 (by decide) ?_
      exact hj58 _ (by unfold tl_s2; rw [if_neg c48_2]) _ _ hP hD hS
  refine lv_istore (lv' := [(8, .int (tl_s2 x (tp_due I (9 + 15 * h) e0 * 15 / 100) (tp_due I (9 + 15 * h) e0 + I (9 + 15 * h + 2 + 3) e0 - 25000))), (7, .int (((tp_due I (9 + 15 * h) e0) + (I (9 + 15 * h + 2 + 3) e0)) - 25000)), (6, .int (tp_due I (9 + 15 * h) e0 * 15 / 100)), (0, .int (nI h)), (1, .int x), (2, .int (tp_due I (9 + 15 * h) e0)), (3, .ref (ad (3))), (4, .ref (ad (4))), (5, .ref (ad (2)))]) hx hb dL_recovers_58 hl (by decide) rfl (fun ls hl => ?_)
  refine lv_aload hx hb dL_recovers_60 (lv_at hl 8 rfl) ?_
  refine lv_bipush (v := 10) hx hb dL_recovers_62 (by decide) ?_
  refine lv_iload_n hx hb dL_recovers_64 rfl (lv_at hl 3 rfl) ?_
  refine lv_iadd hx hb dL_recovers_65 ?_
  refine tp_eqi (y := nI (10 + h)) (nI_add 10 h) ?_
  refine tp_iald hx hb hK hP (2) 12 ((10 + h)) (by omega) rfl rfl (by omega) (by decide) dL_recovers_66 ?_
  refine lv_iconst (v := 1) hx hb dL_recovers_67 (by decide) ?_
  refine lv_icmp_eq (tgt := 76) hx hb dL_recovers_68 (by decide) (fun c68_3 => ?_) (fun c68_3 => ?_)
  · refine lv_iconst (v := 0) hx hb dL_recovers_76 (by decide) ?_
    refine lv_goto (tgt := 82) hx hb dL_recovers_77 (by decide) ?_
    exact tp_reti hx hb hr hlocks hK hP hD hS rfl (by unfold tp_rec; rw [hd8, if_neg (by rw [c68_3]; decide)]) rfl dL_recovers_82
  · refine lv_iload hx hb dL_recovers_71 (lv_at hl 0 rfl) ?_
    refine lv_if_ge (tgt := 80) hx hb dL_recovers_73 (by decide) (fun c73_4 => ?_) (fun c73_4 => ?_)
    · refine lv_iload hx hb dL_recovers_80 (lv_at hl 0 rfl) ?_
      exact tp_reti hx hb hr hlocks hK hP hD hS rfl (by unfold tp_rec; rw [hd8, if_pos (hd01.resolve_right c68_3)]; exact (tn_rec hx0 h15).1 c73_4) rfl dL_recovers_82
    · refine lv_iconst (v := 0) hx hb dL_recovers_76 (by decide) ?_
      refine lv_goto (tgt := 82) hx hb dL_recovers_77 (by decide) ?_
      exact tp_reti hx hb hr hlocks hK hP hD hS rfl (by unfold tp_rec; rw [hd8, if_pos (hd01.resolve_right c68_3)]; exact (tn_rec hx0 h15).2.1 c73_4) rfl dL_recovers_82
set_option maxHeartbeats 4000000 in
set_option maxRecDepth 100000 in
/-- debtThen(home, d, q) -/
theorem lf_debtThen (l : Launch) (D : va_G) (cy : Nat → ClassId) (n : Nat) (ad : Nat → Nat) (o : Int64) (I : Nat → Nat → Int32) (h e0 a0 : Nat) (hB : tq_B I h e0 a0) (x : Int32) (hx3 : -8352000 ≤ x.toInt) (hx4 : x.toInt ≤ 8352000) : tp_I l yL_debtThen wsL_debtThen (tp_rm 0 0) D cy n ad o [.int (nI h), .int x, .ref (ad (2))] I (tp_owed I (9 + 15 * h) x) (I) := by
  obtain ⟨⟨hh, ha8, he8, he, ha⟩, hA13, hd6, hd7, hd8, hd01, hd0, hdm⟩ := id hB
  have hT := tn_owed (D := I 2 (6 + h)) (X := x) hd0 (by omega) hx3 hx4
  refine tp_ofI (lv := [(0, .int (nI h)), (1, .int x), (2, .ref (ad (2)))]) (by decide) rfl (Nat.le_of_ble_eq_true rfl) rfl (fun p e s m args below meth c A ls S0 => ?_)
  obtain ⟨hx, hb, hr, hml, hown, hts, hlocks, hA, hK, hP, hD, hS, hl⟩ := S0
  refine lv_aload_n hx hb dL_debtThen_0 rfl (lv_at hl 2 rfl) ?_
  refine lv_bipush (v := 6) hx hb dL_debtThen_1 (by decide) ?_
  refine lv_iload_n hx hb dL_debtThen_3 rfl (lv_at hl 0 rfl) ?_
  refine lv_iadd hx hb dL_debtThen_4 ?_
  refine tp_eqi (y := nI (6 + h)) (nI_add 6 h) ?_
  refine tp_iald hx hb hK hP (2) 12 ((6 + h)) (by omega) rfl rfl (by omega) (by decide) dL_debtThen_5 ?_
  refine lv_iload_n hx hb dL_debtThen_6 rfl (lv_at hl 1 rfl) ?_
  refine lv_isub hx hb dL_debtThen_7 ?_
  refine lv_istore_n (lv' := [(3, .int ((I 2 (6 + h)) - x)), (0, .int (nI h)), (1, .int x), (2, .ref (ad (2)))]) hx hb dL_debtThen_8 rfl hl (by decide) rfl (fun ls hl => ?_)
  refine lv_iload_n hx hb dL_debtThen_9 rfl (lv_at hl 2 rfl) ?_
  refine lv_if_le (tgt := 21) hx hb dL_debtThen_10 (by decide) (fun c10_1 => ?_) (fun c10_1 => ?_)
  · refine lv_iload_n hx hb dL_debtThen_21 rfl (lv_at hl 0 rfl) ?_
    exact tp_reti hx hb hr hlocks hK hP hD hS rfl (by unfold tp_owed; rw [hd6]; exact hT.1 c10_1) rfl dL_debtThen_22
  · refine lv_iload_n hx hb dL_debtThen_13 rfl (lv_at hl 0 rfl) ?_
    refine lv_if_ge (tgt := 21) hx hb dL_debtThen_14 (by decide) (fun c14_2 => ?_) (fun c14_2 => ?_)
    · refine lv_iload_n hx hb dL_debtThen_21 rfl (lv_at hl 0 rfl) ?_
      exact tp_reti hx hb hr hlocks hK hP hD hS rfl (by unfold tp_owed; rw [hd6]; exact hT.2.1 c14_2) rfl dL_debtThen_22
    · refine lv_iconst (v := 0) hx hb dL_debtThen_17 (by decide) ?_
      refine lv_goto (tgt := 22) hx hb dL_debtThen_18 (by decide) ?_
      exact tp_reti hx hb hr hlocks hK hP hD hS rfl (by unfold tp_owed; rw [hd6]; exact hT.2.2.1 c14_2) rfl dL_debtThen_22
set_option maxHeartbeats 4000000 in
set_option maxRecDepth 100000 in
/-- pays(home, f, v, a, q) -/
theorem lf_pays (l : Launch) (D : va_G) (cy : Nat → ClassId) (n : Nat) (ad : Nat → Nat) (o : Int64) (I : Nat → Nat → Int32) (h c0 : Nat) (hF : tq_F I h c0) (e0 a0 : Nat) (hB : tq_B I h e0 a0) (he48 : e0 < 48) : tp_I l yL_pays wsL_pays (tp_rm 4 107) D cy n ad o [.int (nI h), .ref (ad (3)), .ref (ad (4)), .ref (ad (5 + h)), .ref (ad (2))] I (tp_paym I (9 + 15 * h) a0 e0) (I) := by
  obtain ⟨⟨hh, ha8, he8, he, ha⟩, hA13, hd6, hd7, hd8, hd01, hd0, hdm⟩ := id hB
  obtain ⟨hO3, hO4⟩ := tq_open hF hB
  have hOw : 0 ≤ (tp_owed I (9 + 15 * h) (tp_open I (9 + 15 * h) a0 e0)).toInt := by unfold tp_owed; rw [hd6]; exact (tn_owed hd0 (by omega) hO3 hO4).2.2.2.1
  have hT := tn_arr (D := I 2 (6 + h)) (X := tp_open I (9 + 15 * h) a0 e0) hd0 (by omega) hO3 hO4
  refine tp_ofI (lv := [(0, .int (nI h)), (1, .ref (ad (3))), (2, .ref (ad (4))), (3, .ref (ad (5 + h))), (4, .ref (ad (2)))]) (by decide) rfl (Nat.le_of_ble_eq_true rfl) rfl (fun p e s m args below meth c A ls S0 => ?_)
  obtain ⟨hx, hb, hr, hml, hown, hts, hlocks, hA, hK, hP, hD, hS, hl⟩ := S0
  refine lv_iload_n hx hb dL_pays_0 rfl (lv_at hl 0 rfl) ?_
  refine lv_aload_n hx hb dL_pays_1 rfl (lv_at hl 1 rfl) ?_
  refine lv_aload_n hx hb dL_pays_2 rfl (lv_at hl 2 rfl) ?_
  refine lv_aload_n hx hb dL_pays_3 rfl (lv_at hl 3 rfl) ?_
  refine lv_aload hx hb dL_pays_4 (lv_at hl 4 rfl) ?_
  refine tp_callS ⟨hx, hb, hml, hown, hts⟩ (lf_open l D cy n ad o I h c0 hF e0 a0 hB) (va_cwS 5 hts gL_pays_L_open rfl rfl rfl (by decide +kernel) ⟨Nat.le_of_ble_eq_true rfl, Nat.le_of_ble_eq_true rfl⟩) hK hP hD hS hA rfl hl.1 rfl (Nat.le_of_ble_eq_true rfl) dL_pays_6 ⟨Nat.zero_le _, Nat.zero_le _⟩ (fun I9 e9 H locs hP hD hS => ?_)
  subst e9
  refine lv_istore (lv' := [(5, .int (tp_open I (9 + 15 * h) a0 e0)), (0, .int (nI h)), (1, .ref (ad (3))), (2, .ref (ad (4))), (3, .ref (ad (5 + h))), (4, .ref (ad (2)))]) hx hb dL_pays_9 hl (by decide) rfl (fun ls hl => ?_)
  refine lv_iload_n hx hb dL_pays_11 rfl (lv_at hl 1 rfl) ?_
  refine lv_iload hx hb dL_pays_12 (lv_at hl 0 rfl) ?_
  refine lv_aload hx hb dL_pays_14 (lv_at hl 5 rfl) ?_
  refine tp_callS ⟨hx, hb, hml, hown, hts⟩ (lf_debtThen l D cy n ad o I h e0 a0 hB (tp_open I (9 + 15 * h) a0 e0) hO3 hO4) (va_cwS 3 hts gL_pays_L_debtThen rfl rfl rfl (by decide +kernel) ⟨Nat.le_of_ble_eq_true rfl, Nat.le_of_ble_eq_true rfl⟩) hK hP hD hS hA rfl hl.1 rfl (Nat.le_of_ble_eq_true rfl) dL_pays_16 ⟨Nat.zero_le _, Nat.zero_le _⟩ (fun I9 e9 H locs hP hD hS => ?_)
  subst e9
  refine lv_istore (lv' := [(6, .int (tp_owed I (9 + 15 * h) (tp_open I (9 + 15 * h) a0 e0))), (5, .int (tp_open I (9 + 15 * h) a0 e0)), (0, .int (nI h)), (1, .ref (ad (3))), (2, .ref (ad (4))), (3, .ref (ad (5 + h))), (4, .ref (ad (2)))]) hx hb dL_pays_19 hl (by decide) rfl (fun ls hl => ?_)
  refine lv_iload_n hx hb dL_pays_21 rfl (lv_at hl 2 rfl) ?_
  refine lv_aload hx hb dL_pays_22 (lv_at hl 6 rfl) ?_
  refine lv_iconst (v := 0) hx hb dL_pays_24 (by decide) ?_
  refine tp_iald hx hb hK hP (2) 12 (0) (by omega) rfl (by decide) (by decide) (by decide) dL_pays_25 ?_
  refine tp_eqi (y := nI e0) he ?_
  refine lv_aload_n hx hb dL_pays_26 rfl (lv_at hl 3 rfl) ?_
  refine lv_aload_n hx hb dL_pays_27 rfl (lv_at hl 4 rfl) ?_
  refine lv_aload hx hb dL_pays_28 (lv_at hl 6 rfl) ?_
  refine tp_callS ⟨hx, hb, hml, hown, hts⟩ (lf_due l D cy n ad o I h c0 hF e0 (by omega)) (va_cwS 5 hts gL_pays_L_due rfl rfl rfl (by decide +kernel) ⟨Nat.le_of_ble_eq_true rfl, Nat.le_of_ble_eq_true rfl⟩) hK hP hD hS hA rfl hl.1 rfl (Nat.le_of_ble_eq_true rfl) dL_pays_30 ⟨Nat.zero_le _, Nat.zero_le _⟩ (fun I9 e9 H locs hP hD hS => ?_)
  subst e9
  refine lv_istore (lv' := [(7, .int (tp_due I (9 + 15 * h) e0)), (6, .int (tp_owed I (9 + 15 * h) (tp_open I (9 + 15 * h) a0 e0))), (5, .int (tp_open I (9 + 15 * h) a0 e0)), (0, .int (nI h)), (1, .ref (ad (3))), (2, .ref (ad (4))), (3, .ref (ad (5 + h))), (4, .ref (ad (2)))]) hx hb dL_pays_33 hl (by decide) rfl (fun ls hl => ?_)
  refine tp_meetH (D := D) (cy := cy) (n := n) (ad := ad) (I := I) (o := o) (A := A) (H0 := s.heap) (tp_arr I (9 + 15 * h) (tp_open I (9 + 15 * h) a0 e0) : Int32) (fun y => F0 m 66 ls (.int y :: [])) (fun hj66 => ?_) (fun H locs hP hD hS => ?_)
  · refine lv_iload hx hb dL_pays_35 (lv_at hl 2 rfl) ?_
    refine lv_aload hx hb dL_pays_37 (lv_at hl 7 rfl) ?_
    refine lv_bipush (v := 6) hx hb dL_pays_39 (by decide) ?_
    refine lv_iload_n hx hb dL_pays_41 rfl (lv_at hl 3 rfl) ?_
    refine lv_iadd hx hb dL_pays_42 ?_
    refine tp_eqi (y := nI (6 + h)) (nI_add 6 h) ?_
    refine tp_iald hx hb hK hP (2) 12 ((6 + h)) (by omega) rfl rfl (by omega) (by decide) dL_pays_43 ?_
    refine lv_icmp_le (tgt := 65) hx hb dL_pays_44 (by decide) (fun c44_1 => ?_) (fun c44_1 => ?_)
    · refine lv_iconst (v := 0) hx hb dL_pays_65 (by decide) ?_
      exact hj66 _ (by unfold tp_arr; rw [hd6]; exact hT.1 c44_1) _ _ hP hD hS
    · refine lv_iload hx hb dL_pays_47 (lv_at hl 2 rfl) ?_
      refine lv_if_le (tgt := 65) hx hb dL_pays_49 (by decide) (fun c49_2 => ?_) (fun c49_2 => ?_)
      · refine lv_iconst (v := 0) hx hb dL_pays_65 (by decide) ?_
        exact hj66 _ (by unfold tp_arr; rw [hd6]; exact hT.2.1 c49_2) _ _ hP hD hS
      · refine lv_iload hx hb dL_pays_52 (lv_at hl 2 rfl) ?_
        refine lv_aload hx hb dL_pays_54 (lv_at hl 7 rfl) ?_
        refine lv_bipush (v := 6) hx hb dL_pays_56 (by decide) ?_
        refine lv_iload_n hx hb dL_pays_58 rfl (lv_at hl 3 rfl) ?_
        refine lv_iadd hx hb dL_pays_59 ?_
        refine tp_eqi (y := nI (6 + h)) (nI_add 6 h) ?_
        refine tp_iald hx hb hK hP (2) 12 ((6 + h)) (by omega) rfl rfl (by omega) (by decide) dL_pays_60 ?_
        refine lv_isub hx hb dL_pays_61 ?_
        refine lv_goto (tgt := 66) hx hb dL_pays_62 (by decide) ?_
        exact hj66 _ (by unfold tp_arr; rw [hd6]; exact hT.2.2 c44_1) _ _ hP hD hS
  refine lv_istore (lv' := [(8, .int (tp_arr I (9 + 15 * h) (tp_open I (9 + 15 * h) a0 e0))), (7, .int (tp_due I (9 + 15 * h) e0)), (6, .int (tp_owed I (9 + 15 * h) (tp_open I (9 + 15 * h) a0 e0))), (5, .int (tp_open I (9 + 15 * h) a0 e0)), (0, .int (nI h)), (1, .ref (ad (3))), (2, .ref (ad (4))), (3, .ref (ad (5 + h))), (4, .ref (ad (2)))]) hx hb dL_pays_66 hl (by decide) rfl (fun ls hl => ?_)
  refine lv_iload hx hb dL_pays_68 (lv_at hl 1 rfl) ?_
  refine lv_iload hx hb dL_pays_70 (lv_at hl 0 rfl) ?_
  refine lv_iadd hx hb dL_pays_72 ?_
  refine lv_iload_n hx hb dL_pays_73 rfl (lv_at hl 4 rfl) ?_
  refine lv_iload hx hb dL_pays_74 (lv_at hl 2 rfl) ?_
  refine lv_iload hx hb dL_pays_76 (lv_at hl 1 rfl) ?_
  refine lv_aload_n hx hb dL_pays_78 rfl (lv_at hl 5 rfl) ?_
  refine lv_aload_n hx hb dL_pays_79 rfl (lv_at hl 6 rfl) ?_
  refine lv_aload hx hb dL_pays_80 (lv_at hl 8 rfl) ?_
  refine tp_callS ⟨hx, hb, hml, hown, hts⟩ (lf_recovers l D cy n ad o I h c0 hF e0 a0 hB he48 (tp_owed I (9 + 15 * h) (tp_open I (9 + 15 * h) a0 e0)) hOw) (va_cwS 6 hts gL_pays_L_recovers rfl rfl rfl (by decide +kernel) ⟨Nat.le_of_ble_eq_true rfl, Nat.le_of_ble_eq_true rfl⟩) hK hP hD hS hA rfl hl.1 rfl (Nat.le_of_ble_eq_true rfl) dL_pays_82 ⟨Nat.zero_le _, Nat.zero_le _⟩ (fun I9 e9 H locs hP hD hS => ?_)
  subst e9
  refine lv_isub hx hb dL_pays_85 ?_
  exact tp_reti hx hb hr hlocks hK hP hD hS rfl (tm_abc _ _ _) rfl dL_pays_86
/-- a household closed, in the law's arrays -/
def tl_J2 (I : Nat → Nat → Int32) (h a e : Nat) : Nat → Nat → Int32 := tp_u (tp_u I 2 (6 + h) (tp_owed I (9 + 15 * h) (tp_open I (9 + 15 * h) a e) - tp_rec I (9 + 15 * h) e (tp_owed I (9 + 15 * h) (tp_open I (9 + 15 * h) a e)))) 2 (8 + h) (I 2 (8 + h) + tp_rec I (9 + 15 * h) e (tp_owed I (9 + 15 * h) (tp_open I (9 + 15 * h) a e)))
def tl_J3 (I : Nat → Nat → Int32) (h a e : Nat) : Nat → Nat → Int32 := tp_u (tl_J2 I h a e) (7 + h) e (tp_paym I (9 + 15 * h) a e)
def tl_cls (I : Nat → Nat → Int32) (h a e : Nat) : Nat → Nat → Int32 := tp_fill (tl_J3 I h a e) (5 + h) a (fun s => tp_due I (9 + 15 * h) (a + s)) (e + 1 - a)
theorem tl_J2_oth {I : Nat → Nat → Int32} {h a e c : Nat} (q : c ≠ 2) : tl_J2 I h a e c = I c := by
  unfold tl_J2
  rw [tp_u_oth q, tp_u_oth q]
theorem tl_J2_n {I : Nat → Nat → Int32} {h a e j : Nat} (q : j ≠ 6 + h) (q2 : j ≠ 8 + h) : tl_J2 I h a e 2 j = I 2 j := by
  unfold tl_J2
  rw [tp_u_n q2, tp_u_n q]
theorem tl_J3_oth {I : Nat → Nat → Int32} {h a e c : Nat} (q : c ≠ 2) (q2 : c ≠ 7 + h) : tl_J3 I h a e c = I c := by
  unfold tl_J3
  rw [tp_u_oth q2, tl_J2_oth q]
theorem tl_J3_n {I : Nat → Nat → Int32} {h a e j : Nat} (q : j ≠ 6 + h) (q2 : j ≠ 8 + h) : tl_J3 I h a e 2 j = I 2 j := by
  unfold tl_J3
  rw [tp_u_oth (by omega), tl_J2_n q q2]
theorem tl_Jt_oth {I : Nat → Nat → Int32} {h a e c s : Nat} {g : Nat → Int32} (q : c ≠ 2) (q2 : c ≠ 7 + h) (q3 : c ≠ 5 + h) : tp_fill (tl_J3 I h a e) (5 + h) a g s c = I c := by rw [tp_fill_oth q3, tl_J3_oth q q2]
theorem tl_Jt_n {I : Nat → Nat → Int32} {h a e j s : Nat} {g : Nat → Int32} (q : j ≠ 6 + h) (q2 : j ≠ 8 + h) : tp_fill (tl_J3 I h a e) (5 + h) a g s 2 j = I 2 j := by rw [tp_fill_oth (by omega), tl_J3_n q q2]
theorem tl_scan_cong {I J : Nat → Nat → Int32} {h f m : Nat} : ∀ t : Nat, (∀ j, j < t → I 3 j = J 3 j ∧ I 4 j = J 4 j) → tl_scan I h f m t = tl_scan J h f m t
  | 0, _ => rfl
  | t + 1, q => by
    have ih := tl_scan_cong (h := h) (f := f) (m := m) t (fun j z => q j (by omega))
    obtain ⟨q3, q4⟩ := q t (by omega)
    unfold tl_scan tl_its
    rw [ih, q3, q4]
theorem tq_F_cong {I J : Nat → Nat → Int32} {h c : Nat} (R : tq_F I h c) (h22 : J 2 2 = I 2 2) (h3 : J 3 = I 3) (h4 : J 4 = I 4) (hc : ∀ j, 0 < j → j < 13 → J (9 + 15 * h + j) = I (9 + 15 * h + j)) : tq_F J h c := by
  refine ⟨⟨R.1.1, R.1.2.1, h22.trans R.1.2.2⟩, fun j hj => ?_, fun f hf m hm => ?_⟩
  · obtain ⟨g, f, r, q⟩ := R.2.1 j hj
    refine ⟨g, f, r, ?_⟩
    unfold tq_row at q ⊢
    rw [h3, h4]
    exact q
  · rw [tl_scan_cong (I := J) (J := I) c (fun j _ => ⟨by rw [h3], by rw [h4]⟩), Nat.add_assoc (9 + 15 * h) 2 f, Nat.add_assoc (9 + 15 * h) 8 f, hc (2 + f) (by omega) (by omega), hc (8 + f) (by omega) (by omega), ← Nat.add_assoc, ← Nat.add_assoc]
    exact R.2.2 f hf m hm
set_option maxHeartbeats 4000000 in
set_option maxRecDepth 100000 in
/-- closes(home, f, v, a, p, q) -/
theorem lf_closes (l : Launch) (D : va_G) (cy : Nat → ClassId) (n : Nat) (ad : Nat → Nat) (o : Int64) (I : Nat → Nat → Int32) (h c0 : Nat) (hF : tq_F I h c0) (e0 a0 : Nat) (hB : tq_B I h e0 a0) (he48 : e0 < 48) : tp_I l yL_closes wsL_closes (tp_rm 5 135) D cy n ad o [.int (nI h), .ref (ad (3)), .ref (ad (4)), .ref (ad (5 + h)), .ref (ad (7 + h)), .ref (ad (2))] I (tp_paym I (9 + 15 * h) a0 e0) (tl_cls I h a0 e0) := by
  obtain ⟨⟨hh, ha8, he8, he, ha⟩, hA13, hd6, hd7, hd8, hd01, hd0, hdm⟩ := id hB
  obtain ⟨hO3, hO4⟩ := tq_open hF hB
  have hOw : 0 ≤ (tp_owed I (9 + 15 * h) (tp_open I (9 + 15 * h) a0 e0)).toInt := by unfold tp_owed; rw [hd6]; exact (tn_owed hd0 (by omega) hO3 hO4).2.2.2.1
  refine tp_ofI (lv := [(0, .int (nI h)), (1, .ref (ad (3))), (2, .ref (ad (4))), (3, .ref (ad (5 + h))), (4, .ref (ad (7 + h))), (5, .ref (ad (2)))]) (by decide) rfl (Nat.le_of_ble_eq_true rfl) rfl (fun p e s m args below meth c A ls S0 => ?_)
  obtain ⟨hx, hb, hr, hml, hown, hts, hlocks, hA, hK, hP, hD, hS, hl⟩ := S0
  refine lv_iload_n hx hb dL_closes_0 rfl (lv_at hl 0 rfl) ?_
  refine lv_aload_n hx hb dL_closes_1 rfl (lv_at hl 1 rfl) ?_
  refine lv_aload_n hx hb dL_closes_2 rfl (lv_at hl 2 rfl) ?_
  refine lv_aload_n hx hb dL_closes_3 rfl (lv_at hl 3 rfl) ?_
  refine lv_aload hx hb dL_closes_4 (lv_at hl 5 rfl) ?_
  refine tp_callS ⟨hx, hb, hml, hown, hts⟩ (lf_pays l D cy n ad o I h c0 hF e0 a0 hB he48) (va_cwS 5 hts gL_closes_L_pays rfl rfl rfl (by decide +kernel) ⟨Nat.le_of_ble_eq_true rfl, Nat.le_of_ble_eq_true rfl⟩) hK hP hD hS hA rfl hl.1 rfl (Nat.le_of_ble_eq_true rfl) dL_closes_6 ⟨Nat.zero_le _, Nat.zero_le _⟩ (fun I9 e9 H locs hP hD hS => ?_)
  subst e9
  refine lv_istore (lv' := [(6, .int (tp_paym I (9 + 15 * h) a0 e0)), (0, .int (nI h)), (1, .ref (ad (3))), (2, .ref (ad (4))), (3, .ref (ad (5 + h))), (4, .ref (ad (7 + h))), (5, .ref (ad (2)))]) hx hb dL_closes_9 hl (by decide) rfl (fun ls hl => ?_)
  refine lv_iload_n hx hb dL_closes_11 rfl (lv_at hl 1 rfl) ?_
  refine lv_iload_n hx hb dL_closes_12 rfl (lv_at hl 1 rfl) ?_
  refine lv_aload_n hx hb dL_closes_13 rfl (lv_at hl 2 rfl) ?_
  refine lv_aload_n hx hb dL_closes_14 rfl (lv_at hl 3 rfl) ?_
  refine lv_aload_n hx hb dL_closes_15 rfl (lv_at hl 4 rfl) ?_
  refine lv_aload hx hb dL_closes_16 (lv_at hl 6 rfl) ?_
  refine tp_callS ⟨hx, hb, hml, hown, hts⟩ (lf_open l D cy n ad o I h c0 hF e0 a0 hB) (va_cwS 5 hts gL_closes_L_open rfl rfl rfl (by decide +kernel) ⟨Nat.le_of_ble_eq_true rfl, Nat.le_of_ble_eq_true rfl⟩) hK hP hD hS hA rfl hl.1 rfl (Nat.le_of_ble_eq_true rfl) dL_closes_18 ⟨Nat.zero_le _, Nat.zero_le _⟩ (fun I9 e9 H locs hP hD hS => ?_)
  subst e9
  refine lv_aload hx hb dL_closes_21 (lv_at hl 6 rfl) ?_
  refine tp_callS ⟨hx, hb, hml, hown, hts⟩ (lf_debtThen l D cy n ad o I h e0 a0 hB (tp_open I (9 + 15 * h) a0 e0) hO3 hO4) (va_cwS 3 hts gL_closes_L_debtThen rfl rfl rfl (by decide +kernel) ⟨Nat.le_of_ble_eq_true rfl, Nat.le_of_ble_eq_true rfl⟩) hK hP hD hS hA rfl hl.1 rfl (Nat.le_of_ble_eq_true rfl) dL_closes_23 ⟨Nat.zero_le _, Nat.zero_le _⟩ (fun I9 e9 H locs hP hD hS => ?_)
  subst e9
  refine lv_istore (lv' := [(7, .int (tp_owed I (9 + 15 * h) (tp_open I (9 + 15 * h) a0 e0))), (6, .int (tp_paym I (9 + 15 * h) a0 e0)), (0, .int (nI h)), (1, .ref (ad (3))), (2, .ref (ad (4))), (3, .ref (ad (5 + h))), (4, .ref (ad (7 + h))), (5, .ref (ad (2)))]) hx hb dL_closes_26 hl (by decide) rfl (fun ls hl => ?_)
  refine lv_iload_n hx hb dL_closes_28 rfl (lv_at hl 2 rfl) ?_
  refine lv_iload hx hb dL_closes_29 (lv_at hl 0 rfl) ?_
  refine lv_iload_n hx hb dL_closes_31 rfl (lv_at hl 2 rfl) ?_
  refine lv_aload hx hb dL_closes_32 (lv_at hl 7 rfl) ?_
  refine lv_iconst (v := 0) hx hb dL_closes_34 (by decide) ?_
  refine tp_iald hx hb hK hP (2) 12 (0) (by omega) rfl (by decide) (by decide) (by decide) dL_closes_35 ?_
  refine tp_eqi (y := nI e0) he ?_
  refine lv_aload_n hx hb dL_closes_36 rfl (lv_at hl 3 rfl) ?_
  refine lv_aload_n hx hb dL_closes_37 rfl (lv_at hl 4 rfl) ?_
  refine lv_aload hx hb dL_closes_38 (lv_at hl 7 rfl) ?_
  refine tp_callS ⟨hx, hb, hml, hown, hts⟩ (lf_due l D cy n ad o I h c0 hF e0 (by omega)) (va_cwS 5 hts gL_closes_L_due rfl rfl rfl (by decide +kernel) ⟨Nat.le_of_ble_eq_true rfl, Nat.le_of_ble_eq_true rfl⟩) hK hP hD hS hA rfl hl.1 rfl (Nat.le_of_ble_eq_true rfl) dL_closes_40 ⟨Nat.zero_le _, Nat.zero_le _⟩ (fun I9 e9 H locs hP hD hS => ?_)
  subst e9
  refine lv_aload_n hx hb dL_closes_43 rfl (lv_at hl 3 rfl) ?_
  refine lv_aload_n hx hb dL_closes_44 rfl (lv_at hl 4 rfl) ?_
  refine lv_aload hx hb dL_closes_45 (lv_at hl 7 rfl) ?_
  refine tp_callS ⟨hx, hb, hml, hown, hts⟩ (lf_recovers l D cy n ad o I h c0 hF e0 a0 hB he48 (tp_owed I (9 + 15 * h) (tp_open I (9 + 15 * h) a0 e0)) hOw) (va_cwS 6 hts gL_closes_L_recovers rfl rfl rfl (by decide +kernel) ⟨Nat.le_of_ble_eq_true rfl, Nat.le_of_ble_eq_true rfl⟩) hK hP hD hS hA rfl hl.1 rfl (Nat.le_of_ble_eq_true rfl) dL_closes_47 ⟨Nat.zero_le _, Nat.zero_le _⟩ (fun I9 e9 H locs hP hD hS => ?_)
  subst e9
  refine lv_istore (lv' := [(8, .int (tp_rec I (9 + 15 * h) e0 (tp_owed I (9 + 15 * h) (tp_open I (9 + 15 * h) a0 e0)))), (7, .int (tp_owed I (9 + 15 * h) (tp_open I (9 + 15 * h) a0 e0))), (6, .int (tp_paym I (9 + 15 * h) a0 e0)), (0, .int (nI h)), (1, .ref (ad (3))), (2, .ref (ad (4))), (3, .ref (ad (5 + h))), (4, .ref (ad (7 + h))), (5, .ref (ad (2)))]) hx hb dL_closes_50 hl (by decide) rfl (fun ls hl => ?_)
  refine lv_aload hx hb dL_closes_52 (lv_at hl 8 rfl) ?_
  refine lv_bipush (v := 6) hx hb dL_closes_54 (by decide) ?_
  refine lv_iload_n hx hb dL_closes_56 rfl (lv_at hl 3 rfl) ?_
  refine lv_iadd hx hb dL_closes_57 ?_
  refine tp_eqi (y := nI (6 + h)) (nI_add 6 h) ?_
  refine lv_iload hx hb dL_closes_58 (lv_at hl 1 rfl) ?_
  refine lv_iload hx hb dL_closes_60 (lv_at hl 0 rfl) ?_
  refine lv_isub hx hb dL_closes_62 ?_
  refine tp_iast hx hb hK hP hD hS (2) 12 ((6 + h)) (by omega) (fun _ => rfl) rfl (by omega) (by decide) dL_closes_63 (fun H locs hP hD hS => ?_)
  refine lv_aload hx hb dL_closes_64 (lv_at hl 8 rfl) ?_
  refine lv_bipush (v := 8) hx hb dL_closes_66 (by decide) ?_
  refine lv_iload_n hx hb dL_closes_68 rfl (lv_at hl 3 rfl) ?_
  refine lv_iadd hx hb dL_closes_69 ?_
  refine tp_eqi (y := nI (8 + h)) (nI_add 8 h) ?_
  refine lv_dup2_11 hx hb dL_closes_70 rfl rfl ?_
  refine tp_iald hx hb hK hP (2) 12 ((8 + h)) (by omega) rfl rfl (by omega) (by decide) dL_closes_71 ?_
  refine tp_eqi (y := (I 2 (8 + h))) (tp_u_n (by omega)) ?_
  refine lv_iload hx hb dL_closes_72 (lv_at hl 0 rfl) ?_
  refine lv_iadd hx hb dL_closes_74 ?_
  refine tp_iast hx hb hK hP hD hS (2) 12 ((8 + h)) (by omega) (fun _ => rfl) rfl (by omega) (by decide) dL_closes_75 (fun H locs hP hD hS => ?_)
  have hP : va_P D vwCl (tp_w cy n ad (tl_J2 I h a0 e0) o) H := hP
  have hD : va_D A (tp_w cy n ad (tl_J2 I h a0 e0) o) := hD
  refine lv_aload hx hb dL_closes_76 (lv_at hl 7 rfl) ?_
  refine lv_aload hx hb dL_closes_78 (lv_at hl 8 rfl) ?_
  refine lv_iconst (v := 0) hx hb dL_closes_80 (by decide) ?_
  refine tp_iald hx hb hK hP (2) 12 (0) (by omega) rfl (by decide) (by decide) (by decide) dL_closes_81 ?_
  refine tp_eqi (y := (nI e0)) (by rw [tl_J2_n (by omega) (by omega), he]) ?_
  refine lv_iload hx hb dL_closes_82 (lv_at hl 2 rfl) ?_
  refine tp_iast hx hb hK hP hD hS (7 + h) 48 (e0) (by omega) (fun I => tl_cP (I := I) hh) rfl (by omega) (by decide) dL_closes_84 (fun H locs hP hD hS => ?_)
  have hP : va_P D vwCl (tp_w cy n ad (tl_J3 I h a0 e0) o) H := hP
  have hD : va_D A (tp_w cy n ad (tl_J3 I h a0 e0) o) := hD
  refine lv_aload hx hb dL_closes_85 (lv_at hl 8 rfl) ?_
  refine lv_iconst (v := 4) hx hb dL_closes_87 (by decide) ?_
  refine lv_iload_n hx hb dL_closes_88 rfl (lv_at hl 3 rfl) ?_
  refine lv_iadd hx hb dL_closes_89 ?_
  refine tp_eqi (y := nI (4 + h)) (nI_add 4 h) ?_
  refine tp_iald hx hb hK hP (2) 12 ((4 + h)) (by omega) rfl rfl (by omega) (by decide) dL_closes_90 ?_
  refine tp_eqi (y := (nI a0)) (by rw [tl_J3_n (by omega) (by omega), ha]) ?_
  refine lv_istore (lv' := [(9, .int (nI a0)), (8, .int (tp_rec I (9 + 15 * h) e0 (tp_owed I (9 + 15 * h) (tp_open I (9 + 15 * h) a0 e0)))), (7, .int (tp_owed I (9 + 15 * h) (tp_open I (9 + 15 * h) a0 e0))), (6, .int (tp_paym I (9 + 15 * h) a0 e0)), (0, .int (nI h)), (1, .ref (ad (3))), (2, .ref (ad (4))), (3, .ref (ad (5 + h))), (4, .ref (ad (7 + h))), (5, .ref (ad (2)))]) hx hb dL_closes_91 hl (by decide) rfl (fun ls hl => ?_)
  have hl : lv_has ls 10 [(9, .int (nI (a0 + 0))), (6, .int (tp_paym I (9 + 15 * h) a0 e0)), (0, .int (nI h)), (1, .ref (ad (3))), (2, .ref (ad (4))), (3, .ref (ad (5 + h))), (4, .ref (ad (7 + h))), (5, .ref (ad (2)))] := lv_sub hl [0, 3, 4, 5, 6, 7, 8, 9] rfl
  rw [← tp_fill_0 (I := tl_J3 I h a0 e0) (c := 5 + h) (lo := a0) (g := (fun s => tp_due I (9 + 15 * h) (a0 + s)))] at hP hD
  refine tp_for (nL := 10) (e0 + 1 - a0) (fun t => tp_fill (tl_J3 I h a0 e0) (5 + h) a0 (fun s => tp_due I (9 + 15 * h) (a0 + s)) t) (fun t => [(9, .int (nI (a0 + t))), (6, .int (tp_paym I (9 + 15 * h) a0 e0)), (0, .int (nI h)), (1, .ref (ad (3))), (2, .ref (ad (4))), (3, .ref (ad (5 + h))), (4, .ref (ad (7 + h))), (5, .ref (ad (2)))]) (fun t ht ls H locs hl hP hD hS ih => ?_) (fun ls H locs hl hP hD hS => ?_) hl hP hD hS
  · refine lv_iload hx hb dL_closes_93 (lv_at hl 0 rfl) ?_
    refine lv_aload hx hb dL_closes_95 (lv_at hl 7 rfl) ?_
    refine lv_iconst (v := 0) hx hb dL_closes_97 (by decide) ?_
    refine tp_iald hx hb hK hP (2) 12 (0) (by omega) rfl (by decide) (by decide) (by decide) dL_closes_98 ?_
    refine tp_eqi (y := (nI e0)) (by rw [tl_Jt_n (by omega) (by omega), he]) ?_
    refine lv_icmp_gt (tgt := 122) hx hb dL_closes_99 (by decide) (fun c99_1 => ?_) (fun c99_1 => ?_)
    · exact absurd c99_1 (nI_nlt (by omega) (by omega))
    · have hFt : tq_F (tp_fill (tl_J3 I h a0 e0) (5 + h) a0 (fun s => tp_due I (9 + 15 * h) (a0 + s)) t) h c0 := tq_F_cong hF (tl_Jt_n (by omega) (by omega)) (tl_Jt_oth (by omega) (by omega) (by omega)) (tl_Jt_oth (by omega) (by omega) (by omega)) (fun j _ _ => tl_Jt_oth (by omega) (by omega) (by omega))
      refine lv_aload_n hx hb dL_closes_102 rfl (lv_at hl 5 rfl) ?_
      refine lv_iload hx hb dL_closes_103 (lv_at hl 0 rfl) ?_
      refine lv_iload_n hx hb dL_closes_105 rfl (lv_at hl 2 rfl) ?_
      refine lv_iload hx hb dL_closes_106 (lv_at hl 0 rfl) ?_
      refine lv_aload_n hx hb dL_closes_108 rfl (lv_at hl 3 rfl) ?_
      refine lv_aload_n hx hb dL_closes_109 rfl (lv_at hl 4 rfl) ?_
      refine lv_aload hx hb dL_closes_110 (lv_at hl 7 rfl) ?_
      refine tp_callS ⟨hx, hb, hml, hown, hts⟩ (lf_due l D cy n ad o (tp_fill (tl_J3 I h a0 e0) (5 + h) a0 (fun s => tp_due I (9 + 15 * h) (a0 + s)) t) h c0 hFt (a0 + t) (by omega)) (va_cwS 5 hts gL_closes_L_due rfl rfl rfl (by decide +kernel) ⟨Nat.le_of_ble_eq_true rfl, Nat.le_of_ble_eq_true rfl⟩) hK hP hD hS hA rfl hl.1 rfl (Nat.le_of_ble_eq_true rfl) dL_closes_112 ⟨Nat.zero_le _, Nat.zero_le _⟩ (fun I9 e9 H locs hP hD hS => ?_)
      subst e9
      refine tp_eqi (y := (tp_due I (9 + 15 * h) (a0 + t))) (tp_due_cong (fun f _ => tl_Jt_oth (by omega) (by omega) (by omega))) ?_
      refine tp_iast hx hb hK hP hD hS (5 + h) 48 ((a0 + t)) (by omega) (fun I => tl_cA (I := I) hh) rfl (by omega) (by decide) dL_closes_115 (fun H locs hP hD hS => ?_)
      rw [tp_fill_s rfl] at hP hD
      refine lv_iinc (v := (nI ((a0 + t) + 1))) (lv' := [(9, .int (nI ((a0 + t) + 1))), (6, .int (tp_paym I (9 + 15 * h) a0 e0)), (0, .int (nI h)), (1, .ref (ad (3))), (2, .ref (ad (4))), (3, .ref (ad (5 + h))), (4, .ref (ad (7 + h))), (5, .ref (ad (2)))]) hx hb dL_closes_116 hl (k := 0) rfl (nI_1 _) (by decide) rfl (fun ls hl => ?_)
      refine lv_goto (tgt := 93) hx hb dL_closes_119 (by decide) ?_
      exact ih ls H locs (lv_sub hl [0, 1, 2, 3, 4, 5, 6, 7] rfl) hP hD hS
  · refine lv_iload hx hb dL_closes_93 (lv_at hl 0 rfl) ?_
    refine lv_aload hx hb dL_closes_95 (lv_at hl 7 rfl) ?_
    refine lv_iconst (v := 0) hx hb dL_closes_97 (by decide) ?_
    refine tp_iald hx hb hK hP (2) 12 (0) (by omega) rfl (by decide) (by decide) (by decide) dL_closes_98 ?_
    refine tp_eqi (y := (nI e0)) (by rw [tl_Jt_n (by omega) (by omega), he]) ?_
    refine lv_icmp_gt (tgt := 122) hx hb dL_closes_99 (by decide) (fun c99_2 => ?_) (fun c99_2 => ?_)
    · refine lv_iload hx hb dL_closes_122 (lv_at hl 1 rfl) ?_
      exact tp_reti hx hb hr hlocks hK hP hD hS rfl rfl rfl dL_closes_124
    · exact absurd (nI_lt (by omega) (by omega)) c99_2
