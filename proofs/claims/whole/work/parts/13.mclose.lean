set_option maxHeartbeats 4000000 in
set_option maxRecDepth 100000 in
/-- close: end -/
theorem mp_close_end (l : Launch) (D : va_G) (cy : Nat → ClassId) (n : Nat) (ad : Nat → Nat) (o : Int64) (I : Nat → Nat → Int32) (he : I 2 1 = 48) : tp_I l yX2_close wsX2_close (tp_rm 1 21) D cy n ad o [.ref (ad (2))] I (0) (tp_u (tp_u I 2 0 0) 2 0 1) := by
  refine tp_ofI (lv := [(0, .ref (ad (2)))]) (by decide) rfl (Nat.le_of_ble_eq_true rfl) rfl (fun p e s m args below meth c A ls S0 => ?_)
  obtain ⟨hx, hb, hr, hml, hown, hts, hlocks, hA, hK, hP, hD, hS, hl⟩ := S0
  refine lv_aload_n hx hb dX2_close_0 rfl (lv_at hl 0 rfl) ?_
  refine lv_iconst (v := 0) hx hb dX2_close_1 (by decide) ?_
  refine tp_put (ci := 2) (v := 0) (ty := .int) (C := RX2) (T := TX2) (N := 16) hx hb hts (fun _ h => List.mem_cons_of_mem _ (List.mem_append_right _ (h))) tyX2 tyX2_ok nmX2 hown hK hP hD hS 2 tp_e2 (by omega) rfl 0 (by decide) (hts _ (List.mem_of_getElem? (i := 1) rfl)) rfl (by decide +kernel) rfl rfl (Nat.le_of_ble_eq_true rfl) rfl dX2_close_2 (fun H locs hP hD hS => ?_)
  refine lv_aload_n hx hb dX2_close_5 rfl (lv_at hl 0 rfl) ?_
  refine va_get (D := D) (ci := 2) (v := .int (I 2 1)) (C := RX2) (T := TX2) (N := 16) hx hb hts (fun _ h => List.mem_cons_of_mem _ (List.mem_append_right _ (h))) hown hK hP 2 tp_e2 rfl 1 (by decide) (hts _ (List.mem_of_getElem? (i := 2) rfl)) (fun _ h9 => h9) rfl dX2_close_6 ?_
  refine lv_bipush (v := 48) hx hb dX2_close_9 (by decide) ?_
  refine lv_icmp_ne (tgt := 20) hx hb dX2_close_11 (by decide) (fun c11_1 => ?_) (fun c11_1 => ?_)
  · exact absurd he c11_1
  · refine lv_aload_n hx hb dX2_close_14 rfl (lv_at hl 0 rfl) ?_
    refine lv_iconst (v := 1) hx hb dX2_close_15 (by decide) ?_
    refine tp_callV ⟨hx, hb, hml, hown, hts⟩ (mc_fails l D cy n ad o (tp_u I 2 0 0) 1) (cwV 1 hts gX2_close_X2_fails rfl rfl rfl (by decide +kernel) ⟨Nat.le_of_ble_eq_true rfl, Nat.le_of_ble_eq_true rfl⟩) hK hP hD hS hA 2 2 tp_e2 rfl rfl rfl hl.1 rfl (Nat.le_of_ble_eq_true rfl) dX2_close_16 ⟨Nat.zero_le _, Nat.zero_le _⟩ (fun I9 e9 H locs hP hD hS => ?_)
    subst e9
    exact tp_reti hx hb hr hlocks hK hP hD hS rfl rfl rfl dX2_close_19
set_option maxHeartbeats 4000000 in
set_option maxRecDepth 100000 in
/-- close: ok -/
theorem mp_close_ok (l : Launch) (D : va_G) (cy : Nat → ClassId) (n : Nat) (ad : Nat → Nat) (o : Int64) (I : Nat → Nat → Int32) (aF : Nat → Nat) (n0 e0 : Nat) (hn0 : I 2 2 = nI n0) (hn6 : n0 ≤ 6) (he : I 2 1 = nI e0) (he8 : e0 < 48) (hc : ∀ h, h < n0 → tp_C I h) (ha : ∀ h, h < n0 → I 3 h = nI (aF h)) (ha8 : ∀ h, h < n0 → aF h ≤ e0) : tp_I l yX2_close wsX2_close (tp_rm 6 142) D cy n ad o [.ref (ad (2))] I (tp_clsum I aF e0 n0) (tp_u (tp_cls I aF e0 n0) 2 1 (nI (e0 + 1))) := by
  refine tp_ofI (lv := [(0, .ref (ad (2)))]) (by decide) rfl (Nat.le_of_ble_eq_true rfl) rfl (fun p e s m args below meth c A ls S0 => ?_)
  obtain ⟨hx, hb, hr, hml, hown, hts, hlocks, hA, hK, hP, hD, hS, hl⟩ := S0
  refine lv_aload_n hx hb dX2_close_0 rfl (lv_at hl 0 rfl) ?_
  refine lv_iconst (v := 0) hx hb dX2_close_1 (by decide) ?_
  refine tp_put (ci := 2) (v := 0) (ty := .int) (C := RX2) (T := TX2) (N := 16) hx hb hts (fun _ h => List.mem_cons_of_mem _ (List.mem_append_right _ (h))) tyX2 tyX2_ok nmX2 hown hK hP hD hS 2 tp_e2 (by omega) rfl 0 (by decide) (hts _ (List.mem_of_getElem? (i := 1) rfl)) rfl (by decide +kernel) rfl rfl (Nat.le_of_ble_eq_true rfl) rfl dX2_close_2 (fun H locs hP hD hS => ?_)
  refine lv_aload_n hx hb dX2_close_5 rfl (lv_at hl 0 rfl) ?_
  refine va_get (D := D) (ci := 2) (v := .int (I 2 1)) (C := RX2) (T := TX2) (N := 16) hx hb hts (fun _ h => List.mem_cons_of_mem _ (List.mem_append_right _ (h))) hown hK hP 2 tp_e2 rfl 1 (by decide) (hts _ (List.mem_of_getElem? (i := 2) rfl)) (fun _ h9 => h9) rfl dX2_close_6 ?_
  refine lv_bipush (v := 48) hx hb dX2_close_9 (by decide) ?_
  refine lv_icmp_ne (tgt := 20) hx hb dX2_close_11 (by decide) (fun c11_1 => ?_) (fun c11_1 => ?_)
  · refine lv_iconst (v := 0) hx hb dX2_close_20 (by decide) ?_
    refine lv_istore_n (lv' := [(1, .int 0), (0, .ref (ad (2)))]) hx hb dX2_close_21 rfl hl (by decide) rfl (fun ls hl => ?_)
    refine lv_iconst (v := 0) hx hb dX2_close_22 (by decide) ?_
    refine lv_istore_n (lv' := [(2, .int 0), (1, .int 0), (0, .ref (ad (2)))]) hx hb dX2_close_23 rfl hl (by decide) rfl (fun ls hl => ?_)
    have hl : lv_has ls 4 [(2, .int (nI 0)), (1, .int (tp_clsum I aF e0 0)), (0, .ref (ad (2)))] := hl
    refine tp_for (nL := 4) n0 (tp_cls I aF e0) (fun t => [(2, .int (nI t)), (1, .int (tp_clsum I aF e0 t)), (0, .ref (ad (2)))]) (fun t ht ls H locs hl hP hD hS ih => ?_) (fun ls H locs hl hP hD hS => ?_) hl hP hD hS
    · have hnJ : (tp_cls I aF e0 t) 2 2 = nI n0 := (tp_cls_keep2 (by decide) (by decide) t).trans hn0
      have heJ : (tp_cls I aF e0 t) 2 1 = nI e0 := (tp_cls_keep2 (by decide) (by decide) t).trans he
      have haJ : (tp_cls I aF e0 t) 3 t = nI (aF t) := (congrFun (tp_cls_keep (c := 3) (by decide) (by decide) (by decide) (by decide) (by decide) t) t).trans (ha t ht)
      have hcJ : tp_C (tp_cls I aF e0 t) t := by
        obtain ⟨c0, q1, q2⟩ := hc t ht
        exact ⟨c0, q1, (congrFun (tp_cls_keep (c := 4) (by decide) (by decide) (by decide) (by decide) (by decide) t) t).trans q2⟩
      have ha8t := ha8 t ht
      refine lv_iload_n hx hb dX2_close_24 rfl (lv_at hl 0 rfl) ?_
      refine lv_aload_n hx hb dX2_close_25 rfl (lv_at hl 2 rfl) ?_
      refine va_get (D := D) (ci := 2) (v := .int ((tp_cls I aF e0 t) 2 2)) (C := RX2) (T := TX2) (N := 16) hx hb hts (fun _ h => List.mem_cons_of_mem _ (List.mem_append_right _ (h))) hown hK hP 2 tp_e2 rfl 2 (by decide) (hts _ (List.mem_of_getElem? (i := 3) rfl)) (fun _ h9 => h9) rfl dX2_close_26 ?_
      refine tp_eqi (y := nI n0) hnJ ?_
      refine lv_icmp_ge (tgt := 134) hx hb dX2_close_29 (by decide) (fun c29_2 => ?_) (fun c29_2 => ?_)
      · exact absurd c29_2 (nI_ge (by omega) (by omega))
      · refine lv_aload_n hx hb dX2_close_32 rfl (lv_at hl 2 rfl) ?_
        refine lv_iload_n hx hb dX2_close_33 rfl (lv_at hl 0 rfl) ?_
        refine tp_callVv ⟨hx, hb, hml, hown, hts⟩ (mc_reckons l D cy n ad o (tp_cls I aF e0 t) t (by omega) hcJ (aF t) e0 haJ heJ (by omega) (by omega)) (cwV 1 hts gX2_close_X2_reckons rfl rfl rfl (by decide +kernel) ⟨Nat.le_of_ble_eq_true rfl, Nat.le_of_ble_eq_true rfl⟩) hK hP hD hS hA 2 2 tp_e2 rfl rfl rfl hl.1 rfl (Nat.le_of_ble_eq_true rfl) dX2_close_34 ⟨Nat.zero_le _, Nat.zero_le _⟩ (fun I9 e9 H locs hP hD hS => ?_)
        subst e9
        refine lv_aload_n hx hb dX2_close_37 rfl (lv_at hl 2 rfl) ?_
        refine va_get (D := D) (ci := 2) (v := .ref (ad (10))) (C := RX2) (T := TX2) (N := 16) hx hb hts (fun _ h => List.mem_cons_of_mem _ (List.mem_append_right _ (h))) hown hK hP 2 tp_e2 rfl 10 (by decide) (hts _ (List.mem_of_getElem? (i := 4) rfl)) (fun _ h9 => h9) rfl dX2_close_38 ?_
        refine lv_iload_n hx hb dX2_close_41 rfl (lv_at hl 0 rfl) ?_
        refine lv_aload_n hx hb dX2_close_42 rfl (lv_at hl 2 rfl) ?_
        refine va_get (D := D) (ci := 2) (v := .int (tp_rthen (tp_cls I aF e0 t) t (tp_mopen (tp_cls I aF e0 t) t (aF t) e0))) (C := RX2) (T := TX2) (N := 16) hx hb hts (fun _ h => List.mem_cons_of_mem _ (List.mem_append_right _ (h))) hown hK hP 2 tp_e2 rfl 13 (by decide) (hts _ (List.mem_of_getElem? (i := 5) rfl)) (fun _ h9 => h9) rfl dX2_close_43 ?_
        refine lv_aload_n hx hb dX2_close_46 rfl (lv_at hl 2 rfl) ?_
        refine va_get (D := D) (ci := 2) (v := .int (tp_rtaken (tp_cls I aF e0 t) t (nI e0) (tp_mopen (tp_cls I aF e0 t) t (aF t) e0))) (C := RX2) (T := TX2) (N := 16) hx hb hts (fun _ h => List.mem_cons_of_mem _ (List.mem_append_right _ (h))) hown hK hP 2 tp_e2 rfl 14 (by decide) (hts _ (List.mem_of_getElem? (i := 6) rfl)) (fun _ h9 => h9) rfl dX2_close_47 ?_
        refine lv_isub hx hb dX2_close_50 ?_
        refine tp_iast hx hb hK hP hD hS (10) 6 (t) (by omega) (fun _ => rfl) rfl (by omega) (by decide) dX2_close_51 (fun H locs hP hD hS => ?_)
        refine lv_aload_n hx hb dX2_close_52 rfl (lv_at hl 2 rfl) ?_
        refine va_get (D := D) (ci := 2) (v := .ref (ad (11))) (C := RX2) (T := TX2) (N := 16) hx hb hts (fun _ h => List.mem_cons_of_mem _ (List.mem_append_right _ (h))) hown hK hP 2 tp_e2 rfl 11 (by decide) (hts _ (List.mem_of_getElem? (i := 7) rfl)) (fun _ h9 => h9) rfl dX2_close_53 ?_
        refine lv_iload_n hx hb dX2_close_56 rfl (lv_at hl 0 rfl) ?_
        refine lv_dup2_11 hx hb dX2_close_57 rfl rfl ?_
        refine tp_iald hx hb hK hP 11 6 (t) (by omega) rfl rfl (by omega) (by decide) dX2_close_58 ?_
        refine tp_eqi (y := ((tp_cls I aF e0 t) 11 t)) rfl ?_
        refine lv_aload_n hx hb dX2_close_59 rfl (lv_at hl 2 rfl) ?_
        refine va_get (D := D) (ci := 2) (v := .int (tp_rtaken (tp_cls I aF e0 t) t (nI e0) (tp_mopen (tp_cls I aF e0 t) t (aF t) e0))) (C := RX2) (T := TX2) (N := 16) hx hb hts (fun _ h => List.mem_cons_of_mem _ (List.mem_append_right _ (h))) hown hK hP 2 tp_e2 rfl 14 (by decide) (hts _ (List.mem_of_getElem? (i := 6) rfl)) (fun _ h9 => h9) rfl dX2_close_60 ?_
        refine lv_iadd hx hb dX2_close_63 ?_
        refine tp_iast hx hb hK hP hD hS (11) 6 (t) (by omega) (fun _ => rfl) rfl (by omega) (by decide) dX2_close_64 (fun H locs hP hD hS => ?_)
        refine lv_aload_n hx hb dX2_close_65 rfl (lv_at hl 2 rfl) ?_
        refine va_get (D := D) (ci := 2) (v := .ref (ad (9))) (C := RX2) (T := TX2) (N := 16) hx hb hts (fun _ h => List.mem_cons_of_mem _ (List.mem_append_right _ (h))) hown hK hP 2 tp_e2 rfl 9 (by decide) (hts _ (List.mem_of_getElem? (i := 8) rfl)) (fun _ h9 => h9) rfl dX2_close_66 ?_
        refine lv_bipush (v := 48) hx hb dX2_close_69 (by decide) ?_
        refine lv_iload_n hx hb dX2_close_71 rfl (lv_at hl 0 rfl) ?_
        refine lv_imul hx hb dX2_close_72 ?_
        refine tp_eqi (y := nI (48 * t)) (pk_mul 48 t) ?_
        refine lv_aload_n hx hb dX2_close_73 rfl (lv_at hl 2 rfl) ?_
        refine va_get (D := D) (ci := 2) (v := .int ((tp_cls I aF e0 t) 2 1)) (C := RX2) (T := TX2) (N := 16) hx hb hts (fun _ h => List.mem_cons_of_mem _ (List.mem_append_right _ (h))) hown hK hP 2 tp_e2 rfl 1 (by decide) (hts _ (List.mem_of_getElem? (i := 2) rfl)) (fun _ h9 => h9) rfl dX2_close_74 ?_
        refine tp_eqi (y := nI e0) heJ ?_
        refine lv_iadd hx hb dX2_close_77 ?_
        refine tp_eqi (y := nI ((48 * t) + e0)) (nI_add (48 * t) e0) ?_
        refine lv_aload_n hx hb dX2_close_78 rfl (lv_at hl 2 rfl) ?_
        refine va_get (D := D) (ci := 2) (v := .int (tp_rpay (tp_cls I aF e0 t) t (nI e0) (tp_mopen (tp_cls I aF e0 t) t (aF t) e0))) (C := RX2) (T := TX2) (N := 16) hx hb hts (fun _ h => List.mem_cons_of_mem _ (List.mem_append_right _ (h))) hown hK hP 2 tp_e2 rfl 15 (by decide) (hts _ (List.mem_of_getElem? (i := 9) rfl)) (fun _ h9 => h9) rfl dX2_close_79 ?_
        refine tp_iast hx hb hK hP hD hS (9) 288 (((48 * t) + e0)) (by omega) (fun _ => rfl) rfl (by omega) (by decide) dX2_close_82 (fun H locs hP hD hS => ?_)
        refine lv_iload_n hx hb dX2_close_83 rfl (lv_at hl 1 rfl) ?_
        refine lv_aload_n hx hb dX2_close_84 rfl (lv_at hl 2 rfl) ?_
        refine va_get (D := D) (ci := 2) (v := .int (tp_rpay (tp_cls I aF e0 t) t (nI e0) (tp_mopen (tp_cls I aF e0 t) t (aF t) e0))) (C := RX2) (T := TX2) (N := 16) hx hb hts (fun _ h => List.mem_cons_of_mem _ (List.mem_append_right _ (h))) hown hK hP 2 tp_e2 rfl 15 (by decide) (hts _ (List.mem_of_getElem? (i := 9) rfl)) (fun _ h9 => h9) rfl dX2_close_85 ?_
        refine lv_iadd hx hb dX2_close_88 ?_
        refine lv_istore_n (lv' := [(1, .int ((tp_clsum I aF e0 t) + (tp_rpay (tp_cls I aF e0 t) t (nI e0) (tp_mopen (tp_cls I aF e0 t) t (aF t) e0)))), (2, .int (nI t)), (0, .ref (ad (2)))]) hx hb dX2_close_89 rfl hl (by decide) rfl (fun ls hl => ?_)
        refine lv_aload_n hx hb dX2_close_90 rfl (lv_at hl 2 rfl) ?_
        refine va_get (D := D) (ci := 2) (v := .ref (ad (3))) (C := RX2) (T := TX2) (N := 16) hx hb hts (fun _ h => List.mem_cons_of_mem _ (List.mem_append_right _ (h))) hown hK hP 2 tp_e2 rfl 3 (by decide) (hts _ (List.mem_of_getElem? (i := 10) rfl)) (fun _ h9 => h9) rfl dX2_close_91 ?_
        refine lv_iload_n hx hb dX2_close_94 rfl (lv_at hl 1 rfl) ?_
        refine tp_iald hx hb hK hP 3 6 (t) (by omega) rfl rfl (by omega) (by decide) dX2_close_95 ?_
        refine tp_eqi (y := ((tp_cls I aF e0 t) 3 t)) rfl ?_
        refine tp_eqi (y := nI (aF t)) haJ ?_
        refine lv_istore_n (lv' := [(3, .int (nI (aF t))), (1, .int ((tp_clsum I aF e0 t) + (tp_rpay (tp_cls I aF e0 t) t (nI e0) (tp_mopen (tp_cls I aF e0 t) t (aF t) e0)))), (2, .int (nI t)), (0, .ref (ad (2)))]) hx hb dX2_close_96 rfl hl (by decide) rfl (fun ls hl => ?_)
        have hl : lv_has ls 4 [(3, .int (nI (aF t + 0))), (1, .int ((tp_clsum I aF e0 t) + (tp_rpay (tp_cls I aF e0 t) t (nI e0) (tp_mopen (tp_cls I aF e0 t) t (aF t) e0)))), (2, .int (nI t)), (0, .ref (ad (2)))] := lv_sub hl [0, 1, 2, 3] rfl
        have hP : va_P D vwCl (tp_w cy n ad (tp_u (tp_u (tp_u (tp_u (tp_u (tp_u (tp_cls I aF e0 t) 2 13 (tp_rthen (tp_cls I aF e0 t) t (tp_mopen (tp_cls I aF e0 t) t (aF t) e0))) 2 14 (tp_rtaken (tp_cls I aF e0 t) t (nI e0) (tp_mopen (tp_cls I aF e0 t) t (aF t) e0))) 2 15 (tp_rpay (tp_cls I aF e0 t) t (nI e0) (tp_mopen (tp_cls I aF e0 t) t (aF t) e0))) 10 t ((tp_rthen (tp_cls I aF e0 t) t (tp_mopen (tp_cls I aF e0 t) t (aF t) e0)) - (tp_rtaken (tp_cls I aF e0 t) t (nI e0) (tp_mopen (tp_cls I aF e0 t) t (aF t) e0)))) 11 t (((tp_cls I aF e0 t) 11 t) + (tp_rtaken (tp_cls I aF e0 t) t (nI e0) (tp_mopen (tp_cls I aF e0 t) t (aF t) e0)))) 9 ((48 * t) + e0) (tp_rpay (tp_cls I aF e0 t) t (nI e0) (tp_mopen (tp_cls I aF e0 t) t (aF t) e0))) o) H := hP
        have hD : va_D A (tp_w cy n ad (tp_u (tp_u (tp_u (tp_u (tp_u (tp_u (tp_cls I aF e0 t) 2 13 (tp_rthen (tp_cls I aF e0 t) t (tp_mopen (tp_cls I aF e0 t) t (aF t) e0))) 2 14 (tp_rtaken (tp_cls I aF e0 t) t (nI e0) (tp_mopen (tp_cls I aF e0 t) t (aF t) e0))) 2 15 (tp_rpay (tp_cls I aF e0 t) t (nI e0) (tp_mopen (tp_cls I aF e0 t) t (aF t) e0))) 10 t ((tp_rthen (tp_cls I aF e0 t) t (tp_mopen (tp_cls I aF e0 t) t (aF t) e0)) - (tp_rtaken (tp_cls I aF e0 t) t (nI e0) (tp_mopen (tp_cls I aF e0 t) t (aF t) e0)))) 11 t (((tp_cls I aF e0 t) 11 t) + (tp_rtaken (tp_cls I aF e0 t) t (nI e0) (tp_mopen (tp_cls I aF e0 t) t (aF t) e0)))) 9 ((48 * t) + e0) (tp_rpay (tp_cls I aF e0 t) t (nI e0) (tp_mopen (tp_cls I aF e0 t) t (aF t) e0))) o) := hD
        rw [← tp_fill_0 (I := tp_u (tp_u (tp_u (tp_u (tp_u (tp_u (tp_cls I aF e0 t) 2 13 (tp_rthen (tp_cls I aF e0 t) t (tp_mopen (tp_cls I aF e0 t) t (aF t) e0))) 2 14 (tp_rtaken (tp_cls I aF e0 t) t (nI e0) (tp_mopen (tp_cls I aF e0 t) t (aF t) e0))) 2 15 (tp_rpay (tp_cls I aF e0 t) t (nI e0) (tp_mopen (tp_cls I aF e0 t) t (aF t) e0))) 10 t ((tp_rthen (tp_cls I aF e0 t) t (tp_mopen (tp_cls I aF e0 t) t (aF t) e0)) - (tp_rtaken (tp_cls I aF e0 t) t (nI e0) (tp_mopen (tp_cls I aF e0 t) t (aF t) e0)))) 11 t (((tp_cls I aF e0 t) 11 t) + (tp_rtaken (tp_cls I aF e0 t) t (nI e0) (tp_mopen (tp_cls I aF e0 t) t (aF t) e0)))) 9 ((48 * t) + e0) (tp_rpay (tp_cls I aF e0 t) t (nI e0) (tp_mopen (tp_cls I aF e0 t) t (aF t) e0))) (c := 8) (lo := 48 * t + aF t) (g := (fun s => tp_mdue (tp_cls I aF e0 t) t (nI (aF t + s))))] at hP hD
        refine tp_for (nL := 4) (e0 + 1 - aF t) (fun s => tp_fill (tp_u (tp_u (tp_u (tp_u (tp_u (tp_u (tp_cls I aF e0 t) 2 13 (tp_rthen (tp_cls I aF e0 t) t (tp_mopen (tp_cls I aF e0 t) t (aF t) e0))) 2 14 (tp_rtaken (tp_cls I aF e0 t) t (nI e0) (tp_mopen (tp_cls I aF e0 t) t (aF t) e0))) 2 15 (tp_rpay (tp_cls I aF e0 t) t (nI e0) (tp_mopen (tp_cls I aF e0 t) t (aF t) e0))) 10 t ((tp_rthen (tp_cls I aF e0 t) t (tp_mopen (tp_cls I aF e0 t) t (aF t) e0)) - (tp_rtaken (tp_cls I aF e0 t) t (nI e0) (tp_mopen (tp_cls I aF e0 t) t (aF t) e0)))) 11 t (((tp_cls I aF e0 t) 11 t) + (tp_rtaken (tp_cls I aF e0 t) t (nI e0) (tp_mopen (tp_cls I aF e0 t) t (aF t) e0)))) 9 ((48 * t) + e0) (tp_rpay (tp_cls I aF e0 t) t (nI e0) (tp_mopen (tp_cls I aF e0 t) t (aF t) e0))) 8 (48 * t + aF t) (fun s => tp_mdue (tp_cls I aF e0 t) t (nI (aF t + s))) s) (fun s => [(3, .int (nI (aF t + s))), (1, .int ((tp_clsum I aF e0 t) + (tp_rpay (tp_cls I aF e0 t) t (nI e0) (tp_mopen (tp_cls I aF e0 t) t (aF t) e0)))), (2, .int (nI t)), (0, .ref (ad (2)))]) (fun s hs ls H locs hl hP hD hS ih2 => ?_) (fun ls H locs hl hP hD hS => ?_) hl hP hD hS
        · refine lv_iload_n hx hb dX2_close_97 rfl (lv_at hl 0 rfl) ?_
          refine lv_aload_n hx hb dX2_close_98 rfl (lv_at hl 3 rfl) ?_
          refine va_get (D := D) (ci := 2) (v := .int ((tp_fill (tp_u (tp_u (tp_u (tp_u (tp_u (tp_u (tp_cls I aF e0 t) 2 13 (tp_rthen (tp_cls I aF e0 t) t (tp_mopen (tp_cls I aF e0 t) t (aF t) e0))) 2 14 (tp_rtaken (tp_cls I aF e0 t) t (nI e0) (tp_mopen (tp_cls I aF e0 t) t (aF t) e0))) 2 15 (tp_rpay (tp_cls I aF e0 t) t (nI e0) (tp_mopen (tp_cls I aF e0 t) t (aF t) e0))) 10 t ((tp_rthen (tp_cls I aF e0 t) t (tp_mopen (tp_cls I aF e0 t) t (aF t) e0)) - (tp_rtaken (tp_cls I aF e0 t) t (nI e0) (tp_mopen (tp_cls I aF e0 t) t (aF t) e0)))) 11 t (((tp_cls I aF e0 t) 11 t) + (tp_rtaken (tp_cls I aF e0 t) t (nI e0) (tp_mopen (tp_cls I aF e0 t) t (aF t) e0)))) 9 ((48 * t) + e0) (tp_rpay (tp_cls I aF e0 t) t (nI e0) (tp_mopen (tp_cls I aF e0 t) t (aF t) e0))) 8 (48 * t + aF t) (fun s => tp_mdue (tp_cls I aF e0 t) t (nI (aF t + s))) s) 2 1)) (C := RX2) (T := TX2) (N := 16) hx hb hts (fun _ h => List.mem_cons_of_mem _ (List.mem_append_right _ (h))) hown hK hP 2 tp_e2 rfl 1 (by decide) (hts _ (List.mem_of_getElem? (i := 2) rfl)) (fun _ h9 => h9) rfl dX2_close_99 ?_
          refine tp_eqi (y := nI e0) heJ ?_
          refine lv_icmp_gt (tgt := 128) hx hb dX2_close_102 (by decide) (fun c102_3 => ?_) (fun c102_3 => ?_)
          · exact absurd c102_3 (nI_nlt (by omega) (by omega))
          · refine lv_aload_n hx hb dX2_close_105 rfl (lv_at hl 3 rfl) ?_
            refine va_get (D := D) (ci := 2) (v := .ref (ad (8))) (C := RX2) (T := TX2) (N := 16) hx hb hts (fun _ h => List.mem_cons_of_mem _ (List.mem_append_right _ (h))) hown hK hP 2 tp_e2 rfl 8 (by decide) (hts _ (List.mem_of_getElem? (i := 11) rfl)) (fun _ h9 => h9) rfl dX2_close_106 ?_
            refine lv_bipush (v := 48) hx hb dX2_close_109 (by decide) ?_
            refine lv_iload_n hx hb dX2_close_111 rfl (lv_at hl 2 rfl) ?_
            refine lv_imul hx hb dX2_close_112 ?_
            refine tp_eqi (y := nI (48 * t)) (pk_mul 48 t) ?_
            refine lv_iload_n hx hb dX2_close_113 rfl (lv_at hl 0 rfl) ?_
            refine lv_iadd hx hb dX2_close_114 ?_
            refine tp_eqi (y := nI ((48 * t) + (aF t + s))) (nI_add (48 * t) (aF t + s)) ?_
            refine lv_aload_n hx hb dX2_close_115 rfl (lv_at hl 3 rfl) ?_
            refine lv_iload_n hx hb dX2_close_116 rfl (lv_at hl 2 rfl) ?_
            refine lv_iload_n hx hb dX2_close_117 rfl (lv_at hl 0 rfl) ?_
            refine tp_callV ⟨hx, hb, hml, hown, hts⟩ (mc_dueOf l D cy n ad o (tp_fill (tp_u (tp_u (tp_u (tp_u (tp_u (tp_u (tp_cls I aF e0 t) 2 13 (tp_rthen (tp_cls I aF e0 t) t (tp_mopen (tp_cls I aF e0 t) t (aF t) e0))) 2 14 (tp_rtaken (tp_cls I aF e0 t) t (nI e0) (tp_mopen (tp_cls I aF e0 t) t (aF t) e0))) 2 15 (tp_rpay (tp_cls I aF e0 t) t (nI e0) (tp_mopen (tp_cls I aF e0 t) t (aF t) e0))) 10 t ((tp_rthen (tp_cls I aF e0 t) t (tp_mopen (tp_cls I aF e0 t) t (aF t) e0)) - (tp_rtaken (tp_cls I aF e0 t) t (nI e0) (tp_mopen (tp_cls I aF e0 t) t (aF t) e0)))) 11 t (((tp_cls I aF e0 t) 11 t) + (tp_rtaken (tp_cls I aF e0 t) t (nI e0) (tp_mopen (tp_cls I aF e0 t) t (aF t) e0)))) 9 ((48 * t) + e0) (tp_rpay (tp_cls I aF e0 t) t (nI e0) (tp_mopen (tp_cls I aF e0 t) t (aF t) e0))) 8 (48 * t + aF t) (fun s => tp_mdue (tp_cls I aF e0 t) t (nI (aF t + s))) s) t (by omega) hcJ (nI (aF t + s))) (cwV 2 hts gX2_close_X2_dueOf rfl rfl rfl (by decide +kernel) ⟨Nat.le_of_ble_eq_true rfl, Nat.le_of_ble_eq_true rfl⟩) hK hP hD hS hA 2 2 tp_e2 rfl rfl rfl hl.1 rfl (Nat.le_of_ble_eq_true rfl) dX2_close_118 ⟨Nat.zero_le _, Nat.zero_le _⟩ (fun I9 e9 H locs hP hD hS => ?_)
            subst e9
            refine tp_eqi (y := tp_mdue (tp_cls I aF e0 t) t (nI (aF t + s))) (tp_mdue_cong rfl rfl rfl rfl) ?_
            refine tp_iast hx hb hK hP hD hS (8) 288 (((48 * t) + (aF t + s))) (by omega) (fun _ => rfl) rfl (by omega) (by decide) dX2_close_121 (fun H locs hP hD hS => ?_)
            rw [show 48 * t + (aF t + s) = 48 * t + aF t + s from by omega, tp_fill_s rfl] at hP hD
            refine lv_iinc (v := (nI ((aF t + s) + 1))) (lv' := [(3, .int (nI ((aF t + s) + 1))), (1, .int ((tp_clsum I aF e0 t) + (tp_rpay (tp_cls I aF e0 t) t (nI e0) (tp_mopen (tp_cls I aF e0 t) t (aF t) e0)))), (2, .int (nI t)), (0, .ref (ad (2)))]) hx hb dX2_close_122 hl (k := 0) rfl (nI_1 _) (by decide) rfl (fun ls hl => ?_)
            refine lv_goto (tgt := 97) hx hb dX2_close_125 (by decide) ?_
            exact ih2 ls H locs (lv_sub hl [0, 1, 2, 3] rfl) hP hD hS
        · refine lv_iload_n hx hb dX2_close_97 rfl (lv_at hl 0 rfl) ?_
          refine lv_aload_n hx hb dX2_close_98 rfl (lv_at hl 3 rfl) ?_
          refine va_get (D := D) (ci := 2) (v := .int ((tp_fill (tp_u (tp_u (tp_u (tp_u (tp_u (tp_u (tp_cls I aF e0 t) 2 13 (tp_rthen (tp_cls I aF e0 t) t (tp_mopen (tp_cls I aF e0 t) t (aF t) e0))) 2 14 (tp_rtaken (tp_cls I aF e0 t) t (nI e0) (tp_mopen (tp_cls I aF e0 t) t (aF t) e0))) 2 15 (tp_rpay (tp_cls I aF e0 t) t (nI e0) (tp_mopen (tp_cls I aF e0 t) t (aF t) e0))) 10 t ((tp_rthen (tp_cls I aF e0 t) t (tp_mopen (tp_cls I aF e0 t) t (aF t) e0)) - (tp_rtaken (tp_cls I aF e0 t) t (nI e0) (tp_mopen (tp_cls I aF e0 t) t (aF t) e0)))) 11 t (((tp_cls I aF e0 t) 11 t) + (tp_rtaken (tp_cls I aF e0 t) t (nI e0) (tp_mopen (tp_cls I aF e0 t) t (aF t) e0)))) 9 ((48 * t) + e0) (tp_rpay (tp_cls I aF e0 t) t (nI e0) (tp_mopen (tp_cls I aF e0 t) t (aF t) e0))) 8 (48 * t + aF t) (fun s => tp_mdue (tp_cls I aF e0 t) t (nI (aF t + s))) (e0 + 1 - aF t)) 2 1)) (C := RX2) (T := TX2) (N := 16) hx hb hts (fun _ h => List.mem_cons_of_mem _ (List.mem_append_right _ (h))) hown hK hP 2 tp_e2 rfl 1 (by decide) (hts _ (List.mem_of_getElem? (i := 2) rfl)) (fun _ h9 => h9) rfl dX2_close_99 ?_
          refine tp_eqi (y := nI e0) heJ ?_
          refine lv_icmp_gt (tgt := 128) hx hb dX2_close_102 (by decide) (fun c102_4 => ?_) (fun c102_4 => ?_)
          · refine lv_iinc (v := (nI (t + 1))) (lv' := [(2, .int (nI (t + 1))), (3, .int (nI (aF t + (e0 + 1 - aF t)))), (1, .int ((tp_clsum I aF e0 t) + (tp_rpay (tp_cls I aF e0 t) t (nI e0) (tp_mopen (tp_cls I aF e0 t) t (aF t) e0)))), (0, .ref (ad (2)))]) hx hb dX2_close_128 hl (k := 2) rfl (nI_1 _) (by decide) rfl (fun ls hl => ?_)
            refine lv_goto (tgt := 24) hx hb dX2_close_131 (by decide) ?_
            exact ih ls H locs (lv_sub hl [0, 2, 3] rfl) hP hD hS
          · exact absurd (nI_lt (by omega) (by omega)) c102_4
    · refine lv_iload_n hx hb dX2_close_24 rfl (lv_at hl 0 rfl) ?_
      refine lv_aload_n hx hb dX2_close_25 rfl (lv_at hl 2 rfl) ?_
      refine va_get (D := D) (ci := 2) (v := .int ((tp_cls I aF e0 n0) 2 2)) (C := RX2) (T := TX2) (N := 16) hx hb hts (fun _ h => List.mem_cons_of_mem _ (List.mem_append_right _ (h))) hown hK hP 2 tp_e2 rfl 2 (by decide) (hts _ (List.mem_of_getElem? (i := 3) rfl)) (fun _ h9 => h9) rfl dX2_close_26 ?_
      refine tp_eqi (y := nI n0) ((tp_cls_keep2 (by decide) (by decide) n0).trans hn0) ?_
      refine lv_icmp_ge (tgt := 134) hx hb dX2_close_29 (by decide) (fun c29_5 => ?_) (fun c29_5 => ?_)
      · refine lv_aload_n hx hb dX2_close_134 rfl (lv_at hl 2 rfl) ?_
        refine lv_dup hx hb dX2_close_135 rfl ?_
        refine va_get (D := D) (ci := 2) (v := .int ((tp_cls I aF e0 n0) 2 1)) (C := RX2) (T := TX2) (N := 16) hx hb hts (fun _ h => List.mem_cons_of_mem _ (List.mem_append_right _ (h))) hown hK hP 2 tp_e2 rfl 1 (by decide) (hts _ (List.mem_of_getElem? (i := 2) rfl)) (fun _ h9 => h9) rfl dX2_close_136 ?_
        refine tp_eqi (y := nI e0) ((tp_cls_keep2 (by decide) (by decide) n0).trans he) ?_
        refine lv_iconst (v := 1) hx hb dX2_close_139 (by decide) ?_
        refine lv_iadd hx hb dX2_close_140 ?_
        refine tp_eqi (y := nI (e0 + 1)) (nI_add e0 1) ?_
        refine tp_put (ci := 2) (v := (nI (e0 + 1))) (ty := .int) (C := RX2) (T := TX2) (N := 16) hx hb hts (fun _ h => List.mem_cons_of_mem _ (List.mem_append_right _ (h))) tyX2 tyX2_ok nmX2 hown hK hP hD hS 2 tp_e2 (by omega) rfl 1 (by decide) (hts _ (List.mem_of_getElem? (i := 2) rfl)) rfl (by decide +kernel) rfl rfl (Nat.le_of_ble_eq_true rfl) rfl dX2_close_141 (fun H locs hP hD hS => ?_)
        refine lv_iload_n hx hb dX2_close_144 rfl (lv_at hl 1 rfl) ?_
        exact tp_reti hx hb hr hlocks hK hP hD hS rfl rfl rfl dX2_close_145
      · exact absurd (nI_le (by omega) (by omega)) c29_5
  · exact absurd ((he.symm.trans c11_1 : nI e0 = nI 48)) (fun z => absurd ((nI_eq (by omega) (by decide)).mp z) (by omega))
