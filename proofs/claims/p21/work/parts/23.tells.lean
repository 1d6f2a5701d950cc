/-! THE LAW TELLS A CHANGE -/
def tl_k9 (z : Int32) : Nat := tl_low (tl_shr z 2) 9
def tl_tf (z : Int32) : Nat := if tl_k9 z ≤ 4 then tl_k9 z else 3
def tl_d1 (z : Int32) (e : Nat) : Nat := if tl_low (tl_shr z 14) 3 = 0 then tl_low (tl_shr z 5) 1440 else tl_low (tl_shr z 5) (30 * e + 45)
def tl_td (z : Int32) (e : Nat) : Nat := if tl_d1 z e ≤ 1439 then tl_d1 z e else 1439
def tl_w (z : Int32) (k a b : Nat) : Nat := if tl_low (tl_shr z 15) k = 0 then a else b
def tl_tv (z : Int32) : Nat := if tl_tf z = 0 then 1 + tl_low (tl_shr z 8) 2 else if tl_tf z = 1 then tl_low (tl_shr z 8) 10 else if tl_tf z = 2 then tl_low (tl_shr z 6) (tl_w z 3 1000001 70000) else if tl_tf z = 3 then tl_low (tl_shr z 6) (tl_w z 5 1000001 90000) else tl_low (tl_shr z 4) (tl_w z 5 10000001 1700000)
def tl_r1 (d : Nat) : Nat := if d % 30 ≤ 14 then 0 else 1
theorem tl_w_pos {z : Int32} {k a b : Nat} (ha : 0 < a) (hb : 0 < b) : 0 < tl_w z k a b := by
  unfold tl_w
  split <;> omega
theorem tl_w_lt {z : Int32} {k a b N : Nat} (ha : a < N) (hb : b < N) : tl_w z k a b < N := by
  unfold tl_w
  split <;> omega
theorem tl_wa {z : Int32} {k a b : Nat} (hk : k < 100) (h0 : 0 < k) (c : nI (tl_low (tl_shr z 15) k) = 0) : nI a = nI (tl_w z k a b) := by
  have hl := tl_low_lt (x := tl_shr z 15) h0
  unfold tl_w
  rw [if_pos (tp_nIj (b := 0) c (by omega) (by decide))]
theorem tl_wb {z : Int32} {k a b : Nat} (c : ¬ nI (tl_low (tl_shr z 15) k) = 0) : nI b = nI (tl_w z k a b) := by
  unfold tl_w
  rw [if_neg (fun q => c (by rw [q]; decide))]
theorem tl_k9_lt (z : Int32) : tl_k9 z < 9 := tl_low_lt (by decide)
theorem tl_tf_lt (z : Int32) : tl_tf z < 5 := by
  unfold tl_tf
  split <;> omega
theorem tl_tfa {z : Int32} (c : nI (tl_k9 z) ≤ 4) : nI (tl_k9 z) = nI (tl_tf z) := by
  have := tl_k9_lt z
  unfold tl_tf
  rw [if_pos ((nI_leI (b := 4) (by omega) (by decide)).mp c)]
theorem tl_tfb {z : Int32} (c : ¬ nI (tl_k9 z) ≤ 4) : (3 : Int32) = nI (tl_tf z) := by
  have := tl_k9_lt z
  unfold tl_tf
  rw [if_neg (fun q => c (nI_le (b := 4) q (by decide)))]
  rfl
theorem tl_d1_lt {z : Int32} {e : Nat} (he : e ≤ 48) : tl_d1 z e < 1500 := by
  have h1 := tl_low_lt (x := tl_shr z 5) (k := 1440) (by decide)
  have h2 := tl_low_lt (x := tl_shr z 5) (k := 30 * e + 45) (by omega)
  unfold tl_d1
  split <;> omega
theorem tl_td_lt {z : Int32} {e : Nat} : tl_td z e < 1440 := by
  unfold tl_td
  split <;> omega
theorem tl_d1a {z : Int32} {e : Nat} (c : nI (tl_low (tl_shr z 14) 3) = 0) : nI (tl_low (tl_shr z 5) 1440) = nI (tl_d1 z e) := by
  have hl := tl_low_lt (x := tl_shr z 14) (k := 3) (by decide)
  unfold tl_d1
  rw [if_pos (tp_nIj (b := 0) c (by omega) (by decide))]
theorem tl_d1b {z : Int32} {e : Nat} (c : ¬ nI (tl_low (tl_shr z 14) 3) = 0) : nI (tl_low (tl_shr z 5) (30 * e + 45)) = nI (tl_d1 z e) := by
  unfold tl_d1
  rw [if_neg (fun q => c (by rw [q]; decide))]
theorem tl_tda {z : Int32} {e : Nat} (he : e ≤ 48) (c : nI (tl_d1 z e) ≤ 1439) : nI (tl_d1 z e) = nI (tl_td z e) := by
  have := tl_d1_lt (z := z) he
  unfold tl_td
  rw [if_pos ((nI_leI (b := 1439) (by omega) (by decide)).mp c)]
theorem tl_tdb {z : Int32} {e : Nat} (c : ¬ nI (tl_d1 z e) ≤ 1439) : (1439 : Int32) = nI (tl_td z e) := by
  unfold tl_td
  rw [if_neg (fun q => c (nI_le (b := 1439) q (by decide)))]
  rfl
theorem tl_fe {z : Int32} {k : Nat} (hk : k < 9) : nI (tl_tf z) = nI k ↔ tl_tf z = k := nI_eq (by have := tl_tf_lt z; omega) (by omega)
theorem tl_v0a {z : Int32} (c : nI (tl_tf z) = 0) : nI (1 + tl_low (tl_shr z 8) 2) = nI (tl_tv z) := by
  unfold tl_tv
  rw [if_pos ((tl_fe (k := 0) (by decide)).mp c)]
theorem tl_v1a {z : Int32} (c : ¬ nI (tl_tf z) = 0) (c1 : nI (tl_tf z) = 1) : nI (tl_low (tl_shr z 8) 10) = nI (tl_tv z) := by
  unfold tl_tv
  rw [if_neg (fun q => c ((tl_fe (k := 0) (by decide)).mpr q)), if_pos ((tl_fe (k := 1) (by decide)).mp c1)]
theorem tl_v2a {z : Int32} (c : ¬ nI (tl_tf z) = 0) (c1 : ¬ nI (tl_tf z) = 1) (c2 : nI (tl_tf z) = 2) : nI (tl_low (tl_shr z 6) (tl_w z 3 1000001 70000)) = nI (tl_tv z) := by
  unfold tl_tv
  rw [if_neg (fun q => c ((tl_fe (k := 0) (by decide)).mpr q)), if_neg (fun q => c1 ((tl_fe (k := 1) (by decide)).mpr q)), if_pos ((tl_fe (k := 2) (by decide)).mp c2)]
theorem tl_v3a {z : Int32} (c : ¬ nI (tl_tf z) = 0) (c1 : ¬ nI (tl_tf z) = 1) (c2 : ¬ nI (tl_tf z) = 2) (c3 : nI (tl_tf z) = 3) : nI (tl_low (tl_shr z 6) (tl_w z 5 1000001 90000)) = nI (tl_tv z) := by
  unfold tl_tv
  rw [if_neg (fun q => c ((tl_fe (k := 0) (by decide)).mpr q)), if_neg (fun q => c1 ((tl_fe (k := 1) (by decide)).mpr q)), if_neg (fun q => c2 ((tl_fe (k := 2) (by decide)).mpr q)), if_pos ((tl_fe (k := 3) (by decide)).mp c3)]
theorem tl_v4a {z : Int32} (c : ¬ nI (tl_tf z) = 0) (c1 : ¬ nI (tl_tf z) = 1) (c2 : ¬ nI (tl_tf z) = 2) (c3 : ¬ nI (tl_tf z) = 3) : nI (tl_low (tl_shr z 4) (tl_w z 5 10000001 1700000)) = nI (tl_tv z) := by
  unfold tl_tv
  rw [if_neg (fun q => c ((tl_fe (k := 0) (by decide)).mpr q)), if_neg (fun q => c1 ((tl_fe (k := 1) (by decide)).mpr q)), if_neg (fun q => c2 ((tl_fe (k := 2) (by decide)).mpr q)), if_neg (fun q => c3 ((tl_fe (k := 3) (by decide)).mpr q))]
theorem tl_low_w {x z : Int32} {k a b N : Nat} (ha : 0 < a) (hb : 0 < b) (haN : a ≤ N + 1) (hbN : b ≤ N + 1) : tl_low x (tl_w z k a b) ≤ N := by
  have h1 := tl_low_lt (x := x) (tl_w_pos (z := z) (k := k) ha hb)
  have h2 : tl_w z k a b ≤ N + 1 := by
    unfold tl_w
    split <;> omega
  omega
theorem tl_range {x : Int32} {f N : Nat} {v L : Nat} (hN : tp_vm f = nI N) (hL : tp_vl f = nI L) (h31 : N < 2 ^ 31) (h1 : L ≤ v) (h2 : v ≤ N) (hx : x = nI v) : ¬ x < tp_vl f ∧ x ≤ tp_vm f := by
  rw [hx, hN, hL]
  exact ⟨nI_nlt h1 (by omega), nI_le h2 h31⟩
theorem tl_tv_ok (z : Int32) : ¬ nI (tl_tv z) < tp_vl (tl_tf z) ∧ nI (tl_tv z) ≤ tp_vm (tl_tf z) := by
  have hf := tl_tf_lt z
  generalize hv : tl_tv z = v
  unfold tl_tv at hv
  generalize tl_tf z = f at hf hv
  rcases (show f = 0 ∨ f = 1 ∨ f = 2 ∨ f = 3 ∨ f = 4 by omega) with rfl | rfl | rfl | rfl | rfl
  · rw [if_pos rfl] at hv
    have h1 := tl_low_lt (x := tl_shr z 8) (k := 2) (by decide)
    exact tl_range (N := 2) (L := 1) rfl rfl (by decide) (by omega) (by omega) rfl
  · rw [if_neg (by decide), if_pos rfl] at hv
    have h1 := tl_low_lt (x := tl_shr z 8) (k := 10) (by decide)
    exact tl_range (N := 9) (L := 0) rfl rfl (by decide) (by omega) (by omega) rfl
  · rw [if_neg (by decide), if_neg (by decide), if_pos rfl] at hv
    have h1 := tl_low_w (x := tl_shr z 6) (z := z) (k := 3) (a := 1000001) (b := 70000) (N := 1000000) (by decide) (by decide) (by decide) (by decide)
    exact tl_range (N := 1000000) (L := 0) rfl rfl (by decide) (by omega) (by omega) rfl
  · rw [if_neg (by decide), if_neg (by decide), if_neg (by decide), if_pos rfl] at hv
    have h1 := tl_low_w (x := tl_shr z 6) (z := z) (k := 5) (a := 1000001) (b := 90000) (N := 1000000) (by decide) (by decide) (by decide) (by decide)
    exact tl_range (N := 1000000) (L := 0) rfl rfl (by decide) (by omega) (by omega) rfl
  · rw [if_neg (by decide), if_neg (by decide), if_neg (by decide), if_neg (by decide)] at hv
    have h1 := tl_low_w (x := tl_shr z 4) (z := z) (k := 5) (a := 10000001) (b := 1700000) (N := 10000000) (by decide) (by decide) (by decide) (by decide)
    exact tl_range (N := 10000000) (L := 0) rfl rfl (by decide) (by omega) (by omega) rfl
theorem tl_r1a {d : Nat} (c : nI (d % 30) ≤ 14) : (0 : Int32) = nI (tl_r1 d) := by
  unfold tl_r1
  rw [if_pos ((nI_leI (b := 14) (by omega) (by decide)).mp c)]
  rfl
theorem tl_r1b {d : Nat} (c : ¬ nI (d % 30) ≤ 14) : (1 : Int32) = nI (tl_r1 d) := by
  unfold tl_r1
  rw [if_neg (fun q => c (nI_le (b := 14) q (by decide)))]
  rfl
theorem tl_r2 (d : Nat) : d / 30 + tl_r1 d = tp_r0 d := by
  unfold tl_r1 tp_r0
  by_cases q : d % 30 ≤ 14
  · rw [if_pos q, if_neg (by omega)]
    rfl
  · rw [if_neg q, if_pos (by omega)]
/-- a change entered in the law's list -/
def tl_ent (I : Nat → Nat → Int32) (c x : Nat) (v : Int32) : Nat → Nat → Int32 := tp_u (tp_u (tp_u I 3 c (nI x)) 4 c v) 2 2 (nI (c + 1))
theorem tl_ent_oth {I : Nat → Nat → Int32} {c x k : Nat} {v : Int32} (h2 : k ≠ 2) (h3 : k ≠ 3) (h4 : k ≠ 4) : tl_ent I c x v k = I k := by
  unfold tl_ent
  rw [tp_u_oth h2, tp_u_oth h4, tp_u_oth h3]
set_option maxHeartbeats 4000000 in
set_option maxRecDepth 100000 in
/-- tells -/
theorem lf_tells (l : Launch) (D : va_G) (cy : Nat → ClassId) (n : Nat) (ad : Nat → Nat) (o : Int64) (I : Nat → Nat → Int32) (sa : Nat → Nat) (tL tM : Nat) (hlt : l.stackTraces = false) (z : Int32) (e0 c0 : Nat) (hn0 : 0 < n) (hn2 : n ≤ 2) (h21 : I 2 1 = nI n) (he : I 2 0 = nI e0) (he8 : e0 ≤ 48) (hc0 : I 2 2 = nI c0) (hc64 : c0 < 64) (h100 : I (9 + 15 * tl_low z n) 2 < 100) (z0 : Nat) (hz1 : tp_r0 (tl_td z e0) ≤ z0) (hz2 : z0 ≤ 48) (hz3 : ∀ m, tp_r0 (tl_td z e0) ≤ m → m < z0 → I (9 + 15 * tl_low z n + 8 + tl_tf z) m ≤ nI (tp_r0 (tl_td z e0))) (hz4 : z0 = 48 ∨ ¬ I (9 + 15 * tl_low z n + 8 + tl_tf z) z0 ≤ nI (tp_r0 (tl_td z e0))) : tp_IE l yL_tells wsL_tells (tp_rm 3 76) D cy n ad o sa tL tM [.ref (ad (0)), .int z, .ref (ad (3)), .ref (ad (4)), .ref (ad (2))] I (1) (tp_chg (tl_ent I c0 (16 * tp_r0 (tl_td z e0) + 8 * tl_low z n + tl_tf z) (nI (tl_tv z))) (9 + 15 * tl_low z n) (tl_tf z) (tp_r0 (tl_td z e0)) (nI (tl_tv z)) (z0 - tp_r0 (tl_td z e0))) := by
  have hn6 : n ≤ 6 := by omega
  refine tp_ofIE (lv := [(0, .ref (ad (0))), (1, .int z), (2, .ref (ad (3))), (3, .ref (ad (4))), (4, .ref (ad (2)))]) (by decide) rfl (Nat.le_of_ble_eq_true rfl) rfl (fun p e s m args below meth c A ls S0 hE => ?_)
  obtain ⟨hx, hb, hr, hml, hown, hts, hlocks, hA, hK, hP, hD, hS, hl⟩ := S0
  obtain ⟨-, ⟨hEL, hEM⟩, -, hEw, -, hEa, hEo⟩ := id hE
  refine lv_iload_n hx hb dL_tells_0 rfl (lv_at hl 1 rfl) ?_
  refine lv_aload hx hb dL_tells_1 (lv_at hl 4 rfl) ?_
  refine lv_iconst (v := 1) hx hb dL_tells_3 (by decide) ?_
  refine tp_iald hx hb hK hP (2) 12 (1) (by omega) rfl (by decide) (by decide) (by decide) dL_tells_4 ?_
  refine tp_eqi (y := nI n) h21 ?_
  refine tp_callS ⟨hx, hb, hml, hown, hts⟩ (lf_low l D cy n ad o I z n (by omega) (by omega)) (va_cwS 2 hts gL_tells_L_low rfl rfl rfl (by decide +kernel) ⟨Nat.le_of_ble_eq_true rfl, Nat.le_of_ble_eq_true rfl⟩) hK hP hD hS hA rfl hl.1 rfl (Nat.le_of_ble_eq_true rfl) dL_tells_5 ⟨Nat.zero_le _, Nat.zero_le _⟩ (fun I9 e9 H locs hP hD hS => ?_)
  subst e9
  refine lv_istore (lv' := [(5, .int (nI (tl_low z n))), (0, .ref (ad (0))), (1, .int z), (2, .ref (ad (3))), (3, .ref (ad (4))), (4, .ref (ad (2)))]) hx hb dL_tells_8 hl (by decide) rfl (fun ls hl => ?_)
  refine lv_iload_n hx hb dL_tells_10 rfl (lv_at hl 2 rfl) ?_
  refine lv_iconst (v := 2) hx hb dL_tells_11 (by decide) ?_
  refine lv_ishr hx hb dL_tells_12 ?_
  refine tp_eqi (y := tl_shr z 2) rfl ?_
  refine lv_bipush (v := 9) hx hb dL_tells_13 (by decide) ?_
  refine tp_callS ⟨hx, hb, hml, hown, hts⟩ (lf_low l D cy n ad o I (tl_shr z 2) 9 (by decide) (by decide)) (va_cwS 2 hts gL_tells_L_low rfl rfl rfl (by decide +kernel) ⟨Nat.le_of_ble_eq_true rfl, Nat.le_of_ble_eq_true rfl⟩) hK hP hD hS hA rfl hl.1 rfl (Nat.le_of_ble_eq_true rfl) dL_tells_15 ⟨Nat.zero_le _, Nat.zero_le _⟩ (fun I9 e9 H locs hP hD hS => ?_)
  subst e9
  refine tp_eqi (y := (nI (tl_k9 z))) rfl ?_
  refine lv_istore (lv' := [(6, .int (nI (tl_k9 z))), (5, .int (nI (tl_low z n))), (0, .ref (ad (0))), (1, .int z), (2, .ref (ad (3))), (3, .ref (ad (4))), (4, .ref (ad (2)))]) hx hb dL_tells_18 hl (by decide) rfl (fun ls hl => ?_)
  refine tp_meetH (D := D) (cy := cy) (n := n) (ad := ad) (I := I) (o := o) (A := A) (H0 := s.heap) (nI (tl_tf z) : Int32) (fun y => F0 m 32 ls (.int y :: [])) (fun hj32 => ?_) (fun H locs hP hD hS => ?_)
  · refine lv_iload hx hb dL_tells_20 (lv_at hl 0 rfl) ?_
    refine lv_iconst (v := 4) hx hb dL_tells_22 (by decide) ?_
    refine lv_icmp_le (tgt := 30) hx hb dL_tells_23 (by decide) (fun c23_1 => ?_) (fun c23_1 => ?_)
    · refine lv_iload hx hb dL_tells_30 (lv_at hl 0 rfl) ?_
      exact hj32 _ (tl_tfa c23_1) _ _ hP hD hS
    · refine lv_iconst (v := 3) hx hb dL_tells_26 (by decide) ?_
      refine lv_goto (tgt := 32) hx hb dL_tells_27 (by decide) ?_
      exact hj32 _ (tl_tfb c23_1) _ _ hP hD hS
  refine lv_istore (lv' := [(6, .int (nI (tl_tf z))), (5, .int (nI (tl_low z n))), (0, .ref (ad (0))), (1, .int z), (2, .ref (ad (3))), (3, .ref (ad (4))), (4, .ref (ad (2)))]) hx hb dL_tells_32 hl (by decide) rfl (fun ls hl => ?_)
  refine tp_meetH (D := D) (cy := cy) (n := n) (ad := ad) (I := I) (o := o) (A := A) (H0 := s.heap) (nI (tl_d1 z e0) : Int32) (fun y => F0 m 73 ls (.int y :: [])) (fun hj73 => ?_) (fun H locs hP hD hS => ?_)
  · refine lv_iload_n hx hb dL_tells_34 rfl (lv_at hl 3 rfl) ?_
    refine lv_bipush (v := 14) hx hb dL_tells_35 (by decide) ?_
    refine lv_ishr hx hb dL_tells_37 ?_
    refine tp_eqi (y := tl_shr z 14) rfl ?_
    refine lv_iconst (v := 3) hx hb dL_tells_38 (by decide) ?_
    refine tp_callS ⟨hx, hb, hml, hown, hts⟩ (lf_low l D cy n ad o I (tl_shr z 14) 3 (by decide) (by decide)) (va_cwS 2 hts gL_tells_L_low rfl rfl rfl (by decide +kernel) ⟨Nat.le_of_ble_eq_true rfl, Nat.le_of_ble_eq_true rfl⟩) hK hP hD hS hA rfl hl.1 rfl (Nat.le_of_ble_eq_true rfl) dL_tells_39 ⟨Nat.zero_le _, Nat.zero_le _⟩ (fun I9 e9 H locs hP hD hS => ?_)
    subst e9
    refine lv_if_ne (tgt := 57) hx hb dL_tells_42 (by decide) (fun c42_2 => ?_) (fun c42_2 => ?_)
    · refine lv_iload_n hx hb dL_tells_57 rfl (lv_at hl 3 rfl) ?_
      refine lv_iconst (v := 5) hx hb dL_tells_58 (by decide) ?_
      refine lv_ishr hx hb dL_tells_59 ?_
      refine tp_eqi (y := tl_shr z 5) rfl ?_
      refine lv_bipush (v := 30) hx hb dL_tells_60 (by decide) ?_
      refine lv_aload hx hb dL_tells_62 (lv_at hl 6 rfl) ?_
      refine lv_iconst (v := 0) hx hb dL_tells_64 (by decide) ?_
      refine tp_iald hx hb hK hP (2) 12 (0) (by omega) rfl (by decide) (by decide) (by decide) dL_tells_65 ?_
      refine tp_eqi (y := nI e0) he ?_
      refine lv_imul hx hb dL_tells_66 ?_
      refine tp_eqi (y := nI (30 * e0)) (pk_mul 30 e0) ?_
      refine lv_bipush (v := 45) hx hb dL_tells_67 (by decide) ?_
      refine lv_iadd hx hb dL_tells_69 ?_
      refine tp_eqi (y := nI ((30 * e0) + 45)) (nI_add (30 * e0) 45) ?_
      refine tp_callS ⟨hx, hb, hml, hown, hts⟩ (lf_low l D cy n ad o I (tl_shr z 5) ((30 * e0) + 45) (by omega) (by omega)) (va_cwS 2 hts gL_tells_L_low rfl rfl rfl (by decide +kernel) ⟨Nat.le_of_ble_eq_true rfl, Nat.le_of_ble_eq_true rfl⟩) hK hP hD hS hA rfl hl.1 rfl (Nat.le_of_ble_eq_true rfl) dL_tells_70 ⟨Nat.zero_le _, Nat.zero_le _⟩ (fun I9 e9 H locs hP hD hS => ?_)
      subst e9
      exact hj73 _ (tl_d1b c42_2) _ _ hP hD hS
    · refine lv_iload_n hx hb dL_tells_45 rfl (lv_at hl 3 rfl) ?_
      refine lv_iconst (v := 5) hx hb dL_tells_46 (by decide) ?_
      refine lv_ishr hx hb dL_tells_47 ?_
      refine tp_eqi (y := tl_shr z 5) rfl ?_
      refine lv_sipush (v := 1440) hx hb dL_tells_48 (by decide) ?_
      refine tp_callS ⟨hx, hb, hml, hown, hts⟩ (lf_low l D cy n ad o I (tl_shr z 5) 1440 (by decide) (by decide)) (va_cwS 2 hts gL_tells_L_low rfl rfl rfl (by decide +kernel) ⟨Nat.le_of_ble_eq_true rfl, Nat.le_of_ble_eq_true rfl⟩) hK hP hD hS hA rfl hl.1 rfl (Nat.le_of_ble_eq_true rfl) dL_tells_51 ⟨Nat.zero_le _, Nat.zero_le _⟩ (fun I9 e9 H locs hP hD hS => ?_)
      subst e9
      refine lv_goto (tgt := 73) hx hb dL_tells_54 (by decide) ?_
      exact hj73 _ (tl_d1a c42_2) _ _ hP hD hS
  refine lv_istore (lv' := [(7, .int (nI (tl_d1 z e0))), (6, .int (nI (tl_tf z))), (5, .int (nI (tl_low z n))), (0, .ref (ad (0))), (1, .int z), (2, .ref (ad (3))), (3, .ref (ad (4))), (4, .ref (ad (2)))]) hx hb dL_tells_73 hl (by decide) rfl (fun ls hl => ?_)
  refine tp_meetH (D := D) (cy := cy) (n := n) (ad := ad) (I := I) (o := o) (A := A) (H0 := s.heap) (nI (tl_td z e0) : Int32) (fun y => F0 m 91 ls (.int y :: [])) (fun hj91 => ?_) (fun H locs hP hD hS => ?_)
  · refine lv_iload hx hb dL_tells_75 (lv_at hl 0 rfl) ?_
    refine lv_sipush (v := 1439) hx hb dL_tells_77 (by decide) ?_
    refine lv_icmp_le (tgt := 89) hx hb dL_tells_80 (by decide) (fun c80_3 => ?_) (fun c80_3 => ?_)
    · refine lv_iload hx hb dL_tells_89 (lv_at hl 0 rfl) ?_
      exact hj91 _ (tl_tda he8 c80_3) _ _ hP hD hS
    · refine lv_sipush (v := 1439) hx hb dL_tells_83 (by decide) ?_
      refine lv_goto (tgt := 91) hx hb dL_tells_86 (by decide) ?_
      exact hj91 _ (tl_tdb c80_3) _ _ hP hD hS
  refine lv_istore (lv' := [(7, .int (nI (tl_td z e0))), (6, .int (nI (tl_tf z))), (5, .int (nI (tl_low z n))), (0, .ref (ad (0))), (1, .int z), (2, .ref (ad (3))), (3, .ref (ad (4))), (4, .ref (ad (2)))]) hx hb dL_tells_91 hl (by decide) rfl (fun ls hl => ?_)
  refine tp_meetH (D := D) (cy := cy) (n := n) (ad := ad) (I := I) (o := o) (A := A) (H0 := s.heap) (nI (tl_tv z) : Int32) (fun y => F0 m 221 ls [.int y]) (fun hj221 => ?_) (fun H locs hP hD hS => ?_)
  · refine lv_iload hx hb dL_tells_93 (lv_at hl 1 rfl) ?_
    refine lv_if_ne (tgt := 111) hx hb dL_tells_95 (by decide) (fun c95_4 => ?_) (fun c95_4 => ?_)
    · refine lv_iload hx hb dL_tells_111 (lv_at hl 1 rfl) ?_
      refine lv_iconst (v := 1) hx hb dL_tells_113 (by decide) ?_
      refine lv_icmp_ne (tgt := 129) hx hb dL_tells_114 (by decide) (fun c114_5 => ?_) (fun c114_5 => ?_)
      · refine lv_iload hx hb dL_tells_129 (lv_at hl 1 rfl) ?_
        refine lv_iconst (v := 2) hx hb dL_tells_131 (by decide) ?_
        refine lv_icmp_ne (tgt := 163) hx hb dL_tells_132 (by decide) (fun c132_6 => ?_) (fun c132_6 => ?_)
        · refine lv_iload hx hb dL_tells_163 (lv_at hl 1 rfl) ?_
          refine lv_iconst (v := 3) hx hb dL_tells_165 (by decide) ?_
          refine lv_icmp_ne (tgt := 197) hx hb dL_tells_166 (by decide) (fun c166_7 => ?_) (fun c166_7 => ?_)
          · refine lv_iload_n hx hb dL_tells_197 rfl (lv_at hl 4 rfl) ?_
            refine lv_iconst (v := 4) hx hb dL_tells_198 (by decide) ?_
            refine lv_ishr hx hb dL_tells_199 ?_
            refine tp_eqi (y := tl_shr z 4) rfl ?_
            refine tp_meetH (D := D) (cy := cy) (n := n) (ad := ad) (I := I) (o := o) (A := A) (H0 := s.heap) (nI (tl_w z 5 10000001 1700000) : Int32) (fun y => F0 m 218 ls (.int y :: [.int (tl_shr z 4)])) (fun hj218 => ?_) (fun H locs hP hD hS => ?_)
            · refine lv_iload_n hx hb dL_tells_200 rfl (lv_at hl 4 rfl) ?_
              refine lv_bipush (v := 15) hx hb dL_tells_201 (by decide) ?_
              refine lv_ishr hx hb dL_tells_203 ?_
              refine tp_eqi (y := tl_shr z 15) rfl ?_
              refine lv_iconst (v := 5) hx hb dL_tells_204 (by decide) ?_
              refine tp_callS ⟨hx, hb, hml, hown, hts⟩ (lf_low l D cy n ad o I (tl_shr z 15) 5 (by decide) (by decide)) (va_cwS 2 hts gL_tells_L_low rfl rfl rfl (by decide +kernel) ⟨Nat.le_of_ble_eq_true rfl, Nat.le_of_ble_eq_true rfl⟩) hK hP hD hS hA rfl hl.1 rfl (Nat.le_of_ble_eq_true rfl) dL_tells_205 ⟨Nat.zero_le _, Nat.zero_le _⟩ (fun I9 e9 H locs hP hD hS => ?_)
              subst e9
              refine lv_if_ne (tgt := 216) hx hb dL_tells_208 (by decide) (fun c208_8 => ?_) (fun c208_8 => ?_)
              · refine lv_ldc (v := 1700000) hx hb hown (hts _ (List.mem_of_getElem? (i := 5) rfl)) dL_tells_216 ?_
                exact hj218 _ (tl_wb c208_8) _ _ hP hD hS
              · refine lv_ldc (v := 10000001) hx hb hown (hts _ (List.mem_of_getElem? (i := 4) rfl)) dL_tells_211 ?_
                refine lv_goto (tgt := 218) hx hb dL_tells_213 (by decide) ?_
                exact hj218 _ (tl_wa (by decide) (by decide) c208_8) _ _ hP hD hS
            refine tp_callS ⟨hx, hb, hml, hown, hts⟩ (lf_low l D cy n ad o I (tl_shr z 4) (tl_w z 5 10000001 1700000) (tl_w_pos (by decide) (by decide)) (tl_w_lt (by decide) (by decide))) (va_cwS 2 hts gL_tells_L_low rfl rfl rfl (by decide +kernel) ⟨Nat.le_of_ble_eq_true rfl, Nat.le_of_ble_eq_true rfl⟩) hK hP hD hS hA rfl hl.1 rfl (Nat.le_of_ble_eq_true rfl) dL_tells_218 ⟨Nat.zero_le _, Nat.zero_le _⟩ (fun I9 e9 H locs hP hD hS => ?_)
            subst e9
            exact hj221 _ (tl_v4a c95_4 c114_5 c132_6 c166_7) _ _ hP hD hS
          · refine lv_iload_n hx hb dL_tells_169 rfl (lv_at hl 4 rfl) ?_
            refine lv_bipush (v := 6) hx hb dL_tells_170 (by decide) ?_
            refine lv_ishr hx hb dL_tells_172 ?_
            refine tp_eqi (y := tl_shr z 6) rfl ?_
            refine tp_meetH (D := D) (cy := cy) (n := n) (ad := ad) (I := I) (o := o) (A := A) (H0 := s.heap) (nI (tl_w z 5 1000001 90000) : Int32) (fun y => F0 m 191 ls (.int y :: [.int (tl_shr z 6)])) (fun hj191 => ?_) (fun H locs hP hD hS => ?_)
            · refine lv_iload_n hx hb dL_tells_173 rfl (lv_at hl 4 rfl) ?_
              refine lv_bipush (v := 15) hx hb dL_tells_174 (by decide) ?_
              refine lv_ishr hx hb dL_tells_176 ?_
              refine tp_eqi (y := tl_shr z 15) rfl ?_
              refine lv_iconst (v := 5) hx hb dL_tells_177 (by decide) ?_
              refine tp_callS ⟨hx, hb, hml, hown, hts⟩ (lf_low l D cy n ad o I (tl_shr z 15) 5 (by decide) (by decide)) (va_cwS 2 hts gL_tells_L_low rfl rfl rfl (by decide +kernel) ⟨Nat.le_of_ble_eq_true rfl, Nat.le_of_ble_eq_true rfl⟩) hK hP hD hS hA rfl hl.1 rfl (Nat.le_of_ble_eq_true rfl) dL_tells_178 ⟨Nat.zero_le _, Nat.zero_le _⟩ (fun I9 e9 H locs hP hD hS => ?_)
              subst e9
              refine lv_if_ne (tgt := 189) hx hb dL_tells_181 (by decide) (fun c181_8 => ?_) (fun c181_8 => ?_)
              · refine lv_ldc (v := 90000) hx hb hown (hts _ (List.mem_of_getElem? (i := 3) rfl)) dL_tells_189 ?_
                exact hj191 _ (tl_wb c181_8) _ _ hP hD hS
              · refine lv_ldc (v := 1000001) hx hb hown (hts _ (List.mem_of_getElem? (i := 1) rfl)) dL_tells_184 ?_
                refine lv_goto (tgt := 191) hx hb dL_tells_186 (by decide) ?_
                exact hj191 _ (tl_wa (by decide) (by decide) c181_8) _ _ hP hD hS
            refine tp_callS ⟨hx, hb, hml, hown, hts⟩ (lf_low l D cy n ad o I (tl_shr z 6) (tl_w z 5 1000001 90000) (tl_w_pos (by decide) (by decide)) (tl_w_lt (by decide) (by decide))) (va_cwS 2 hts gL_tells_L_low rfl rfl rfl (by decide +kernel) ⟨Nat.le_of_ble_eq_true rfl, Nat.le_of_ble_eq_true rfl⟩) hK hP hD hS hA rfl hl.1 rfl (Nat.le_of_ble_eq_true rfl) dL_tells_191 ⟨Nat.zero_le _, Nat.zero_le _⟩ (fun I9 e9 H locs hP hD hS => ?_)
            subst e9
            refine lv_goto (tgt := 221) hx hb dL_tells_194 (by decide) ?_
            exact hj221 _ (tl_v3a c95_4 c114_5 c132_6 c166_7) _ _ hP hD hS
        · refine lv_iload_n hx hb dL_tells_135 rfl (lv_at hl 4 rfl) ?_
          refine lv_bipush (v := 6) hx hb dL_tells_136 (by decide) ?_
          refine lv_ishr hx hb dL_tells_138 ?_
          refine tp_eqi (y := tl_shr z 6) rfl ?_
          refine tp_meetH (D := D) (cy := cy) (n := n) (ad := ad) (I := I) (o := o) (A := A) (H0 := s.heap) (nI (tl_w z 3 1000001 70000) : Int32) (fun y => F0 m 157 ls (.int y :: [.int (tl_shr z 6)])) (fun hj157 => ?_) (fun H locs hP hD hS => ?_)
          · refine lv_iload_n hx hb dL_tells_139 rfl (lv_at hl 4 rfl) ?_
            refine lv_bipush (v := 15) hx hb dL_tells_140 (by decide) ?_
            refine lv_ishr hx hb dL_tells_142 ?_
            refine tp_eqi (y := tl_shr z 15) rfl ?_
            refine lv_iconst (v := 3) hx hb dL_tells_143 (by decide) ?_
            refine tp_callS ⟨hx, hb, hml, hown, hts⟩ (lf_low l D cy n ad o I (tl_shr z 15) 3 (by decide) (by decide)) (va_cwS 2 hts gL_tells_L_low rfl rfl rfl (by decide +kernel) ⟨Nat.le_of_ble_eq_true rfl, Nat.le_of_ble_eq_true rfl⟩) hK hP hD hS hA rfl hl.1 rfl (Nat.le_of_ble_eq_true rfl) dL_tells_144 ⟨Nat.zero_le _, Nat.zero_le _⟩ (fun I9 e9 H locs hP hD hS => ?_)
            subst e9
            refine lv_if_ne (tgt := 155) hx hb dL_tells_147 (by decide) (fun c147_7 => ?_) (fun c147_7 => ?_)
            · refine lv_ldc (v := 70000) hx hb hown (hts _ (List.mem_of_getElem? (i := 2) rfl)) dL_tells_155 ?_
              exact hj157 _ (tl_wb c147_7) _ _ hP hD hS
            · refine lv_ldc (v := 1000001) hx hb hown (hts _ (List.mem_of_getElem? (i := 1) rfl)) dL_tells_150 ?_
              refine lv_goto (tgt := 157) hx hb dL_tells_152 (by decide) ?_
              exact hj157 _ (tl_wa (by decide) (by decide) c147_7) _ _ hP hD hS
          refine tp_callS ⟨hx, hb, hml, hown, hts⟩ (lf_low l D cy n ad o I (tl_shr z 6) (tl_w z 3 1000001 70000) (tl_w_pos (by decide) (by decide)) (tl_w_lt (by decide) (by decide))) (va_cwS 2 hts gL_tells_L_low rfl rfl rfl (by decide +kernel) ⟨Nat.le_of_ble_eq_true rfl, Nat.le_of_ble_eq_true rfl⟩) hK hP hD hS hA rfl hl.1 rfl (Nat.le_of_ble_eq_true rfl) dL_tells_157 ⟨Nat.zero_le _, Nat.zero_le _⟩ (fun I9 e9 H locs hP hD hS => ?_)
          subst e9
          refine lv_goto (tgt := 221) hx hb dL_tells_160 (by decide) ?_
          exact hj221 _ (tl_v2a c95_4 c114_5 c132_6) _ _ hP hD hS
      · refine lv_iload_n hx hb dL_tells_117 rfl (lv_at hl 4 rfl) ?_
        refine lv_bipush (v := 8) hx hb dL_tells_118 (by decide) ?_
        refine lv_ishr hx hb dL_tells_120 ?_
        refine tp_eqi (y := tl_shr z 8) rfl ?_
        refine lv_bipush (v := 10) hx hb dL_tells_121 (by decide) ?_
        refine tp_callS ⟨hx, hb, hml, hown, hts⟩ (lf_low l D cy n ad o I (tl_shr z 8) 10 (by decide) (by decide)) (va_cwS 2 hts gL_tells_L_low rfl rfl rfl (by decide +kernel) ⟨Nat.le_of_ble_eq_true rfl, Nat.le_of_ble_eq_true rfl⟩) hK hP hD hS hA rfl hl.1 rfl (Nat.le_of_ble_eq_true rfl) dL_tells_123 ⟨Nat.zero_le _, Nat.zero_le _⟩ (fun I9 e9 H locs hP hD hS => ?_)
        subst e9
        refine lv_goto (tgt := 221) hx hb dL_tells_126 (by decide) ?_
        exact hj221 _ (tl_v1a c95_4 c114_5) _ _ hP hD hS
    · refine lv_iconst (v := 1) hx hb dL_tells_98 (by decide) ?_
      refine lv_iload_n hx hb dL_tells_99 rfl (lv_at hl 4 rfl) ?_
      refine lv_bipush (v := 8) hx hb dL_tells_100 (by decide) ?_
      refine lv_ishr hx hb dL_tells_102 ?_
      refine tp_eqi (y := tl_shr z 8) rfl ?_
      refine lv_iconst (v := 2) hx hb dL_tells_103 (by decide) ?_
      refine tp_callS ⟨hx, hb, hml, hown, hts⟩ (lf_low l D cy n ad o I (tl_shr z 8) 2 (by decide) (by decide)) (va_cwS 2 hts gL_tells_L_low rfl rfl rfl (by decide +kernel) ⟨Nat.le_of_ble_eq_true rfl, Nat.le_of_ble_eq_true rfl⟩) hK hP hD hS hA rfl hl.1 rfl (Nat.le_of_ble_eq_true rfl) dL_tells_104 ⟨Nat.zero_le _, Nat.zero_le _⟩ (fun I9 e9 H locs hP hD hS => ?_)
      subst e9
      refine lv_iadd hx hb dL_tells_107 ?_
      refine tp_eqi (y := nI (1 + (tl_low (tl_shr z 8) 2))) (nI_add 1 (tl_low (tl_shr z 8) 2)) ?_
      refine lv_goto (tgt := 221) hx hb dL_tells_108 (by decide) ?_
      exact hj221 _ (tl_v0a c95_4) _ _ hP hD hS
  have hdlt := tl_td_lt (z := z) (e := e0)
  refine lv_istore (lv' := [(8, .int (nI (tl_tv z))), (7, .int (nI (tl_td z e0))), (6, .int (nI (tl_tf z))), (5, .int (nI (tl_low z n))), (0, .ref (ad (0))), (1, .int z), (2, .ref (ad (3))), (3, .ref (ad (4))), (4, .ref (ad (2)))]) hx hb dL_tells_221 hl (by decide) rfl (fun ls hl => ?_)
  refine lv_iload hx hb dL_tells_223 (lv_at hl 1 rfl) ?_
  refine lv_bipush (v := 30) hx hb dL_tells_225 (by decide) ?_
  refine lv_idiv hx hb dL_tells_227 (by decide) ?_
  refine tp_eqi (y := nI ((tl_td z e0) / 30)) (pk_div (d := 30) (by omega) (by decide) (by decide)) ?_
  refine tp_meetH (D := D) (cy := cy) (n := n) (ad := ad) (I := I) (o := o) (A := A) (H0 := s.heap) (nI (tl_r1 (tl_td z e0)) : Int32) (fun y => F0 m 243 ls (.int y :: [.int (nI ((tl_td z e0) / 30))])) (fun hj243 => ?_) (fun H locs hP hD hS => ?_)
  · refine lv_iload hx hb dL_tells_228 (lv_at hl 1 rfl) ?_
    refine lv_bipush (v := 30) hx hb dL_tells_230 (by decide) ?_
    refine lv_irem hx hb dL_tells_232 (by decide) ?_
    refine tp_eqi (y := nI ((tl_td z e0) % 30)) (pk_rem (d := 30) (by omega) (by decide) (by decide)) ?_
    refine lv_bipush (v := 14) hx hb dL_tells_233 (by decide) ?_
    refine lv_icmp_le (tgt := 242) hx hb dL_tells_235 (by decide) (fun c235_9 => ?_) (fun c235_9 => ?_)
    · refine lv_iconst (v := 0) hx hb dL_tells_242 (by decide) ?_
      exact hj243 _ (tl_r1a c235_9) _ _ hP hD hS
    · refine lv_iconst (v := 1) hx hb dL_tells_238 (by decide) ?_
      refine lv_goto (tgt := 243) hx hb dL_tells_239 (by decide) ?_
      exact hj243 _ (tl_r1b c235_9) _ _ hP hD hS
  refine lv_iadd hx hb dL_tells_243 ?_
  refine tp_eqi (y := nI (((tl_td z e0) / 30) + (tl_r1 (tl_td z e0)))) (nI_add ((tl_td z e0) / 30) (tl_r1 (tl_td z e0))) ?_
  refine tp_eqi (y := (nI (tp_r0 (tl_td z e0)))) (congrArg nI (tl_r2 _)) ?_
  refine lv_istore (lv' := [(9, .int (nI (tp_r0 (tl_td z e0)))), (8, .int (nI (tl_tv z))), (7, .int (nI (tl_td z e0))), (6, .int (nI (tl_tf z))), (5, .int (nI (tl_low z n))), (0, .ref (ad (0))), (1, .int z), (2, .ref (ad (3))), (3, .ref (ad (4))), (4, .ref (ad (2)))]) hx hb dL_tells_244 hl (by decide) rfl (fun ls hl => ?_)
  refine lv_aload_n hx hb dL_tells_246 rfl (lv_at hl 7 rfl) ?_
  refine lv_aload hx hb dL_tells_247 (lv_at hl 9 rfl) ?_
  refine lv_iconst (v := 2) hx hb dL_tells_249 (by decide) ?_
  refine tp_iald hx hb hK hP (2) 12 (2) (by omega) rfl (by decide) (by decide) (by decide) dL_tells_250 ?_
  refine tp_eqi (y := nI c0) hc0 ?_
  refine lv_bipush (v := 16) hx hb dL_tells_251 (by decide) ?_
  refine lv_iload hx hb dL_tells_253 (lv_at hl 0 rfl) ?_
  refine lv_imul hx hb dL_tells_255 ?_
  refine tp_eqi (y := nI (16 * (tp_r0 (tl_td z e0)))) (pk_mul 16 (tp_r0 (tl_td z e0))) ?_
  refine lv_bipush (v := 8) hx hb dL_tells_256 (by decide) ?_
  refine lv_iload hx hb dL_tells_258 (lv_at hl 4 rfl) ?_
  refine lv_imul hx hb dL_tells_260 ?_
  refine tp_eqi (y := nI (8 * (tl_low z n))) (pk_mul 8 (tl_low z n)) ?_
  refine lv_iadd hx hb dL_tells_261 ?_
  refine tp_eqi (y := nI ((16 * (tp_r0 (tl_td z e0))) + (8 * (tl_low z n)))) (nI_add (16 * (tp_r0 (tl_td z e0))) (8 * (tl_low z n))) ?_
  refine lv_iload hx hb dL_tells_262 (lv_at hl 3 rfl) ?_
  refine lv_iadd hx hb dL_tells_264 ?_
  refine tp_eqi (y := nI (((16 * (tp_r0 (tl_td z e0))) + (8 * (tl_low z n))) + (tl_tf z))) (nI_add ((16 * (tp_r0 (tl_td z e0))) + (8 * (tl_low z n))) (tl_tf z)) ?_
  refine tp_iast hx hb hK hP hD hS (3) 64 (c0) (by omega) (fun _ => rfl) rfl (by omega) (by decide) dL_tells_265 (fun H locs hP hD hS => ?_)
  refine lv_aload_n hx hb dL_tells_266 rfl (lv_at hl 8 rfl) ?_
  refine lv_aload hx hb dL_tells_267 (lv_at hl 9 rfl) ?_
  refine lv_iconst (v := 2) hx hb dL_tells_269 (by decide) ?_
  refine tp_iald hx hb hK hP (2) 12 (2) (by omega) rfl (by decide) (by decide) (by decide) dL_tells_270 ?_
  refine tp_eqi (y := (I 2 2)) rfl ?_
  refine tp_eqi (y := nI c0) hc0 ?_
  refine lv_iload hx hb dL_tells_271 (lv_at hl 1 rfl) ?_
  refine tp_iast hx hb hK hP hD hS (4) 64 (c0) (by omega) (fun _ => rfl) rfl (by omega) (by decide) dL_tells_273 (fun H locs hP hD hS => ?_)
  refine lv_aload hx hb dL_tells_274 (lv_at hl 9 rfl) ?_
  refine lv_iconst (v := 2) hx hb dL_tells_276 (by decide) ?_
  refine lv_dup2_11 hx hb dL_tells_277 rfl rfl ?_
  refine tp_iald hx hb hK hP (2) 12 (2) (by omega) rfl (by decide) (by decide) (by decide) dL_tells_278 ?_
  refine tp_eqi (y := (I 2 2)) rfl ?_
  refine tp_eqi (y := nI c0) hc0 ?_
  refine lv_iconst (v := 1) hx hb dL_tells_279 (by decide) ?_
  refine lv_iadd hx hb dL_tells_280 ?_
  refine tp_eqi (y := nI (c0 + 1)) (nI_add c0 1) ?_
  refine tp_iast hx hb hK hP hD hS (2) 12 (2) (by omega) (fun _ => rfl) (by decide) (by decide) (by decide) dL_tells_281 (fun H locs hP hD hS => ?_)
  have hP : va_P D vwCl (tp_w cy n ad (tl_ent I c0 (16 * tp_r0 (tl_td z e0) + 8 * tl_low z n + tl_tf z) (nI (tl_tv z))) o) H := hP
  have hD : va_D A (tp_w cy n ad (tl_ent I c0 (16 * tp_r0 (tl_td z e0) + 8 * tl_low z n + tl_tf z) (nI (tl_tv z))) o) := hD
  refine lv_aload_n hx hb dL_tells_282 rfl (lv_at hl 5 rfl) ?_
  refine lv_iconst (v := 1) hx hb dL_tells_283 (by decide) ?_
  refine lv_iload hx hb dL_tells_284 (lv_at hl 4 rfl) ?_
  refine lv_iload hx hb dL_tells_286 (lv_at hl 3 rfl) ?_
  refine lv_iload hx hb dL_tells_288 (lv_at hl 2 rfl) ?_
  refine lv_iload hx hb dL_tells_290 (lv_at hl 1 rfl) ?_
  have hJb : ∀ k, 9 ≤ k → (tl_ent I c0 (16 * tp_r0 (tl_td z e0) + 8 * tl_low z n + tl_tf z) (nI (tl_tv z))) k = I k := fun k hk => tl_ent_oth (by omega) (by omega) (by omega)
  obtain ⟨hv1, hv2⟩ := tl_tv_ok z
  refine tp_callL ⟨hx, hb, hml, hown, hts⟩ (lk_tell_ok l D cy n ad o (tl_ent I c0 (16 * tp_r0 (tl_td z e0) + 8 * tl_low z n + tl_tf z) (nI (tl_tv z))) sa tL tM hlt (tl_low z n) (tl_low_lt hn0) hn6 (tl_tf z) (tl_td z e0) (tl_tf_lt z) hdlt (nI (tl_tv z)) hv1 hv2 (by rw [hJb _ (by omega)]; exact h100) z0 hz1 hz2 (by rw [hJb _ (by omega)]; exact hz3) (by rw [hJb _ (by omega)]; exact hz4)) (vx_cwSW 6 hts gL_tells_L_calls rfl rfl rfl (by decide +kernel) ⟨(Nat.le_of_ble_eq_true rfl), (Nat.le_of_ble_eq_true rfl)⟩) hE hK hP hD hS hA rfl hl.1 rfl (Nat.le_of_ble_eq_true rfl) dL_tells_292 ⟨Nat.zero_le _, Nat.zero_le _⟩ (fun H locs hP hD hS => ?_)
  have e00 : (0 : Nat) + 0 = 0 := rfl
  refine lv_iload hx hb dL_tells_295 (lv_at hl 0 rfl) ?_
  refine lv_icmp_ne (tgt := 304) hx hb dL_tells_297 (by decide) (fun c => absurd rfl c) (fun _ => ?_)
  refine lv_iconst (v := 1) hx hb dL_tells_300 (by decide) ?_
  refine lv_goto (tgt := 305) hx hb dL_tells_301 (by decide) ?_
  exact tp_reti hx hb hr hlocks hK hP hD hS rfl rfl rfl dL_tells_305
