/-! THE LAW'S CASE OF ADD, GROWING -/
theorem tp_nIj {a b : Nat} (h : nI a = nI b) (ha : a < 2 ^ 31) (hb : b < 2 ^ 31) : a = b := by
  have h2 := congrArg Int32.toNatClampNeg h
  rwa [nI_clamp ha, nI_clamp hb] at h2
set_option maxHeartbeats 4000000 in
set_option maxRecDepth 100000 in
/-- the case of add, where it grows -/
theorem lc_add_ok (l : Launch) {p : Program} {e : Env} {s : State} {m : MethodId} {below : List Frame} {meth : Method} {c : Code} {b L i : Nat} {xs : Nat → Int32} (C0 : tp_CX p s m meth c b L xs) {D : va_G} {cy : Nat → ClassId} {n : Nat} {ad : Nat → Nat} {I : Nat → Nat → Int32} {o : Int64} {sa : Nat → Nat} {tL tM : Nat} {H : Heap} {locs : List Loc} {cells slots : Nat} {Q : State → Prop} {ls : Array Slot}
    (hE : tp_EV sa tL tM (tp_Al s) s s.heap) (hK : va_K D vwCl (tp_ty cy) s) (hW0 : tp_Wd D cy n ad I o s H locs) (hcs : cells + 100 ≤ 601024 ∧ slots + 1000 ≤ 7293034) (hl : lv_has ls 7 (tp_lv b ad i)) {e0 : Nat} (hn6 : n < 6) (h01 : I 0 1 = nI n) (h22 : I 2 2 = nI n) (h02 : I 0 2 = nI e0) (h21 : I 2 1 = nI e0) (he8 : e0 < 48)
    (kk : ∀ (ad2 : Nat → Nat) (H1 : Heap) (locs1 : List Loc) (ls1 : Array Slot), tp_Wd D cy (n + 1) ad2 (tp_u (tp_u (tp_u (tp_u (tp_gI n I (nI e0)) 0 1 (nI (n + 1))) 2 0 0) 3 n (nI e0)) 2 2 (nI (n + 1))) (nI n).toInt64 s H1 locs1 → lv_has ls1 7 (tp_lv b ad2 i) → W p l e room_1 s m #[Value.ref b] below meth c H1 locs1 (cells + 15) (slots + 595) Q (F0 m 1201 ls1 [])) : W p l e room_1 s m #[Value.ref b] below meth c H locs cells slots Q (F0 m 124 ls []) := by
  obtain ⟨hx, hb, hml, hown, hts, hX, hbl⟩ := C0
  obtain ⟨hP, hD, hS⟩ := hW0
  have hA : ∀ q : Nat, s.heap.size ≤ q → tp_Al s q := fun q h => h
  change lv_has ls 7 [(4, .int (nI i)), (3, .ref (ad 13)), (2, .ref (ad 2)), (1, .ref (ad 0)), (0, .ref b)] at hl
  refine lv_aload_n hx hb dL_law_124 rfl (lv_at hl 3 rfl) ?_
  refine lv_aload_n hx hb dL_law_125 rfl (lv_at hl 1 rfl) ?_
  have hF := tp_fr hD hS hA
  refine va_calli (vx_runSW (As := [.ref (ad 0), .ref (ad 13)]) (rest := []) ⟨hx, hb, hml, hown, hts⟩ (lp_add_ok l D cy n ad o I sa tL tM e0 hn6 h01 h02 he8 H.size) (vx_cwSW 2 hts gL_law_L_add rfl rfl rfl (by decide +kernel) ⟨(Nat.le_of_ble_eq_true rfl), (Nat.le_of_ble_eq_true rfl)⟩) ⟨tp_blindE, fun U hU hW => ⟨rfl, ⟨by rw [hU], by rw [hU]; exact hP, va_K.moved hW.alike hK, hD.weaken (fun _ _ _ _ => trivial)⟩, tp_EV.go hE hW hU hS hF⟩⟩ rfl rfl hl.1 rfl (Nat.zero_le _) dL_law_126 ⟨Nat.le_trans (by omega : cells + 15 ≤ cells + 100) hcs.1, Nat.le_trans (by omega : slots + 595 ≤ slots + 1000) hcs.2⟩) hS (fun q _ h => hF q h) hF (fun r1 u t H locs ht hvm hw hB hz1 hk1 hS => ?_)
  obtain ⟨rfl, hu⟩ := hw
  obtain ⟨hP, hK1, hD1⟩ := hB
  rw [ht] at hP
  have hD := hD1.weaken (B := tp_Al s) (fun _ _ _ h => hF _ h)
  rw [← hu 0 (by omega), ← hu 2 (by omega), ← hu 13 (by omega)] at hl
  refine lv_istore (lv' := (5, .int 0) :: tp_lv b u i) hx hb dL_law_129 hl (by decide) rfl (fun ls hl => ?_)
  refine lv_aload_n hx hb dL_law_131 rfl (lv_at hl 3 rfl) ?_
  have e22 : tp_u (tp_gI n I (nI e0)) 0 1 (nI (n + 1)) 2 2 = nI n := by rw [tp_u_oth (by decide), tp_gI_lo (by omega), h22]
  have e21 : tp_u (tp_gI n I (nI e0)) 0 1 (nI (n + 1)) 2 1 = nI e0 := by rw [tp_u_oth (by decide), tp_gI_lo (by omega), h21]
  refine tp_callV (As := []) (rest := []) ⟨hx, hb, hml, hown, hts⟩ (mp_add_ok l D cy (n + 1) u (nI n).toInt64 (tp_u (tp_gI n I (nI e0)) 0 1 (nI (n + 1))) n e22 hn6 (by rw [e21]; intro h; exact absurd (tp_nIj (b := 48) h (by omega) (by decide)) (by omega))) (cwV 0 hts gL_law_X2_add rfl rfl rfl (by decide +kernel) ⟨(Nat.le_of_ble_eq_true rfl), (Nat.le_of_ble_eq_true rfl)⟩) hK hP hD hS hA 2 2 tp_e2 rfl rfl rfl hl.1 rfl (Nat.zero_le _) dL_law_132 ⟨Nat.le_trans (by omega : cells + 15 ≤ cells + 100) hcs.1, Nat.le_trans (by omega : slots + 595 ≤ slots + 1000) hcs.2⟩ (fun I9 e9 H locs hP hD hS => ?_)
  rw [e21] at e9
  subst e9
  refine lv_istore (lv' := (6, .int (nI n)) :: (5, .int 0) :: tp_lv b u i) hx hb dL_law_135 hl (by decide) rfl (fun ls hl => ?_)
  refine lv_aload_n hx hb dL_law_137 rfl (lv_at hl 4 rfl) ?_
  refine tp_callV (As := []) (rest := []) ⟨hx, hb, hml, hown, hts⟩ (mc_thrown l D cy (n + 1) u (nI n).toInt64 _) (cwV 0 hts gL_law_X2_thrown rfl rfl rfl (by decide +kernel) ⟨(Nat.le_of_ble_eq_true rfl), (Nat.le_of_ble_eq_true rfl)⟩) hK hP hD hS hA 2 2 tp_e2 rfl rfl rfl hl.1 rfl (Nat.zero_le _) dL_law_138 ⟨Nat.le_trans (by omega : cells + 15 ≤ cells + 100) hcs.1, Nat.le_trans (by omega : slots + 595 ≤ slots + 1000) hcs.2⟩ (fun I9 e9 H locs hP hD hS => ?_)
  subst e9
  refine tp_eqi (y := 0) (by rw [tp_u_n (by decide), tp_u_oth (by decide), tp_u_s]) ?_
  refine lv_iload hx hb dL_law_141 (lv_at hl 1 rfl) ?_
  refine lv_icmp_eq (tgt := 148) hx hb dL_law_143 (by decide) (fun c1 => ?_) (fun c1 => absurd rfl c1)
  have hl5 : lv_has ls 7 (tp_lv b u i) := lv_sub hl [2, 3, 4, 5, 6] rfl
  refine lv_iload hx hb dL_law_148 (lv_at hl 1 rfl) ?_
  refine lv_if_ne (tgt := 165) hx hb dL_law_150 (by decide) (fun c2 => absurd rfl c2) (fun c2 => ?_)
  refine lv_aload_n hx hb dL_law_153 rfl (lv_at hl 3 rfl) ?_
  refine lv_iconst (v := 0) hx hb dL_law_154 (by decide) ?_
  refine va_lald hx hb hK hP 13 2 (tp_at (by omega)) rfl (vp_in_nI (n := 0) (by decide) (by decide)) dL_law_155 ?_
  refine lv_iload hx hb dL_law_156 (lv_at hl 0 rfl) ?_
  refine lv_i2l hx hb dL_law_158 rfl ?_
  refine W.lcmp hx hb dL_law_159 ?_
  refine lv_if_eq (tgt := 165) hx hb dL_law_160 (by decide) (fun c3 => ?_) (fun c3 => absurd ((lg_cmp_eq _ _).mpr rfl) c3)
  refine lv_goto (tgt := 1201) hx hb dL_law_165 (by decide) ?_
  exact kk u H locs ls ⟨hP, hD, hS⟩ hl5
