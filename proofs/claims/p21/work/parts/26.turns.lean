/-! THE LAW'S TURNS -/
def tp_Al (s : State) : Nat → Prop := fun q => s.heap.size ≤ q
def tp_CX (p : Program) (s : State) (m : MethodId) (meth : Method) (c : Code) (b L : Nat) (xs : Nat → Int32) : Prop :=
  p.tables.exec = Jvm.exec ∧ c.code = cL_law ∧ c.maxLocals = 16 ∧ s.vm.findClass RL = some m.cls ∧ (∀ w ∈ wsL_law, w.before #[Value.ref b] s = true) ∧ va_X b L xs s s.heap ∧ b < s.heap.size
def tp_Wd (D : va_G) (cy : Nat → ClassId) (n : Nat) (ad : Nat → Nat) (I : Nat → Nat → Int32) (o : Int64) (s : State) (H : Heap) (locs : List Loc) : Prop :=
  va_P D vwCl (tp_w cy n ad I o) H ∧ va_D (tp_Al s) (tp_w cy n ad I o) ∧ va_S (tp_Al s) s.heap H locs
def tp_lv (b : Nat) (ad : Nat → Nat) (t : Nat) : List (Nat × Value) := [(9, .int (nI t)), (8, .ref (ad 8)), (7, .ref (ad 7)), (6, .ref (ad 6)), (5, .ref (ad 5)), (4, .ref (ad 4)), (3, .ref (ad 3)), (2, .ref (ad 2)), (1, .ref (ad 0)), (0, .ref b)]
/-- a number of the script, or the law's own behind its end -/
def tl_cell (L : Nat) (xs : Nat → Int32) (k : Nat) : Int32 := if L ≤ k then 47123 * (nI k + 29) + 1993463 else xs k
def tl_CC (l : Launch) (D : va_G) (cy : Nat → ClassId) (n : Nat) (ad : Nat → Nat) (o : Int64) (b L : Nat) (xs : Nat → Int32) (I : Nat → Nat → Int32) (k : Nat) : Prop :=
  ∀ sz : Nat, ¬ va_A (tp_w cy n ad I o) sz b → b < sz → Met l yL_cell wsL_cell (tp_rm 0 0) (va_Pc [.ref b, .int (nI k)] (fun U => tp_P D cy n ad I o sz U ∧ va_X b L xs U U.heap)) (va_Qi (fun x u => x = tl_cell L xs k ∧ u = I) (tp_B D cy n ad o (va_A (tp_w cy n ad I o) sz)) (va_A (tp_w cy n ad I o) sz)) 0 0 (va_A (tp_w cy n ad I o) sz)
theorem tl_blindC {D : va_G} {cy : Nat → ClassId} {n : Nat} {ad : Nat → Nat} {I : Nat → Nat → Int32} {o : Int64} {b L : Nat} {xs : Nat → Int32} {as : List Value} {sz : Nat} : FrameBlind (va_Pc as (fun U => tp_P D cy n ad I o sz U ∧ va_X b L xs U U.heap)) := fun a U g mk q => by
  obtain ⟨q0, ⟨q1, qP, qK, qD⟩, qX⟩ := q
  exact ⟨q0, ⟨q1, qP, va_K.moved (u := U) (U := U.calling g mk a) (Vm.Alike.refl U.vm) qK, qD⟩, va_X.moved (u := U) (U := U.calling g mk a) (Vm.Alike.refl U.vm) qX⟩
set_option maxHeartbeats 4000000 in
set_option maxRecDepth 100000 in
/-- cell(s, k) -/
theorem lf_cell (l : Launch) (D : va_G) (cy : Nat → ClassId) (n : Nat) (ad : Nat → Nat) (o : Int64) (b L : Nat) (xs : Nat → Int32) (I : Nat → Nat → Int32) (k : Nat) (hL : L ≤ 260) (hk : k < 110) : tl_CC l D cy n ad o b L xs I k := by
  intro sz hnA hbs
  refine Met.ofW (cc := cL_cell) (maxL := 2) (ret := some .int) (by decide) rfl ?_
  intro p e s m args below meth c s₁ B hml hv
  obtain ⟨rfl, ⟨hsz, hP, hK, hD0⟩, hX⟩ := hv
  subst hsz
  have hown : s.vm.findClass RL = some m.cls := findClass_of_methodNamed B.named
  have hD := hD0.self (sz := s.heap.size)
  have hx := B.exec
  have hb := B.bytes
  have hr := B.returns
  have hts := atoms_spec (ws := wsL_cell) B.pre
  have hlocks := B.notSynchronized
  generalize hAe : va_A (tp_w cy n ad I o) s.heap.size = A at hD hnA ⊢
  have hS : va_S A s.heap s.heap [] := va_S.rf
  have hl := lv_entry ([.ref b, .int (nI k)]) (n := 2) (Nat.le_of_ble_eq_true rfl)
  rw [lg_entry_eq]
  generalize (lg_sl ([.ref b, .int (nI k)]) ++ List.replicate (2 - (lg_sl ([.ref b, .int (nI k)])).length) Slot.unset).toArray = ls at hl ⊢
  have hl : lv_has ls 2 [(0, .ref b), (1, .int (nI k))] := hl
  refine lv_iload_n hx hb dL_cell_0 rfl (lv_at hl 1 rfl) ?_
  refine lv_aload_n hx hb dL_cell_1 rfl (lv_at hl 0 rfl) ?_
  refine va_slen hx hb hX hbs hnA hS dL_cell_2 ?_
  refine lv_icmp_ge (tgt := 12) hx hb dL_cell_3 (by decide) (fun c1 => ?_) (fun c1 => ?_)
  · have q : L ≤ k := (nI_leI (a := L) (b := k) (by omega) (by omega)).mp c1
    refine lv_ldc (v := 47123) hx hb hown (hts _ (List.mem_of_getElem? (i := 1) rfl)) dL_cell_12 ?_
    refine lv_iload_n hx hb dL_cell_14 rfl (lv_at hl 1 rfl) ?_
    refine lv_bipush (v := 29) hx hb dL_cell_15 (by decide) ?_
    refine lv_iadd hx hb dL_cell_17 ?_
    refine lv_imul hx hb dL_cell_18 ?_
    refine lv_ldc (v := 1993463) hx hb hown (hts _ (List.mem_of_getElem? (i := 2) rfl)) dL_cell_19 ?_
    refine lv_iadd hx hb dL_cell_21 ?_
    exact tp_reti hx hb hr hlocks hK hP hD hS rfl (by unfold tl_cell; rw [if_pos q]) rfl dL_cell_22
  · have q : ¬ L ≤ k := fun q => c1 (nI_le (a := L) (b := k) q (by omega))
    refine lv_aload_n hx hb dL_cell_6 rfl (lv_at hl 0 rfl) ?_
    refine lv_iload_n hx hb dL_cell_7 rfl (lv_at hl 1 rfl) ?_
    refine va_sld hx hb hX hbs hnA hS (vp_in_nI (by omega) (by omega)) dL_cell_8 ?_
    rw [nI_clamp (by omega)]
    refine lv_goto (tgt := 22) hx hb dL_cell_9 (by decide) ?_
    exact tp_reti hx hb hr hlocks hK hP hD hS rfl (by unfold tl_cell; rw [if_neg q]) rfl dL_cell_22
theorem tl_bit {x : Nat} (h : x < 2) : (nI x = 0 ∨ nI x = 1) ∧ (¬ nI x = 1 → (0 : Int32) = nI x) := by
  rcases (show x = 0 ∨ x = 1 by omega) with rfl | rfl
  · exact ⟨Or.inl rfl, fun _ => rfl⟩
  · exact ⟨Or.inr rfl, fun q => absurd rfl q⟩
set_option maxHeartbeats 4000000 in
set_option maxRecDepth 100000 in
/-- add -/
theorem lc_add_ok (l : Launch) (hlt : l.stackTraces = false) {p : Program} {e : Env} {s : State} {m : MethodId} {below : List Frame} {meth : Method} {c : Code} {b L t : Nat} {xs : Nat → Int32} (C0 : tp_CX p s m meth c b L xs) {D : va_G} {cy : Nat → ClassId} {n : Nat} {ad : Nat → Nat} {I : Nat → Nat → Int32} {o : Int64} {sa : Nat → Nat} {tL tM : Nat} {H : Heap} {locs : List Loc} {cells slots : Nat} {Q : State → Prop} {ls : Array Slot} (z x11 x12 : Int32)
    (hE : tp_EV sa tL tM (tp_Al s) s s.heap) (hK : va_K D vwCl (tp_ty cy) s) (hW0 : tp_Wd D cy n ad I o s H locs) (hcs : cells + 100 ≤ 600104 ∧ slots + 1000 ≤ 7301314) (hl : lv_has ls 16 ((13, .int 1) :: (12, .int x12) :: (11, .int x11) :: (10, .int z) :: tp_lv b ad t)) (hR : tq_rel n I) (hnn : n < 2) (e1 : Nat) (h02e : I 0 2 = nI e1) (he48 : e1 < 48)
    (kk : ∀ (n2 : Nat) (ad2 : Nat → Nat) (I2 : Nat → Nat → Int32) (H1 : Heap) (locs1 : List Loc) (ls1 : Array Slot), 1 ≤ n2 → tq_rel n2 I2 → tp_Wd D cy n2 ad2 I2 o s H1 locs1 → lv_has ls1 16 ((13, .int 1) :: (10, .int z) :: tp_lv b ad2 t) → W p l e room_1 s m #[Value.ref b] below meth c H1 locs1 (cells + 100) (slots + 1000) Q (F0 m 535 ls1 [])) : W p l e room_1 s m #[Value.ref b] below meth c H locs cells slots Q (F0 m 118 ls []) := by
  obtain ⟨hx, hb, hml, hown, hts, hX, hbl⟩ := C0
  obtain ⟨hP, hD, hS⟩ := hW0
  have hA : ∀ q : Nat, s.heap.size ≤ q → tp_Al s q := fun q h => h
  have hl : lv_has ls 16 [(13, .int 1), (12, .int x12), (11, .int x11), (10, .int z), (9, .int (nI t)), (8, .ref (ad (8))), (7, .ref (ad (7))), (6, .ref (ad (6))), (5, .ref (ad (5))), (4, .ref (ad (4))), (3, .ref (ad (3))), (2, .ref (ad (2))), (1, .ref (ad (0))), (0, .ref b)] := hl
  obtain ⟨hn2, h01, h21, e0, c0, aF, kF, ⟨he8, hc64, hn0, h02, h20, h22⟩, RR, RF, RH⟩ := id hR
  obtain rfl : e0 = e1 := tp_nIj (h02.symm.trans h02e) (by omega) (by omega)
  refine lv_aload_n hx hb dL_law_118 rfl (lv_at hl 11 rfl) ?_
  refine lv_iconst (v := 4) hx hb dL_law_119 (by decide) ?_
  refine lv_aload_n hx hb dL_law_120 rfl (lv_at hl 11 rfl) ?_
  refine lv_iconst (v := 1) hx hb dL_law_121 (by decide) ?_
  refine tp_iald hx hb hK hP (2) 12 (1) (by omega) rfl (by decide) (by decide) (by decide) dL_law_122 ?_
  refine tp_eqi (y := nI n) h21 ?_
  refine lv_iadd hx hb dL_law_123 ?_
  refine tp_eqi (y := nI (4 + n)) (nI_add 4 n) ?_
  refine lv_aload_n hx hb dL_law_124 rfl (lv_at hl 11 rfl) ?_
  refine lv_iconst (v := 0) hx hb dL_law_125 (by decide) ?_
  refine tp_iald hx hb hK hP (2) 12 (0) (by omega) rfl (by decide) (by decide) (by decide) dL_law_126 ?_
  refine tp_eqi (y := nI e0) h20 ?_
  refine tp_iast hx hb hK hP hD hS (2) 12 ((4 + n)) (by omega) (fun _ => rfl) rfl (by omega) (by decide) dL_law_127 (fun H locs hP hD hS => ?_)
  refine lv_aload_n hx hb dL_law_128 rfl (lv_at hl 11 rfl) ?_
  refine lv_iconst (v := 0) hx hb dL_law_129 (by decide) ?_
  refine tp_iald hx hb hK hP (2) 12 (0) (by omega) rfl (by decide) (by decide) (by decide) dL_law_130 ?_
  refine tp_eqi (y := (nI e0)) (by rw [tp_u_n (by omega), h20]) ?_
  refine lv_bipush (v := 48) hx hb dL_law_131 (by decide) ?_
  refine lv_icmp_ne (tgt := 141) hx hb dL_law_133 (by decide) (fun _ => ?_) (fun c => absurd c (fun q => absurd (tp_nIj (b := 48) q (by omega) (by decide)) (by omega)))
  refine lv_aload_n hx hb dL_law_141 rfl (lv_at hl 11 rfl) ?_
  refine lv_iconst (v := 1) hx hb dL_law_142 (by decide) ?_
  refine tp_iald hx hb hK hP (2) 12 (1) (by omega) rfl (by decide) (by decide) (by decide) dL_law_143 ?_
  refine tp_eqi (y := (nI n)) (by rw [tp_u_n (by omega), h21]) ?_
  refine lv_istore (lv' := [(14, .int (nI n)), (13, .int 1), (12, .int x12), (11, .int x11), (10, .int z), (9, .int (nI t)), (8, .ref (ad (8))), (7, .ref (ad (7))), (6, .ref (ad (6))), (5, .ref (ad (5))), (4, .ref (ad (4))), (3, .ref (ad (3))), (2, .ref (ad (2))), (1, .ref (ad (0))), (0, .ref b)]) hx hb dL_law_144 hl (by decide) rfl (fun ls hl => ?_)
  refine lv_aload_n hx hb dL_law_146 rfl (lv_at hl 12 rfl) ?_
  refine lv_iconst (v := 1) hx hb dL_law_147 (by decide) ?_
  refine lv_dup2_11 hx hb dL_law_148 rfl rfl ?_
  refine tp_iald hx hb hK hP (2) 12 (1) (by omega) rfl (by decide) (by decide) (by decide) dL_law_149 ?_
  refine tp_eqi (y := (nI n)) (by rw [tp_u_n (by omega), h21]) ?_
  refine lv_iload hx hb dL_law_150 (lv_at hl 0 rfl) ?_
  refine lv_if_ge (tgt := 159) hx hb dL_law_152 (by decide) (fun _ => ?_) (fun c => absurd (nI_pos' (by omega)) c)
  refine lv_iconst (v := 1) hx hb dL_law_159 (by decide) ?_
  refine lv_iadd hx hb dL_law_160 ?_
  refine tp_eqi (y := nI (n + 1)) (nI_add n 1) ?_
  refine tp_iast hx hb hK hP hD hS (2) 12 (1) (by omega) (fun _ => rfl) (by decide) (by decide) (by decide) dL_law_161 (fun H locs hP hD hS => ?_)
  have j0 : (tp_u (tp_u I 2 (4 + n) (nI e0)) 2 1 (nI (n + 1))) 0 = I 0 := by rw [tp_u_oth (by omega), tp_u_oth (by omega)]
  refine lv_aload_n hx hb dL_law_162 rfl (lv_at hl 13 rfl) ?_
  refine lv_iconst (v := 0) hx hb dL_law_163 (by decide) ?_
  refine lv_iconst (v := 0) hx hb dL_law_164 (by decide) ?_
  refine lv_iconst (v := 0) hx hb dL_law_165 (by decide) ?_
  refine lv_iconst (v := 0) hx hb dL_law_166 (by decide) ?_
  refine lv_iconst (v := 0) hx hb dL_law_167 (by decide) ?_
  have hF := tp_fr hD hS hA
  refine va_calli (vx_runSW (As := [.ref (ad 0), .int 0, .int 0, .int 0, .int 0, .int 0]) (rest := []) ⟨hx, hb, hml, hown, hts⟩ (lk_add_ok l D cy n ad o (tp_u (tp_u I 2 (4 + n) (nI e0)) 2 1 (nI (n + 1))) sa tL tM e0 0 0 0 0 (by omega) (by rw [j0]; exact h01) (by rw [j0]; exact h02) he48 H.size) (vx_cwSW 6 hts gL_law_L_calls rfl rfl rfl (by decide +kernel) ⟨(Nat.le_of_ble_eq_true rfl), (Nat.le_of_ble_eq_true rfl)⟩) ⟨tp_blindE, fun U hU hW => ⟨rfl, ⟨by rw [hU], by rw [hU]; exact hP, va_K.moved hW.alike hK, hD.weaken (fun _ _ _ _ => trivial)⟩, tp_EV.go hE hW hU hS hF⟩⟩ rfl rfl hl.1 rfl (Nat.zero_le _) dL_law_168 ⟨Nat.le_trans (by omega : cells + 15 ≤ cells + 100) hcs.1, Nat.le_trans (by omega : slots + 595 ≤ slots + 1000) hcs.2⟩) hS (fun q _ h => hF q h) hF (fun r1 u t1 H locs ht hvm hw hB hz1 hk1 hS => ?_)
  obtain ⟨rfl, hu⟩ := hw
  obtain ⟨hP, hK1, hD1⟩ := hB
  rw [ht] at hP
  have hD := hD1.weaken (B := tp_Al s) (fun _ _ _ h => hF _ h)
  rw [← hu 0 (by omega), ← hu 2 (by omega), ← hu 3 (by omega), ← hu 4 (by omega), ← hu 5 (by omega), ← hu 6 (by omega), ← hu 7 (by omega), ← hu 8 (by omega)] at hl
  refine lv_iload hx hb dL_law_171 (lv_at hl 0 rfl) ?_
  refine lv_icmp_ne (tgt := 180) hx hb dL_law_173 (by decide) (fun c => absurd rfl c) (fun _ => ?_)
  refine lv_iconst (v := 1) hx hb dL_law_176 (by decide) ?_
  refine lv_goto (tgt := 181) hx hb dL_law_177 (by decide) ?_
  refine lv_istore (lv' := [(13, .int 1), (14, .int (nI n)), (12, .int x12), (11, .int x11), (10, .int z), (9, .int (nI t)), (8, .ref (u (8))), (7, .ref (u (7))), (6, .ref (u (6))), (5, .ref (u (5))), (4, .ref (u (4))), (3, .ref (u (3))), (2, .ref (u (2))), (1, .ref (u (0))), (0, .ref b)]) hx hb dL_law_181 hl (by decide) rfl (fun ls hl => ?_)
  refine lv_goto (tgt := 535) hx hb dL_law_183 (by decide) ?_
  refine W.widen (k := cells + 100) (n := slots + 1000) (by omega) (by omega) ?_
  exact kk (n + 1) u _ H locs ls (by omega) (tq_add hR (by omega) h02 he48) ⟨hP, hD, hS⟩ (lv_sub hl [0, 4, 5, 6, 7, 8, 9, 10, 11, 12, 13, 14] rfl)
set_option maxHeartbeats 4000000 in
set_option maxRecDepth 100000 in
/-- add, no month is current -/
theorem lc_add_end (l : Launch) (hlt : l.stackTraces = false) {p : Program} {e : Env} {s : State} {m : MethodId} {below : List Frame} {meth : Method} {c : Code} {b L t : Nat} {xs : Nat → Int32} (C0 : tp_CX p s m meth c b L xs) {D : va_G} {cy : Nat → ClassId} {n : Nat} {ad : Nat → Nat} {I : Nat → Nat → Int32} {o : Int64} {sa : Nat → Nat} {tL tM : Nat} {H : Heap} {locs : List Loc} {cells slots : Nat} {Q : State → Prop} {ls : Array Slot} (z x11 x12 : Int32)
    (hE : tp_EV sa tL tM (tp_Al s) s s.heap) (hK : va_K D vwCl (tp_ty cy) s) (hW0 : tp_Wd D cy n ad I o s H locs) (hcs : cells + 100 ≤ 600104 ∧ slots + 1000 ≤ 7301314) (hl : lv_has ls 16 ((13, .int 1) :: (12, .int x12) :: (11, .int x11) :: (10, .int z) :: tp_lv b ad t)) (hR : tq_rel n I) (hnn : n < 2) (e48 : I 0 2 = nI 48)
    (kk : ∀ (n2 : Nat) (ad2 : Nat → Nat) (I2 : Nat → Nat → Int32) (H1 : Heap) (locs1 : List Loc) (ls1 : Array Slot), 1 ≤ n2 → tq_rel n2 I2 → tp_Wd D cy n2 ad2 I2 o s H1 locs1 → lv_has ls1 16 ((13, .int 1) :: (10, .int z) :: tp_lv b ad2 t) → W p l e room_1 s m #[Value.ref b] below meth c H1 locs1 (cells + 100) (slots + 1000) Q (F0 m 535 ls1 [])) : W p l e room_1 s m #[Value.ref b] below meth c H locs cells slots Q (F0 m 118 ls []) := by
  obtain ⟨hx, hb, hml, hown, hts, hX, hbl⟩ := C0
  obtain ⟨hP, hD, hS⟩ := hW0
  have hA : ∀ q : Nat, s.heap.size ≤ q → tp_Al s q := fun q h => h
  have hl : lv_has ls 16 [(13, .int 1), (12, .int x12), (11, .int x11), (10, .int z), (9, .int (nI t)), (8, .ref (ad (8))), (7, .ref (ad (7))), (6, .ref (ad (6))), (5, .ref (ad (5))), (4, .ref (ad (4))), (3, .ref (ad (3))), (2, .ref (ad (2))), (1, .ref (ad (0))), (0, .ref b)] := hl
  obtain ⟨hn2, h01, h21, e0, c0, aF, kF, ⟨he8, hc64, hn0, h02, h20, h22⟩, RR, RF, RH⟩ := id hR
  have e48 : e0 = 48 := tp_nIj (h02.symm.trans e48) (by omega) (by decide)
  refine lv_aload_n hx hb dL_law_118 rfl (lv_at hl 11 rfl) ?_
  refine lv_iconst (v := 4) hx hb dL_law_119 (by decide) ?_
  refine lv_aload_n hx hb dL_law_120 rfl (lv_at hl 11 rfl) ?_
  refine lv_iconst (v := 1) hx hb dL_law_121 (by decide) ?_
  refine tp_iald hx hb hK hP (2) 12 (1) (by omega) rfl (by decide) (by decide) (by decide) dL_law_122 ?_
  refine tp_eqi (y := nI n) h21 ?_
  refine lv_iadd hx hb dL_law_123 ?_
  refine tp_eqi (y := nI (4 + n)) (nI_add 4 n) ?_
  refine lv_aload_n hx hb dL_law_124 rfl (lv_at hl 11 rfl) ?_
  refine lv_iconst (v := 0) hx hb dL_law_125 (by decide) ?_
  refine tp_iald hx hb hK hP (2) 12 (0) (by omega) rfl (by decide) (by decide) (by decide) dL_law_126 ?_
  refine tp_eqi (y := nI e0) h20 ?_
  refine tp_iast hx hb hK hP hD hS (2) 12 ((4 + n)) (by omega) (fun _ => rfl) rfl (by omega) (by decide) dL_law_127 (fun H locs hP hD hS => ?_)
  refine lv_aload_n hx hb dL_law_128 rfl (lv_at hl 11 rfl) ?_
  refine lv_iconst (v := 0) hx hb dL_law_129 (by decide) ?_
  refine tp_iald hx hb hK hP (2) 12 (0) (by omega) rfl (by decide) (by decide) (by decide) dL_law_130 ?_
  refine tp_eqi (y := (nI e0)) (by rw [tp_u_n (by omega), h20]) ?_
  refine lv_bipush (v := 48) hx hb dL_law_131 (by decide) ?_
  refine lv_icmp_ne (tgt := 141) hx hb dL_law_133 (by decide) (fun c => absurd (show nI e0 = 48 by rw [e48]; rfl) c) (fun _ => ?_)
  refine lv_bipush (v := (-3)) hx hb dL_law_136 (by decide) ?_
  refine lv_goto (tgt := 144) hx hb dL_law_138 (by decide) ?_
  refine lv_istore (lv' := [(14, .int ((-3))), (13, .int 1), (12, .int x12), (11, .int x11), (10, .int z), (9, .int (nI t)), (8, .ref (ad (8))), (7, .ref (ad (7))), (6, .ref (ad (6))), (5, .ref (ad (5))), (4, .ref (ad (4))), (3, .ref (ad (3))), (2, .ref (ad (2))), (1, .ref (ad (0))), (0, .ref b)]) hx hb dL_law_144 hl (by decide) rfl (fun ls hl => ?_)
  refine lv_aload_n hx hb dL_law_146 rfl (lv_at hl 12 rfl) ?_
  refine lv_iconst (v := 1) hx hb dL_law_147 (by decide) ?_
  refine lv_dup2_11 hx hb dL_law_148 rfl rfl ?_
  refine tp_iald hx hb hK hP (2) 12 (1) (by omega) rfl (by decide) (by decide) (by decide) dL_law_149 ?_
  refine tp_eqi (y := (nI n)) (by rw [tp_u_n (by omega), h21]) ?_
  refine lv_iload hx hb dL_law_150 (lv_at hl 0 rfl) ?_
  refine lv_if_ge (tgt := 159) hx hb dL_law_152 (by decide) (fun c => absurd c (by decide)) (fun _ => ?_)
  refine lv_iconst (v := 0) hx hb dL_law_155 (by decide) ?_
  refine lv_goto (tgt := 160) hx hb dL_law_156 (by decide) ?_
  refine lv_iadd hx hb dL_law_160 ?_
  refine tp_eqi (y := nI (n + 0)) (nI_add n 0) ?_
  refine tp_iast hx hb hK hP hD hS (2) 12 (1) (by omega) (fun _ => rfl) (by decide) (by decide) (by decide) dL_law_161 (fun H locs hP hD hS => ?_)
  have j0 : (tp_u (tp_u I 2 (4 + n) (nI e0)) 2 1 (nI (n + 0))) 0 = I 0 := by rw [tp_u_oth (by omega), tp_u_oth (by omega)]
  refine lv_aload_n hx hb dL_law_162 rfl (lv_at hl 13 rfl) ?_
  refine lv_iconst (v := 0) hx hb dL_law_163 (by decide) ?_
  refine lv_iconst (v := 0) hx hb dL_law_164 (by decide) ?_
  refine lv_iconst (v := 0) hx hb dL_law_165 (by decide) ?_
  refine lv_iconst (v := 0) hx hb dL_law_166 (by decide) ?_
  refine lv_iconst (v := 0) hx hb dL_law_167 (by decide) ?_
  refine tp_callL ⟨hx, hb, hml, hown, hts⟩ (lk_add_end l D cy n ad o (tp_u (tp_u I 2 (4 + n) (nI e0)) 2 1 (nI (n + 0))) sa tL tM hlt 0 0 0 0 (by rw [j0, h01]; exact nI_lt (b := 6) (by omega) (by decide)) (by rw [j0, h01]; exact nI_pos (by omega)) (by rw [j0, h02, e48]; decide)) (vx_cwSW 6 hts gL_law_L_calls rfl rfl rfl (by decide +kernel) ⟨(Nat.le_of_ble_eq_true rfl), (Nat.le_of_ble_eq_true rfl)⟩) hE hK hP hD hS hA rfl hl.1 rfl (Nat.le_of_ble_eq_true rfl) dL_law_168 ⟨Nat.le_trans (by omega : cells + 1 ≤ cells + 100) hcs.1, Nat.le_trans (by omega : slots + 6 ≤ slots + 1000) hcs.2⟩ (fun H locs hP hD hS => ?_)
  refine lv_iload hx hb dL_law_171 (lv_at hl 0 rfl) ?_
  refine lv_icmp_ne (tgt := 180) hx hb dL_law_173 (by decide) (fun c => absurd rfl c) (fun _ => ?_)
  refine lv_iconst (v := 1) hx hb dL_law_176 (by decide) ?_
  refine lv_goto (tgt := 181) hx hb dL_law_177 (by decide) ?_
  refine lv_istore (lv' := [(13, .int 1), (14, .int ((-3))), (12, .int x12), (11, .int x11), (10, .int z), (9, .int (nI t)), (8, .ref (ad (8))), (7, .ref (ad (7))), (6, .ref (ad (6))), (5, .ref (ad (5))), (4, .ref (ad (4))), (3, .ref (ad (3))), (2, .ref (ad (2))), (1, .ref (ad (0))), (0, .ref b)]) hx hb dL_law_181 hl (by decide) rfl (fun ls hl => ?_)
  refine lv_goto (tgt := 535) hx hb dL_law_183 (by decide) ?_
  have hn1 : 1 ≤ n := by omega
  have hR2 : tq_rel n (tp_u (tp_u I 2 (4 + n) (nI e0)) 2 1 (nI (n + 0))) := tq_same hR (fun j q => by
    by_cases j1 : j = 1
    · subst j1
      rw [tp_u_s, h21]
      rfl
    · rw [tp_u_n j1, tp_u_n (by omega)]) (fun k q => by rw [tp_u_oth q, tp_u_oth q])
  refine W.widen (k := cells + 100) (n := slots + 1000) (by omega) (by omega) ?_
  exact kk n ad _ H locs ls hn1 hR2 ⟨hP, hD, hS⟩ (lv_sub hl [0, 4, 5, 6, 7, 8, 9, 10, 11, 12, 13, 14] rfl)
set_option maxHeartbeats 4000000 in
set_option maxRecDepth 100000 in
/-- a change told -/
theorem lc_tells (l : Launch) (hlt : l.stackTraces = false) {p : Program} {e : Env} {s : State} {m : MethodId} {below : List Frame} {meth : Method} {c : Code} {b L t : Nat} {xs : Nat → Int32} (C0 : tp_CX p s m meth c b L xs) {D : va_G} {cy : Nat → ClassId} {n : Nat} {ad : Nat → Nat} {I : Nat → Nat → Int32} {o : Int64} {sa : Nat → Nat} {tL tM : Nat} {H : Heap} {locs : List Loc} {cells slots : Nat} {Q : State → Prop} {ls : Array Slot} (z x11 x12 : Int32)
    (hE : tp_EV sa tL tM (tp_Al s) s s.heap) (hK : va_K D vwCl (tp_ty cy) s) (hW0 : tp_Wd D cy n ad I o s H locs) (hcs : cells + 100 ≤ 600104 ∧ slots + 1000 ≤ 7301314) (hl : lv_has ls 16 ((13, .int 1) :: (12, .int x12) :: (11, .int x11) :: (10, .int z) :: tp_lv b ad t)) (hR : tq_rel n I) (hn1 : 1 ≤ n) (hq : I 2 2 < 64)
    (kk : ∀ (n2 : Nat) (ad2 : Nat → Nat) (I2 : Nat → Nat → Int32) (H1 : Heap) (locs1 : List Loc) (ls1 : Array Slot), 1 ≤ n2 → tq_rel n2 I2 → tp_Wd D cy n2 ad2 I2 o s H1 locs1 → lv_has ls1 16 ((13, .int 1) :: (10, .int z) :: tp_lv b ad2 t) → W p l e room_1 s m #[Value.ref b] below meth c H1 locs1 (cells + 100) (slots + 1000) Q (F0 m 535 ls1 [])) : W p l e room_1 s m #[Value.ref b] below meth c H locs cells slots Q (F0 m 201 ls []) := by
  obtain ⟨hx, hb, hml, hown, hts, hX, hbl⟩ := C0
  obtain ⟨hP, hD, hS⟩ := hW0
  have hA : ∀ q : Nat, s.heap.size ≤ q → tp_Al s q := fun q h => h
  have hl : lv_has ls 16 [(13, .int 1), (12, .int x12), (11, .int x11), (10, .int z), (9, .int (nI t)), (8, .ref (ad (8))), (7, .ref (ad (7))), (6, .ref (ad (6))), (5, .ref (ad (5))), (4, .ref (ad (4))), (3, .ref (ad (3))), (2, .ref (ad (2))), (1, .ref (ad (0))), (0, .ref b)] := hl
  obtain ⟨hn2, h01, h21, e0, c0, aF, kF, ⟨he8, hc64, hn0, h02, h20, h22⟩, RR, RF, RH⟩ := id hR
  have hc : c0 < 64 := by rw [h22] at hq; exact (nI_ltI (b := 64) (by omega) (by decide)).mp hq
  have hh : tl_low (tl_shr z 4) n < n := tl_low_lt hn1
  have hr48 : (tp_r0 (tl_td (tl_shr z 4) e0)) ≤ 48 := by have := tl_td_lt (z := (tl_shr z 4)) (e := e0); unfold tp_r0; split <;> omega
  have hv := tl_tv_ok (tl_shr z 4)
  have hk2 : I (9 + 15 * tl_low (tl_shr z 4) n) 2 < 100 := by rw [(RH _ hh).2.2.2.2]; exact nI_lt (b := 100) (by have := (RH _ hh).2.2.2.1; omega) (by decide)
  obtain ⟨z0, z1, z2, z3, z4⟩ := tm_first (fun m => I (9 + 15 * tl_low (tl_shr z 4) n + 8 + (tl_tf (tl_shr z 4))) m ≤ nI (tp_r0 (tl_td (tl_shr z 4) e0))) (fun m => Decidable.em _) (tp_r0 (tl_td (tl_shr z 4) e0)) (48 - (tp_r0 (tl_td (tl_shr z 4) e0))) (by omega)
  refine lv_aload_n hx hb dL_law_201 rfl (lv_at hl 12 rfl) ?_
  refine lv_iload hx hb dL_law_202 (lv_at hl 3 rfl) ?_
  refine lv_iconst (v := 4) hx hb dL_law_204 (by decide) ?_
  refine lv_ishr hx hb dL_law_205 ?_
  refine tp_eqi (y := tl_shr z 4) rfl ?_
  refine lv_aload_n hx hb dL_law_206 rfl (lv_at hl 10 rfl) ?_
  refine lv_aload hx hb dL_law_207 (lv_at hl 9 rfl) ?_
  refine lv_aload_n hx hb dL_law_209 rfl (lv_at hl 11 rfl) ?_
  refine tp_callSE ⟨hx, hb, hml, hown, hts⟩ (lf_tells l D cy n ad o I sa tL tM hlt (tl_shr z 4) e0 c0 hn1 hn2 h21 h20 he8 h22 hc hk2 z0 z1 z2 z3 z4) (va_cwS 5 hts gL_law_L_tells rfl rfl rfl (by decide +kernel) ⟨(Nat.le_of_ble_eq_true rfl), (Nat.le_of_ble_eq_true rfl)⟩) hE hK hP hD hS hA rfl hl.1 rfl (Nat.le_of_ble_eq_true rfl) dL_law_210 ⟨Nat.le_trans (by omega : cells ≤ cells + 100) hcs.1, Nat.le_trans (by omega : slots ≤ slots + 1000) hcs.2⟩ (fun I9 e9 H locs hP hD hS => ?_)
  subst e9
  refine lv_istore (lv' := [(13, .int 1), (12, .int x12), (11, .int x11), (10, .int z), (9, .int (nI t)), (8, .ref (ad (8))), (7, .ref (ad (7))), (6, .ref (ad (6))), (5, .ref (ad (5))), (4, .ref (ad (4))), (3, .ref (ad (3))), (2, .ref (ad (2))), (1, .ref (ad (0))), (0, .ref b)]) hx hb dL_law_213 hl (by decide) rfl (fun ls hl => ?_)
  refine lv_goto (tgt := 535) hx hb dL_law_215 (by decide) ?_
  have hR2 : tq_rel n (tp_chg (tl_ent I c0 (16 * (tp_r0 (tl_td (tl_shr z 4) e0)) + 8 * tl_low (tl_shr z 4) n + (tl_tf (tl_shr z 4))) (nI (tl_tv (tl_shr z 4)))) (9 + 15 * tl_low (tl_shr z 4) n) (tl_tf (tl_shr z 4)) (tp_r0 (tl_td (tl_shr z 4) e0)) (nI (tl_tv (tl_shr z 4))) (z0 - (tp_r0 (tl_td (tl_shr z 4) e0)))) := tq_tell hn2 h01 h21 he8 hc hn0 h02 h20 RR RF RH hh (tl_tf_lt _) hr48 hv.1 hv.2 z1 z2 z3 z4 (tq_told_of (tl_tf_lt _) z1)
  refine W.widen (k := cells + 100) (n := slots + 1000) (by omega) (by omega) ?_
  exact kk n ad _ H locs ls hn1 hR2 ⟨hP, hD, hS⟩ (lv_sub hl [0, 3, 4, 5, 6, 7, 8, 9, 10, 11, 12, 13] rfl)
set_option maxHeartbeats 4000000 in
set_option maxRecDepth 100000 in
/-- a dispute -/
theorem lc_dispute (l : Launch) (hlt : l.stackTraces = false) {p : Program} {e : Env} {s : State} {m : MethodId} {below : List Frame} {meth : Method} {c : Code} {b L t : Nat} {xs : Nat → Int32} (C0 : tp_CX p s m meth c b L xs) {D : va_G} {cy : Nat → ClassId} {n : Nat} {ad : Nat → Nat} {I : Nat → Nat → Int32} {o : Int64} {sa : Nat → Nat} {tL tM : Nat} {H : Heap} {locs : List Loc} {cells slots : Nat} {Q : State → Prop} {ls : Array Slot} (z x11 x12 : Int32) (h : Nat)
    (hE : tp_EV sa tL tM (tp_Al s) s s.heap) (hK : va_K D vwCl (tp_ty cy) s) (hW0 : tp_Wd D cy n ad I o s H locs) (hcs : cells + 100 ≤ 600104 ∧ slots + 1000 ≤ 7301314) (hl : lv_has ls 16 ((13, .int 1) :: (12, .int (nI h)) :: (11, .int x11) :: (10, .int z) :: tp_lv b ad t)) (hR : tq_rel n I) (hh : h < n)
    (kk : ∀ (n2 : Nat) (ad2 : Nat → Nat) (I2 : Nat → Nat → Int32) (H1 : Heap) (locs1 : List Loc) (ls1 : Array Slot), 1 ≤ n2 → tq_rel n2 I2 → tp_Wd D cy n2 ad2 I2 o s H1 locs1 → lv_has ls1 16 ((13, .int 1) :: (10, .int z) :: tp_lv b ad2 t) → W p l e room_1 s m #[Value.ref b] below meth c H1 locs1 (cells + 100) (slots + 1000) Q (F0 m 535 ls1 [])) : W p l e room_1 s m #[Value.ref b] below meth c H locs cells slots Q (F0 m 225 ls []) := by
  obtain ⟨hx, hb, hml, hown, hts, hX, hbl⟩ := C0
  obtain ⟨hP, hD, hS⟩ := hW0
  have hA : ∀ q : Nat, s.heap.size ≤ q → tp_Al s q := fun q h => h
  have hl : lv_has ls 16 [(13, .int 1), (12, .int (nI h)), (11, .int x11), (10, .int z), (9, .int (nI t)), (8, .ref (ad (8))), (7, .ref (ad (7))), (6, .ref (ad (6))), (5, .ref (ad (5))), (4, .ref (ad (4))), (3, .ref (ad (3))), (2, .ref (ad (2))), (1, .ref (ad (0))), (0, .ref b)] := hl
  obtain ⟨hn2, h01, h21, e0, c0, aF, kF, ⟨he8, hc64, hn0, h02, h20, h22⟩, RR, RF, RH⟩ := id hR
  obtain ⟨hF, hB, hr3, hrk, hr2⟩ := RH h hh
  obtain ⟨⟨hh2, ha8, -, -, ha4⟩, hA13, hd6, hd7, hd8, hd01, hd0, hdm⟩ := id hB
  have hn1 : 1 ≤ n := by omega
  have hn6 : n ≤ 6 := by omega
  refine lv_iload hx hb dL_law_225 (lv_at hl 3 rfl) ?_
  refine lv_bipush (v := 6) hx hb dL_law_227 (by decide) ?_
  refine lv_ishr hx hb dL_law_229 ?_
  refine tp_eqi (y := tl_shr z 6) rfl ?_
  refine lv_iconst (v := 2) hx hb dL_law_230 (by decide) ?_
  refine tp_callS ⟨hx, hb, hml, hown, hts⟩ (lf_low l D cy n ad o I (tl_shr z 6) 2 (by decide) (by decide)) (va_cwS 2 hts gL_law_L_low rfl rfl rfl (by decide +kernel) ⟨Nat.le_of_ble_eq_true rfl, Nat.le_of_ble_eq_true rfl⟩) hK hP hD hS hA rfl hl.1 rfl (Nat.le_of_ble_eq_true rfl) dL_law_231 ⟨Nat.le_trans (by omega : cells ≤ cells + 100) hcs.1, Nat.le_trans (by omega : slots ≤ slots + 1000) hcs.2⟩ (fun I9 e9 H locs hP hD hS => ?_)
  subst e9
  refine lv_istore (lv' := [(14, .int (nI (tl_low (tl_shr z 6) 2))), (13, .int 1), (12, .int (nI h)), (11, .int x11), (10, .int z), (9, .int (nI t)), (8, .ref (ad (8))), (7, .ref (ad (7))), (6, .ref (ad (6))), (5, .ref (ad (5))), (4, .ref (ad (4))), (3, .ref (ad (3))), (2, .ref (ad (2))), (1, .ref (ad (0))), (0, .ref b)]) hx hb dL_law_234 hl (by decide) rfl (fun ls hl => ?_)
  refine lv_aload_n hx hb dL_law_236 rfl (lv_at hl 13 rfl) ?_
  refine lv_iload hx hb dL_law_237 (lv_at hl 2 rfl) ?_
  refine tp_meetH (D := D) (cy := cy) (n := n) (ad := ad) (I := I) (o := o) (A := tp_Al s) (H0 := s.heap) (nI (tl_low (tl_shr z 6) 2) : Int32) (fun y => F0 m 250 ls (.int y :: [.int (nI h), .ref (ad (0))])) (fun hj250 => ?_) (fun H locs hP hD hS => ?_)
  · refine lv_iload hx hb dL_law_239 (lv_at hl 0 rfl) ?_
    refine lv_iconst (v := 1) hx hb dL_law_241 (by decide) ?_
    refine lv_icmp_ne (tgt := 249) hx hb dL_law_242 (by decide) (fun c242_1 => ?_) (fun c242_1 => ?_)
    · refine lv_iconst (v := 0) hx hb dL_law_249 (by decide) ?_
      exact hj250 _ ((tl_bit (tl_low_lt (by decide))).2 c242_1) _ _ hP hD hS
    · refine lv_iconst (v := 1) hx hb dL_law_245 (by decide) ?_
      refine lv_goto (tgt := 250) hx hb dL_law_246 (by decide) ?_
      exact hj250 _ (c242_1).symm _ _ hP hD hS
  refine tp_callE ⟨hx, hb, hml, hown, hts⟩ (op_dispute_ok l D cy n ad o I sa tL tM h hh hn6 (nI (tl_low (tl_shr z 6) 2)) (tl_bit (tl_low_lt (by decide))).1 (by rw [hd8]; exact hd01)) (cwV 2 hts gL_law_X1_dispute rfl rfl rfl (by decide +kernel) ⟨(Nat.le_of_ble_eq_true rfl), (Nat.le_of_ble_eq_true rfl)⟩) hE hK hP hD hS hA 0 1 tp_e0 rfl rfl rfl hl.1 rfl (Nat.le_of_ble_eq_true rfl) dL_law_250 ⟨Nat.le_trans (by omega : cells ≤ cells + 100) hcs.1, Nat.le_trans (by omega : slots ≤ slots + 1000) hcs.2⟩ (fun I9 e9 H locs hP hD hS => ?_)
  subst e9
  refine lv_aload_n hx hb dL_law_253 rfl (lv_at hl 12 rfl) ?_
  refine lv_bipush (v := 10) hx hb dL_law_254 (by decide) ?_
  refine lv_iload hx hb dL_law_256 (lv_at hl 2 rfl) ?_
  refine lv_iadd hx hb dL_law_258 ?_
  refine tp_eqi (y := nI (10 + h)) (nI_add 10 h) ?_
  refine tp_iald hx hb hK hP (2) 12 ((10 + h)) (by omega) rfl rfl (by omega) (by decide) dL_law_259 ?_
  refine tp_eqi (y := (I 2 (10 + h))) (by rw [tp_u_oth (by omega)]) ?_
  refine tp_meetH (D := D) (cy := cy) (n := n) (ad := ad) (I := (tp_u I (9 + 15 * h) 8 (nI (tl_low (tl_shr z 6) 2)))) (o := o) (A := tp_Al s) (H0 := s.heap) (I (9 + 15 * h) 8 : Int32) (fun y => F0 m 269 ls (.int y :: [.int (I (9 + 15 * h) 8)])) (fun hj269 => ?_) (fun H locs hP hD hS => ?_)
  · refine lv_iconst (v := 1) hx hb dL_law_260 (by decide) ?_
    refine lv_icmp_ne (tgt := 268) hx hb dL_law_261 (by decide) (fun c261_2 => ?_) (fun c261_2 => ?_)
    · refine lv_iconst (v := 0) hx hb dL_law_268 (by decide) ?_
      exact hj269 _ (by rw [hd8]; exact (hd01.resolve_right c261_2).symm) _ _ hP hD hS
    · refine lv_iconst (v := 1) hx hb dL_law_264 (by decide) ?_
      refine lv_goto (tgt := 269) hx hb dL_law_265 (by decide) ?_
      exact hj269 _ (by rw [hd8]; exact (c261_2).symm) _ _ hP hD hS
  refine lv_icmp_ne (tgt := 276) hx hb dL_law_269 (by decide) (fun c => absurd rfl c) (fun _ => ?_)
  refine lv_iconst (v := 1) hx hb dL_law_272 (by decide) ?_
  refine lv_goto (tgt := 277) hx hb dL_law_273 (by decide) ?_
  refine lv_istore (lv' := [(13, .int 1), (14, .int (nI (tl_low (tl_shr z 6) 2))), (12, .int (nI h)), (11, .int x11), (10, .int z), (9, .int (nI t)), (8, .ref (ad (8))), (7, .ref (ad (7))), (6, .ref (ad (6))), (5, .ref (ad (5))), (4, .ref (ad (4))), (3, .ref (ad (3))), (2, .ref (ad (2))), (1, .ref (ad (0))), (0, .ref b)]) hx hb dL_law_277 hl (by decide) rfl (fun ls hl => ?_)
  refine lv_aload_n hx hb dL_law_279 rfl (lv_at hl 12 rfl) ?_
  refine lv_bipush (v := 10) hx hb dL_law_280 (by decide) ?_
  refine lv_iload hx hb dL_law_282 (lv_at hl 2 rfl) ?_
  refine lv_iadd hx hb dL_law_284 ?_
  refine tp_eqi (y := nI (10 + h)) (nI_add 10 h) ?_
  refine lv_iload hx hb dL_law_285 (lv_at hl 1 rfl) ?_
  refine tp_iast hx hb hK hP hD hS (2) 12 ((10 + h)) (by omega) (fun _ => rfl) rfl (by omega) (by decide) dL_law_287 (fun H locs hP hD hS => ?_)
  refine lv_goto (tgt := 535) hx hb dL_law_288 (by decide) ?_
  refine W.widen (k := cells + 100) (n := slots + 1000) (by omega) (by omega) ?_
  exact kk n ad _ H locs ls hn1 (tq_dispute hR hh (tl_bit (tl_low_lt (by decide))).1) ⟨hP, hD, hS⟩ (lv_sub hl [0, 4, 5, 6, 7, 8, 9, 10, 11, 12, 13, 14] rfl)
set_option maxHeartbeats 4000000 in
set_option maxRecDepth 100000 in
/-- money paid back -/
theorem lc_pay_ok (l : Launch) (hlt : l.stackTraces = false) {p : Program} {e : Env} {s : State} {m : MethodId} {below : List Frame} {meth : Method} {c : Code} {b L t : Nat} {xs : Nat → Int32} (C0 : tp_CX p s m meth c b L xs) {D : va_G} {cy : Nat → ClassId} {n : Nat} {ad : Nat → Nat} {I : Nat → Nat → Int32} {o : Int64} {sa : Nat → Nat} {tL tM : Nat} {H : Heap} {locs : List Loc} {cells slots : Nat} {Q : State → Prop} {ls : Array Slot} (z x11 x12 : Int32) (h : Nat)
    (hE : tp_EV sa tL tM (tp_Al s) s s.heap) (hK : va_K D vwCl (tp_ty cy) s) (hW0 : tp_Wd D cy n ad I o s H locs) (hcs : cells + 100 ≤ 600104 ∧ slots + 1000 ≤ 7301314) (hl : lv_has ls 16 ((13, .int 1) :: (12, .int (nI h)) :: (11, .int x11) :: (10, .int z) :: tp_lv b ad t)) (hR : tq_rel n I) (hh : h < n) (hx3 :  nI (1 + tl_low (tl_shr z 6) (tl_w z 3 1000000 9000)) ≤ I 2 (6 + h))
    (kk : ∀ (n2 : Nat) (ad2 : Nat → Nat) (I2 : Nat → Nat → Int32) (H1 : Heap) (locs1 : List Loc) (ls1 : Array Slot), 1 ≤ n2 → tq_rel n2 I2 → tp_Wd D cy n2 ad2 I2 o s H1 locs1 → lv_has ls1 16 ((13, .int 1) :: (10, .int z) :: tp_lv b ad2 t) → W p l e room_1 s m #[Value.ref b] below meth c H1 locs1 (cells + 100) (slots + 1000) Q (F0 m 535 ls1 [])) : W p l e room_1 s m #[Value.ref b] below meth c H locs cells slots Q (F0 m 298 ls []) := by
  obtain ⟨hx, hb, hml, hown, hts, hX, hbl⟩ := C0
  obtain ⟨hP, hD, hS⟩ := hW0
  have hA : ∀ q : Nat, s.heap.size ≤ q → tp_Al s q := fun q h => h
  have hl : lv_has ls 16 [(13, .int 1), (12, .int (nI h)), (11, .int x11), (10, .int z), (9, .int (nI t)), (8, .ref (ad (8))), (7, .ref (ad (7))), (6, .ref (ad (6))), (5, .ref (ad (5))), (4, .ref (ad (4))), (3, .ref (ad (3))), (2, .ref (ad (2))), (1, .ref (ad (0))), (0, .ref b)] := hl
  obtain ⟨hn2, h01, h21, e0, c0, aF, kF, ⟨he8, hc64, hn0, h02, h20, h22⟩, RR, RF, RH⟩ := id hR
  obtain ⟨hF, hB, hr3, hrk, hr2⟩ := RH h hh
  obtain ⟨⟨hh2, ha8, -, -, ha4⟩, hA13, hd6, hd7, hd8, hd01, hd0, hdm⟩ := id hB
  have hn1 : 1 ≤ n := by omega
  have hn6 : n ≤ 6 := by omega
  have hxl := tl_low_w (x := tl_shr z 6) (z := z) (k := 3) (a := 1000000) (b := 9000) (N := 999999) (by decide) (by decide) (by decide) (by decide)
  have hx1 : ¬ nI (1 + tl_low (tl_shr z 6) (tl_w z 3 1000000 9000)) < 1 := nI_nlt (b := 1) (by omega) (by omega)
  have hx2 : nI (1 + tl_low (tl_shr z 6) (tl_w z 3 1000000 9000)) ≤ 1000000 := nI_le (b := 1000000) (by omega) (by decide)
  refine lv_iconst (v := 1) hx hb dL_law_298 (by decide) ?_
  refine lv_iload hx hb dL_law_299 (lv_at hl 3 rfl) ?_
  refine lv_bipush (v := 6) hx hb dL_law_301 (by decide) ?_
  refine lv_ishr hx hb dL_law_303 ?_
  refine tp_eqi (y := tl_shr z 6) rfl ?_
  refine tp_meetH (D := D) (cy := cy) (n := n) (ad := ad) (I := I) (o := o) (A := tp_Al s) (H0 := s.heap) (nI (tl_w z 3 1000000 9000) : Int32) (fun y => F0 m 324 ls (.int y :: [.int (tl_shr z 6), .int 1])) (fun hj324 => ?_) (fun H locs hP hD hS => ?_)
  · refine lv_iload hx hb dL_law_304 (lv_at hl 3 rfl) ?_
    refine lv_bipush (v := 15) hx hb dL_law_306 (by decide) ?_
    refine lv_ishr hx hb dL_law_308 ?_
    refine tp_eqi (y := tl_shr z 15) rfl ?_
    refine lv_iconst (v := 3) hx hb dL_law_309 (by decide) ?_
    refine tp_callS ⟨hx, hb, hml, hown, hts⟩ (lf_low l D cy n ad o I (tl_shr z 15) 3 (by decide) (by decide)) (va_cwS 2 hts gL_law_L_low rfl rfl rfl (by decide +kernel) ⟨Nat.le_of_ble_eq_true rfl, Nat.le_of_ble_eq_true rfl⟩) hK hP hD hS hA rfl hl.1 rfl (Nat.le_of_ble_eq_true rfl) dL_law_310 ⟨Nat.le_trans (by omega : cells ≤ cells + 100) hcs.1, Nat.le_trans (by omega : slots ≤ slots + 1000) hcs.2⟩ (fun I9 e9 H locs hP hD hS => ?_)
    subst e9
    refine lv_if_ne (tgt := 321) hx hb dL_law_313 (by decide) (fun c313_1 => ?_) (fun c313_1 => ?_)
    · refine lv_sipush (v := 9000) hx hb dL_law_321 (by decide) ?_
      exact hj324 _ (tl_wb c313_1) _ _ hP hD hS
    · refine lv_ldc (v := 1000000) hx hb hown (hts _ (List.mem_of_getElem? (i := 4) rfl)) dL_law_316 ?_
      refine lv_goto (tgt := 324) hx hb dL_law_318 (by decide) ?_
      exact hj324 _ (tl_wa (by decide) (by decide) c313_1) _ _ hP hD hS
  refine tp_callS ⟨hx, hb, hml, hown, hts⟩ (lf_low l D cy n ad o I (tl_shr z 6) (tl_w z 3 1000000 9000) (tl_w_pos (by decide) (by decide)) (tl_w_lt (by decide) (by decide))) (va_cwS 2 hts gL_law_L_low rfl rfl rfl (by decide +kernel) ⟨Nat.le_of_ble_eq_true rfl, Nat.le_of_ble_eq_true rfl⟩) hK hP hD hS hA rfl hl.1 rfl (Nat.le_of_ble_eq_true rfl) dL_law_324 ⟨Nat.le_trans (by omega : cells ≤ cells + 100) hcs.1, Nat.le_trans (by omega : slots ≤ slots + 1000) hcs.2⟩ (fun I9 e9 H locs hP hD hS => ?_)
  subst e9
  refine lv_iadd hx hb dL_law_327 ?_
  refine tp_eqi (y := nI (1 + (tl_low (tl_shr z 6) (tl_w z 3 1000000 9000)))) (nI_add 1 (tl_low (tl_shr z 6) (tl_w z 3 1000000 9000))) ?_
  refine lv_istore (lv' := [(14, .int (nI (1 + (tl_low (tl_shr z 6) (tl_w z 3 1000000 9000))))), (13, .int 1), (12, .int (nI h)), (11, .int x11), (10, .int z), (9, .int (nI t)), (8, .ref (ad (8))), (7, .ref (ad (7))), (6, .ref (ad (6))), (5, .ref (ad (5))), (4, .ref (ad (4))), (3, .ref (ad (3))), (2, .ref (ad (2))), (1, .ref (ad (0))), (0, .ref b)]) hx hb dL_law_328 hl (by decide) rfl (fun ls hl => ?_)
  refine lv_aload_n hx hb dL_law_330 rfl (lv_at hl 12 rfl) ?_
  refine lv_bipush (v := 6) hx hb dL_law_331 (by decide) ?_
  refine lv_iload hx hb dL_law_333 (lv_at hl 2 rfl) ?_
  refine lv_iadd hx hb dL_law_335 ?_
  refine tp_eqi (y := nI (6 + h)) (nI_add 6 h) ?_
  refine tp_iald hx hb hK hP (2) 12 ((6 + h)) (by omega) rfl rfl (by omega) (by decide) dL_law_336 ?_
  refine lv_iload hx hb dL_law_337 (lv_at hl 0 rfl) ?_
  refine lv_icmp_lt (tgt := 346) hx hb dL_law_339 (by decide) (fun c => absurd c (tm_nlt hx3)) (fun _ => ?_)
  refine lv_iconst (v := 1) hx hb dL_law_342 (by decide) ?_
  refine lv_goto (tgt := 347) hx hb dL_law_343 (by decide) ?_
  refine lv_istore (lv' := [(15, .int 1), (14, .int (nI (1 + (tl_low (tl_shr z 6) (tl_w z 3 1000000 9000))))), (13, .int 1), (12, .int (nI h)), (11, .int x11), (10, .int z), (9, .int (nI t)), (8, .ref (ad (8))), (7, .ref (ad (7))), (6, .ref (ad (6))), (5, .ref (ad (5))), (4, .ref (ad (4))), (3, .ref (ad (3))), (2, .ref (ad (2))), (1, .ref (ad (0))), (0, .ref b)]) hx hb dL_law_347 hl (by decide) rfl (fun ls hl => ?_)
  refine lv_aload_n hx hb dL_law_349 rfl (lv_at hl 13 rfl) ?_
  refine lv_bipush (v := 6) hx hb dL_law_350 (by decide) ?_
  refine lv_iload hx hb dL_law_352 (lv_at hl 3 rfl) ?_
  refine lv_iadd hx hb dL_law_354 ?_
  refine tp_eqi (y := nI (6 + h)) (nI_add 6 h) ?_
  refine lv_dup2_11 hx hb dL_law_355 rfl rfl ?_
  refine tp_iald hx hb hK hP (2) 12 ((6 + h)) (by omega) rfl rfl (by omega) (by decide) dL_law_356 ?_
  refine lv_iload hx hb dL_law_357 (lv_at hl 0 rfl) ?_
  refine lv_if_eq (tgt := 367) hx hb dL_law_359 (by decide) (fun c => absurd c (by decide)) (fun _ => ?_)
  refine lv_iload hx hb dL_law_362 (lv_at hl 1 rfl) ?_
  refine lv_goto (tgt := 368) hx hb dL_law_364 (by decide) ?_
  refine lv_isub hx hb dL_law_368 ?_
  refine tp_iast hx hb hK hP hD hS (2) 12 ((6 + h)) (by omega) (fun _ => rfl) rfl (by omega) (by decide) dL_law_369 (fun H locs hP hD hS => ?_)
  refine lv_aload_n hx hb dL_law_370 rfl (lv_at hl 13 rfl) ?_
  refine lv_bipush (v := 8) hx hb dL_law_371 (by decide) ?_
  refine lv_iload hx hb dL_law_373 (lv_at hl 3 rfl) ?_
  refine lv_iadd hx hb dL_law_375 ?_
  refine tp_eqi (y := nI (8 + h)) (nI_add 8 h) ?_
  refine lv_dup2_11 hx hb dL_law_376 rfl rfl ?_
  refine tp_iald hx hb hK hP (2) 12 ((8 + h)) (by omega) rfl rfl (by omega) (by decide) dL_law_377 ?_
  refine tp_eqi (y := (I 2 (8 + h))) (tp_u_n (by omega)) ?_
  refine lv_iload hx hb dL_law_378 (lv_at hl 0 rfl) ?_
  refine lv_if_eq (tgt := 388) hx hb dL_law_380 (by decide) (fun c => absurd c (by decide)) (fun _ => ?_)
  refine lv_iload hx hb dL_law_383 (lv_at hl 1 rfl) ?_
  refine lv_goto (tgt := 389) hx hb dL_law_385 (by decide) ?_
  refine lv_iadd hx hb dL_law_389 ?_
  refine tp_iast hx hb hK hP hD hS (2) 12 ((8 + h)) (by omega) (fun _ => rfl) rfl (by omega) (by decide) dL_law_390 (fun H locs hP hD hS => ?_)
  have jb : (tp_u (tp_u I 2 (6 + h) (I 2 (6 + h) - nI (1 + tl_low (tl_shr z 6) (tl_w z 3 1000000 9000)))) 2 (8 + h) (I 2 (8 + h) + nI (1 + tl_low (tl_shr z 6) (tl_w z 3 1000000 9000)))) (9 + 15 * h) = I (9 + 15 * h) := by rw [tp_u_oth (by omega), tp_u_oth (by omega)]
  refine lv_aload_n hx hb dL_law_391 rfl (lv_at hl 14 rfl) ?_
  refine lv_iconst (v := 2) hx hb dL_law_392 (by decide) ?_
  refine lv_iload hx hb dL_law_393 (lv_at hl 3 rfl) ?_
  refine lv_iload hx hb dL_law_395 (lv_at hl 1 rfl) ?_
  refine lv_iconst (v := 0) hx hb dL_law_397 (by decide) ?_
  refine lv_iconst (v := 0) hx hb dL_law_398 (by decide) ?_
  refine tp_callL ⟨hx, hb, hml, hown, hts⟩ (lk_payBack_ok l D cy n ad o (tp_u (tp_u I 2 (6 + h) (I 2 (6 + h) - nI (1 + tl_low (tl_shr z 6) (tl_w z 3 1000000 9000)))) 2 (8 + h) (I 2 (8 + h) + nI (1 + tl_low (tl_shr z 6) (tl_w z 3 1000000 9000)))) sa tL tM hlt h hh hn6 (nI (1 + tl_low (tl_shr z 6) (tl_w z 3 1000000 9000))) 0 0 hx1 hx2 (by rw [jb, hd6]; exact hx3)) (vx_cwSW 6 hts gL_law_L_calls rfl rfl rfl (by decide +kernel) ⟨(Nat.le_of_ble_eq_true rfl), (Nat.le_of_ble_eq_true rfl)⟩) hE hK hP hD hS hA rfl hl.1 rfl (Nat.le_of_ble_eq_true rfl) dL_law_399 ⟨Nat.le_trans (by omega : cells + 0 ≤ cells + 100) hcs.1, Nat.le_trans (by omega : slots + 0 ≤ slots + 1000) hcs.2⟩ (fun H locs hP hD hS => ?_)
  refine tp_eqi (y := I 2 (6 + h) - nI (1 + tl_low (tl_shr z 6) (tl_w z 3 1000000 9000))) (by rw [jb, hd6]) ?_
  refine lv_iload hx hb dL_law_402 (lv_at hl 0 rfl) ?_
  refine lv_if_eq (tgt := 417) hx hb dL_law_404 (by decide) (fun c => absurd c (by decide)) (fun _ => ?_)
  refine lv_aload_n hx hb dL_law_407 rfl (lv_at hl 13 rfl) ?_
  refine lv_bipush (v := 6) hx hb dL_law_408 (by decide) ?_
  refine lv_iload hx hb dL_law_410 (lv_at hl 3 rfl) ?_
  refine lv_iadd hx hb dL_law_412 ?_
  refine tp_eqi (y := nI (6 + h)) (nI_add 6 h) ?_
  refine tp_iald hx hb hK hP (2) 12 ((6 + h)) (by omega) rfl rfl (by omega) (by decide) dL_law_413 ?_
  refine tp_eqi (y := (I 2 (6 + h) - nI (1 + tl_low (tl_shr z 6) (tl_w z 3 1000000 9000)))) (by rw [tp_u_oth (by omega), tp_u_oth (by omega), tp_u_n (by omega), tp_u_s]) ?_
  refine lv_goto (tgt := 419) hx hb dL_law_414 (by decide) ?_
  refine lv_icmp_ne (tgt := 426) hx hb dL_law_419 (by decide) (fun c => absurd rfl c) (fun _ => ?_)
  refine lv_iconst (v := 1) hx hb dL_law_422 (by decide) ?_
  refine lv_goto (tgt := 427) hx hb dL_law_423 (by decide) ?_
  refine lv_istore (lv' := [(13, .int 1), (15, .int 1), (14, .int (nI (1 + (tl_low (tl_shr z 6) (tl_w z 3 1000000 9000))))), (12, .int (nI h)), (11, .int x11), (10, .int z), (9, .int (nI t)), (8, .ref (ad (8))), (7, .ref (ad (7))), (6, .ref (ad (6))), (5, .ref (ad (5))), (4, .ref (ad (4))), (3, .ref (ad (3))), (2, .ref (ad (2))), (1, .ref (ad (0))), (0, .ref b)]) hx hb dL_law_427 hl (by decide) rfl (fun ls hl => ?_)
  refine lv_goto (tgt := 535) hx hb dL_law_429 (by decide) ?_
  have hx0 : 0 ≤ (nI (1 + tl_low (tl_shr z 6) (tl_w z 3 1000000 9000))).toInt := by rw [nI_toInt (by omega)]; omega
  have hs : (I 2 (6 + h) - nI (1 + tl_low (tl_shr z 6) (tl_w z 3 1000000 9000))).toInt = (I 2 (6 + h)).toInt - (nI (1 + tl_low (tl_shr z 6) (tl_w z 3 1000000 9000))).toInt := tm_sub (by rw [tm_le] at hx3; omega) (by rw [tm_le] at hx3; have := tm_bd (I 2 (6 + h)); omega)
  refine W.widen (k := cells + 100) (n := slots + 1000) (by omega) (by omega) ?_
  exact kk n ad _ H locs ls hn1 (tq_debt hR hh (by rw [jb, hd6]) (by rw [jb, hd7]) (by rw [hs]; rw [tm_le] at hx3; omega) (by rw [hs]; omega)) ⟨hP, hD, hS⟩ (lv_sub hl [0, 5, 6, 7, 8, 9, 10, 11, 12, 13, 14, 15] rfl)
set_option maxHeartbeats 4000000 in
set_option maxRecDepth 100000 in
/-- money paid back -/
theorem lc_pay_less (l : Launch) (hlt : l.stackTraces = false) {p : Program} {e : Env} {s : State} {m : MethodId} {below : List Frame} {meth : Method} {c : Code} {b L t : Nat} {xs : Nat → Int32} (C0 : tp_CX p s m meth c b L xs) {D : va_G} {cy : Nat → ClassId} {n : Nat} {ad : Nat → Nat} {I : Nat → Nat → Int32} {o : Int64} {sa : Nat → Nat} {tL tM : Nat} {H : Heap} {locs : List Loc} {cells slots : Nat} {Q : State → Prop} {ls : Array Slot} (z x11 x12 : Int32) (h : Nat)
    (hE : tp_EV sa tL tM (tp_Al s) s s.heap) (hK : va_K D vwCl (tp_ty cy) s) (hW0 : tp_Wd D cy n ad I o s H locs) (hcs : cells + 100 ≤ 600104 ∧ slots + 1000 ≤ 7301314) (hl : lv_has ls 16 ((13, .int 1) :: (12, .int (nI h)) :: (11, .int x11) :: (10, .int z) :: tp_lv b ad t)) (hR : tq_rel n I) (hh : h < n) (hx3 : ¬ nI (1 + tl_low (tl_shr z 6) (tl_w z 3 1000000 9000)) ≤ I 2 (6 + h))
    (kk : ∀ (n2 : Nat) (ad2 : Nat → Nat) (I2 : Nat → Nat → Int32) (H1 : Heap) (locs1 : List Loc) (ls1 : Array Slot), 1 ≤ n2 → tq_rel n2 I2 → tp_Wd D cy n2 ad2 I2 o s H1 locs1 → lv_has ls1 16 ((13, .int 1) :: (10, .int z) :: tp_lv b ad2 t) → W p l e room_1 s m #[Value.ref b] below meth c H1 locs1 (cells + 100) (slots + 1000) Q (F0 m 535 ls1 [])) : W p l e room_1 s m #[Value.ref b] below meth c H locs cells slots Q (F0 m 298 ls []) := by
  obtain ⟨hx, hb, hml, hown, hts, hX, hbl⟩ := C0
  obtain ⟨hP, hD, hS⟩ := hW0
  have hA : ∀ q : Nat, s.heap.size ≤ q → tp_Al s q := fun q h => h
  have hl : lv_has ls 16 [(13, .int 1), (12, .int (nI h)), (11, .int x11), (10, .int z), (9, .int (nI t)), (8, .ref (ad (8))), (7, .ref (ad (7))), (6, .ref (ad (6))), (5, .ref (ad (5))), (4, .ref (ad (4))), (3, .ref (ad (3))), (2, .ref (ad (2))), (1, .ref (ad (0))), (0, .ref b)] := hl
  obtain ⟨hn2, h01, h21, e0, c0, aF, kF, ⟨he8, hc64, hn0, h02, h20, h22⟩, RR, RF, RH⟩ := id hR
  obtain ⟨hF, hB, hr3, hrk, hr2⟩ := RH h hh
  obtain ⟨⟨hh2, ha8, -, -, ha4⟩, hA13, hd6, hd7, hd8, hd01, hd0, hdm⟩ := id hB
  have hn1 : 1 ≤ n := by omega
  have hn6 : n ≤ 6 := by omega
  have hxl := tl_low_w (x := tl_shr z 6) (z := z) (k := 3) (a := 1000000) (b := 9000) (N := 999999) (by decide) (by decide) (by decide) (by decide)
  have hx1 : ¬ nI (1 + tl_low (tl_shr z 6) (tl_w z 3 1000000 9000)) < 1 := nI_nlt (b := 1) (by omega) (by omega)
  have hx2 : nI (1 + tl_low (tl_shr z 6) (tl_w z 3 1000000 9000)) ≤ 1000000 := nI_le (b := 1000000) (by omega) (by decide)
  refine lv_iconst (v := 1) hx hb dL_law_298 (by decide) ?_
  refine lv_iload hx hb dL_law_299 (lv_at hl 3 rfl) ?_
  refine lv_bipush (v := 6) hx hb dL_law_301 (by decide) ?_
  refine lv_ishr hx hb dL_law_303 ?_
  refine tp_eqi (y := tl_shr z 6) rfl ?_
  refine tp_meetH (D := D) (cy := cy) (n := n) (ad := ad) (I := I) (o := o) (A := tp_Al s) (H0 := s.heap) (nI (tl_w z 3 1000000 9000) : Int32) (fun y => F0 m 324 ls (.int y :: [.int (tl_shr z 6), .int 1])) (fun hj324 => ?_) (fun H locs hP hD hS => ?_)
  · refine lv_iload hx hb dL_law_304 (lv_at hl 3 rfl) ?_
    refine lv_bipush (v := 15) hx hb dL_law_306 (by decide) ?_
    refine lv_ishr hx hb dL_law_308 ?_
    refine tp_eqi (y := tl_shr z 15) rfl ?_
    refine lv_iconst (v := 3) hx hb dL_law_309 (by decide) ?_
    refine tp_callS ⟨hx, hb, hml, hown, hts⟩ (lf_low l D cy n ad o I (tl_shr z 15) 3 (by decide) (by decide)) (va_cwS 2 hts gL_law_L_low rfl rfl rfl (by decide +kernel) ⟨Nat.le_of_ble_eq_true rfl, Nat.le_of_ble_eq_true rfl⟩) hK hP hD hS hA rfl hl.1 rfl (Nat.le_of_ble_eq_true rfl) dL_law_310 ⟨Nat.le_trans (by omega : cells ≤ cells + 100) hcs.1, Nat.le_trans (by omega : slots ≤ slots + 1000) hcs.2⟩ (fun I9 e9 H locs hP hD hS => ?_)
    subst e9
    refine lv_if_ne (tgt := 321) hx hb dL_law_313 (by decide) (fun c313_1 => ?_) (fun c313_1 => ?_)
    · refine lv_sipush (v := 9000) hx hb dL_law_321 (by decide) ?_
      exact hj324 _ (tl_wb c313_1) _ _ hP hD hS
    · refine lv_ldc (v := 1000000) hx hb hown (hts _ (List.mem_of_getElem? (i := 4) rfl)) dL_law_316 ?_
      refine lv_goto (tgt := 324) hx hb dL_law_318 (by decide) ?_
      exact hj324 _ (tl_wa (by decide) (by decide) c313_1) _ _ hP hD hS
  refine tp_callS ⟨hx, hb, hml, hown, hts⟩ (lf_low l D cy n ad o I (tl_shr z 6) (tl_w z 3 1000000 9000) (tl_w_pos (by decide) (by decide)) (tl_w_lt (by decide) (by decide))) (va_cwS 2 hts gL_law_L_low rfl rfl rfl (by decide +kernel) ⟨Nat.le_of_ble_eq_true rfl, Nat.le_of_ble_eq_true rfl⟩) hK hP hD hS hA rfl hl.1 rfl (Nat.le_of_ble_eq_true rfl) dL_law_324 ⟨Nat.le_trans (by omega : cells ≤ cells + 100) hcs.1, Nat.le_trans (by omega : slots ≤ slots + 1000) hcs.2⟩ (fun I9 e9 H locs hP hD hS => ?_)
  subst e9
  refine lv_iadd hx hb dL_law_327 ?_
  refine tp_eqi (y := nI (1 + (tl_low (tl_shr z 6) (tl_w z 3 1000000 9000)))) (nI_add 1 (tl_low (tl_shr z 6) (tl_w z 3 1000000 9000))) ?_
  refine lv_istore (lv' := [(14, .int (nI (1 + (tl_low (tl_shr z 6) (tl_w z 3 1000000 9000))))), (13, .int 1), (12, .int (nI h)), (11, .int x11), (10, .int z), (9, .int (nI t)), (8, .ref (ad (8))), (7, .ref (ad (7))), (6, .ref (ad (6))), (5, .ref (ad (5))), (4, .ref (ad (4))), (3, .ref (ad (3))), (2, .ref (ad (2))), (1, .ref (ad (0))), (0, .ref b)]) hx hb dL_law_328 hl (by decide) rfl (fun ls hl => ?_)
  refine lv_aload_n hx hb dL_law_330 rfl (lv_at hl 12 rfl) ?_
  refine lv_bipush (v := 6) hx hb dL_law_331 (by decide) ?_
  refine lv_iload hx hb dL_law_333 (lv_at hl 2 rfl) ?_
  refine lv_iadd hx hb dL_law_335 ?_
  refine tp_eqi (y := nI (6 + h)) (nI_add 6 h) ?_
  refine tp_iald hx hb hK hP (2) 12 ((6 + h)) (by omega) rfl rfl (by omega) (by decide) dL_law_336 ?_
  refine lv_iload hx hb dL_law_337 (lv_at hl 0 rfl) ?_
  refine lv_icmp_lt (tgt := 346) hx hb dL_law_339 (by decide) (fun _ => ?_) (fun c => absurd (tm_gt hx3) c)
  refine lv_iconst (v := 0) hx hb dL_law_346 (by decide) ?_
  refine lv_istore (lv' := [(15, .int 0), (14, .int (nI (1 + (tl_low (tl_shr z 6) (tl_w z 3 1000000 9000))))), (13, .int 1), (12, .int (nI h)), (11, .int x11), (10, .int z), (9, .int (nI t)), (8, .ref (ad (8))), (7, .ref (ad (7))), (6, .ref (ad (6))), (5, .ref (ad (5))), (4, .ref (ad (4))), (3, .ref (ad (3))), (2, .ref (ad (2))), (1, .ref (ad (0))), (0, .ref b)]) hx hb dL_law_347 hl (by decide) rfl (fun ls hl => ?_)
  refine lv_aload_n hx hb dL_law_349 rfl (lv_at hl 13 rfl) ?_
  refine lv_bipush (v := 6) hx hb dL_law_350 (by decide) ?_
  refine lv_iload hx hb dL_law_352 (lv_at hl 3 rfl) ?_
  refine lv_iadd hx hb dL_law_354 ?_
  refine tp_eqi (y := nI (6 + h)) (nI_add 6 h) ?_
  refine lv_dup2_11 hx hb dL_law_355 rfl rfl ?_
  refine tp_iald hx hb hK hP (2) 12 ((6 + h)) (by omega) rfl rfl (by omega) (by decide) dL_law_356 ?_
  refine lv_iload hx hb dL_law_357 (lv_at hl 0 rfl) ?_
  refine lv_if_eq (tgt := 367) hx hb dL_law_359 (by decide) (fun _ => ?_) (fun c => absurd rfl c)
  refine lv_iconst (v := 0) hx hb dL_law_367 (by decide) ?_
  refine lv_isub hx hb dL_law_368 ?_
  refine tp_iast hx hb hK hP hD hS (2) 12 ((6 + h)) (by omega) (fun _ => rfl) rfl (by omega) (by decide) dL_law_369 (fun H locs hP hD hS => ?_)
  refine lv_aload_n hx hb dL_law_370 rfl (lv_at hl 13 rfl) ?_
  refine lv_bipush (v := 8) hx hb dL_law_371 (by decide) ?_
  refine lv_iload hx hb dL_law_373 (lv_at hl 3 rfl) ?_
  refine lv_iadd hx hb dL_law_375 ?_
  refine tp_eqi (y := nI (8 + h)) (nI_add 8 h) ?_
  refine lv_dup2_11 hx hb dL_law_376 rfl rfl ?_
  refine tp_iald hx hb hK hP (2) 12 ((8 + h)) (by omega) rfl rfl (by omega) (by decide) dL_law_377 ?_
  refine tp_eqi (y := (I 2 (8 + h))) (tp_u_n (by omega)) ?_
  refine lv_iload hx hb dL_law_378 (lv_at hl 0 rfl) ?_
  refine lv_if_eq (tgt := 388) hx hb dL_law_380 (by decide) (fun _ => ?_) (fun c => absurd rfl c)
  refine lv_iconst (v := 0) hx hb dL_law_388 (by decide) ?_
  refine lv_iadd hx hb dL_law_389 ?_
  refine tp_iast hx hb hK hP hD hS (2) 12 ((8 + h)) (by omega) (fun _ => rfl) rfl (by omega) (by decide) dL_law_390 (fun H locs hP hD hS => ?_)
  have jb : (tp_u (tp_u I 2 (6 + h) (I 2 (6 + h) - 0)) 2 (8 + h) (I 2 (8 + h) + 0)) (9 + 15 * h) = I (9 + 15 * h) := by rw [tp_u_oth (by omega), tp_u_oth (by omega)]
  refine lv_aload_n hx hb dL_law_391 rfl (lv_at hl 14 rfl) ?_
  refine lv_iconst (v := 2) hx hb dL_law_392 (by decide) ?_
  refine lv_iload hx hb dL_law_393 (lv_at hl 3 rfl) ?_
  refine lv_iload hx hb dL_law_395 (lv_at hl 1 rfl) ?_
  refine lv_iconst (v := 0) hx hb dL_law_397 (by decide) ?_
  refine lv_iconst (v := 0) hx hb dL_law_398 (by decide) ?_
  refine tp_callL ⟨hx, hb, hml, hown, hts⟩ (lk_payBack_less l D cy n ad o (tp_u (tp_u I 2 (6 + h) (I 2 (6 + h) - 0)) 2 (8 + h) (I 2 (8 + h) + 0)) sa tL tM hlt h hh hn6 (nI (1 + tl_low (tl_shr z 6) (tl_w z 3 1000000 9000))) 0 0 hx1 hx2 (by rw [jb, hd6]; exact hx3)) (vx_cwSW 6 hts gL_law_L_calls rfl rfl rfl (by decide +kernel) ⟨(Nat.le_of_ble_eq_true rfl), (Nat.le_of_ble_eq_true rfl)⟩) hE hK hP hD hS hA rfl hl.1 rfl (Nat.le_of_ble_eq_true rfl) dL_law_399 ⟨Nat.le_trans (by omega : cells + 1 ≤ cells + 100) hcs.1, Nat.le_trans (by omega : slots + 6 ≤ slots + 1000) hcs.2⟩ (fun H locs hP hD hS => ?_)
  refine lv_iload hx hb dL_law_402 (lv_at hl 0 rfl) ?_
  refine lv_if_eq (tgt := 417) hx hb dL_law_404 (by decide) (fun _ => ?_) (fun c => absurd rfl c)
  refine lv_bipush (v := (-3)) hx hb dL_law_417 (by decide) ?_
  refine lv_icmp_ne (tgt := 426) hx hb dL_law_419 (by decide) (fun c => absurd rfl c) (fun _ => ?_)
  refine lv_iconst (v := 1) hx hb dL_law_422 (by decide) ?_
  refine lv_goto (tgt := 427) hx hb dL_law_423 (by decide) ?_
  refine lv_istore (lv' := [(13, .int 1), (15, .int 0), (14, .int (nI (1 + (tl_low (tl_shr z 6) (tl_w z 3 1000000 9000))))), (12, .int (nI h)), (11, .int x11), (10, .int z), (9, .int (nI t)), (8, .ref (ad (8))), (7, .ref (ad (7))), (6, .ref (ad (6))), (5, .ref (ad (5))), (4, .ref (ad (4))), (3, .ref (ad (3))), (2, .ref (ad (2))), (1, .ref (ad (0))), (0, .ref b)]) hx hb dL_law_427 hl (by decide) rfl (fun ls hl => ?_)
  refine lv_goto (tgt := 535) hx hb dL_law_429 (by decide) ?_
  have hR2 : tq_rel n (tp_u (tp_u I 2 (6 + h) (I 2 (6 + h) - 0)) 2 (8 + h) (I 2 (8 + h) + 0)) := tq_same hR (fun j q => by
    by_cases j8 : j = 8 + h
    · subst j8
      rw [tp_u_s, Int32.add_zero]
    · rw [tp_u_n j8]
      by_cases j6 : j = 6 + h
      · subst j6
        rw [tp_u_s, Int32.sub_zero]
      · rw [tp_u_n j6]) (fun k q => by rw [tp_u_oth q, tp_u_oth q])
  refine W.widen (k := cells + 100) (n := slots + 1000) (by omega) (by omega) ?_
  exact kk n ad _ H locs ls hn1 hR2 ⟨hP, hD, hS⟩ (lv_sub hl [0, 5, 6, 7, 8, 9, 10, 11, 12, 13, 14, 15] rfl)
set_option maxHeartbeats 4000000 in
set_option maxRecDepth 100000 in
/-- no month to close -/
theorem lc_close_end (l : Launch) (hlt : l.stackTraces = false) {p : Program} {e : Env} {s : State} {m : MethodId} {below : List Frame} {meth : Method} {c : Code} {b L t : Nat} {xs : Nat → Int32} (C0 : tp_CX p s m meth c b L xs) {D : va_G} {cy : Nat → ClassId} {n : Nat} {ad : Nat → Nat} {I : Nat → Nat → Int32} {o : Int64} {sa : Nat → Nat} {tL tM : Nat} {H : Heap} {locs : List Loc} {cells slots : Nat} {Q : State → Prop} {ls : Array Slot} (z x11 x12 : Int32)
    (hE : tp_EV sa tL tM (tp_Al s) s s.heap) (hK : va_K D vwCl (tp_ty cy) s) (hW0 : tp_Wd D cy n ad I o s H locs) (hcs : cells + 100 ≤ 600104 ∧ slots + 1000 ≤ 7301314) (hl : lv_has ls 16 ((13, .int 1) :: (12, .int x12) :: (11, .int x11) :: (10, .int z) :: tp_lv b ad t)) (hR : tq_rel n I) (hn1 : 1 ≤ n) (e48 : I 0 2 = nI 48)
    (kk : ∀ (n2 : Nat) (ad2 : Nat → Nat) (I2 : Nat → Nat → Int32) (H1 : Heap) (locs1 : List Loc) (ls1 : Array Slot), 1 ≤ n2 → tq_rel n2 I2 → tp_Wd D cy n2 ad2 I2 o s H1 locs1 → lv_has ls1 16 ((13, .int 1) :: (10, .int z) :: tp_lv b ad2 t) → W p l e room_1 s m #[Value.ref b] below meth c H1 locs1 (cells + 100) (slots + 1000) Q (F0 m 535 ls1 [])) : W p l e room_1 s m #[Value.ref b] below meth c H locs cells slots Q (F0 m 432 ls []) := by
  obtain ⟨hx, hb, hml, hown, hts, hX, hbl⟩ := C0
  obtain ⟨hP, hD, hS⟩ := hW0
  have hA : ∀ q : Nat, s.heap.size ≤ q → tp_Al s q := fun q h => h
  have hl : lv_has ls 16 [(13, .int 1), (12, .int x12), (11, .int x11), (10, .int z), (9, .int (nI t)), (8, .ref (ad (8))), (7, .ref (ad (7))), (6, .ref (ad (6))), (5, .ref (ad (5))), (4, .ref (ad (4))), (3, .ref (ad (3))), (2, .ref (ad (2))), (1, .ref (ad (0))), (0, .ref b)] := hl
  obtain ⟨hn2, h01, h21, e0, c0, aF, kF, ⟨he8, hc64, hn0, h02, h20, h22⟩, RR, RF, RH⟩ := id hR
  have e48 : e0 = 48 := tp_nIj (h02.symm.trans e48) (by omega) (by decide)
  refine lv_aload_n hx hb dL_law_432 rfl (lv_at hl 11 rfl) ?_
  refine lv_iconst (v := 0) hx hb dL_law_433 (by decide) ?_
  refine tp_iald hx hb hK hP (2) 12 (0) (by omega) rfl (by decide) (by decide) (by decide) dL_law_434 ?_
  refine tp_eqi (y := nI e0) h20 ?_
  refine lv_bipush (v := 48) hx hb dL_law_435 (by decide) ?_
  refine lv_icmp_ne (tgt := 445) hx hb dL_law_437 (by decide) (fun c => absurd (show nI e0 = 48 by rw [e48]; rfl) c) (fun _ => ?_)
  refine lv_bipush (v := (-3)) hx hb dL_law_440 (by decide) ?_
  refine lv_goto (tgt := 457) hx hb dL_law_442 (by decide) ?_
  refine lv_istore (lv' := [(14, .int ((-3))), (13, .int 1), (12, .int x12), (11, .int x11), (10, .int z), (9, .int (nI t)), (8, .ref (ad (8))), (7, .ref (ad (7))), (6, .ref (ad (6))), (5, .ref (ad (5))), (4, .ref (ad (4))), (3, .ref (ad (3))), (2, .ref (ad (2))), (1, .ref (ad (0))), (0, .ref b)]) hx hb dL_law_457 hl (by decide) rfl (fun ls hl => ?_)
  refine lv_iload hx hb dL_law_459 (lv_at hl 0 rfl) ?_
  refine lv_aload_n hx hb dL_law_461 rfl (lv_at hl 12 rfl) ?_
  refine lv_iconst (v := 0) hx hb dL_law_462 (by decide) ?_
  refine tp_iald hx hb hK hP (2) 12 (0) (by omega) rfl (by decide) (by decide) (by decide) dL_law_463 ?_
  refine tp_eqi (y := nI e0) h20 ?_
  refine lv_bipush (v := 48) hx hb dL_law_464 (by decide) ?_
  refine lv_icmp_ge (tgt := 491) hx hb dL_law_466 (by decide) (fun _ => ?_) (fun c => absurd (nI_le (a := 48) (by omega) (by omega)) c)
  refine lv_iconst (v := 0) hx hb dL_law_491 (by decide) ?_
  refine lv_iadd hx hb dL_law_492 ?_
  refine lv_istore (lv' := [(14, .int ((-3) + 0)), (13, .int 1), (12, .int x12), (11, .int x11), (10, .int z), (9, .int (nI t)), (8, .ref (ad (8))), (7, .ref (ad (7))), (6, .ref (ad (6))), (5, .ref (ad (5))), (4, .ref (ad (4))), (3, .ref (ad (3))), (2, .ref (ad (2))), (1, .ref (ad (0))), (0, .ref b)]) hx hb dL_law_493 hl (by decide) rfl (fun ls hl => ?_)
  refine lv_aload_n hx hb dL_law_495 rfl (lv_at hl 12 rfl) ?_
  refine lv_iconst (v := 0) hx hb dL_law_496 (by decide) ?_
  refine lv_dup2_11 hx hb dL_law_497 rfl rfl ?_
  refine tp_iald hx hb hK hP (2) 12 (0) (by omega) rfl (by decide) (by decide) (by decide) dL_law_498 ?_
  refine tp_eqi (y := nI e0) h20 ?_
  refine lv_aload_n hx hb dL_law_499 rfl (lv_at hl 12 rfl) ?_
  refine lv_iconst (v := 0) hx hb dL_law_500 (by decide) ?_
  refine tp_iald hx hb hK hP (2) 12 (0) (by omega) rfl (by decide) (by decide) (by decide) dL_law_501 ?_
  refine tp_eqi (y := nI e0) h20 ?_
  refine lv_bipush (v := 48) hx hb dL_law_502 (by decide) ?_
  refine lv_icmp_ne (tgt := 511) hx hb dL_law_504 (by decide) (fun c => absurd (show nI e0 = 48 by rw [e48]; rfl) c) (fun _ => ?_)
  refine lv_iconst (v := 0) hx hb dL_law_507 (by decide) ?_
  refine lv_goto (tgt := 512) hx hb dL_law_508 (by decide) ?_
  refine lv_iadd hx hb dL_law_512 ?_
  refine tp_eqi (y := nI (e0 + 0)) (nI_add e0 0) ?_
  refine tp_iast hx hb hK hP hD hS (2) 12 (0) (by omega) (fun _ => rfl) (by decide) (by decide) (by decide) dL_law_513 (fun H locs hP hD hS => ?_)
  refine lv_aload_n hx hb dL_law_514 rfl (lv_at hl 13 rfl) ?_
  refine lv_iconst (v := 3) hx hb dL_law_515 (by decide) ?_
  refine lv_iconst (v := 0) hx hb dL_law_516 (by decide) ?_
  refine lv_iconst (v := 0) hx hb dL_law_517 (by decide) ?_
  refine lv_iconst (v := 0) hx hb dL_law_518 (by decide) ?_
  refine lv_iconst (v := 0) hx hb dL_law_519 (by decide) ?_
  refine tp_callL ⟨hx, hb, hml, hown, hts⟩ (lk_close_end l D cy n ad o (tp_u I 2 0 (nI (e0 + 0))) sa tL tM hlt 0 0 0 0 (by rw [tp_u_oth (by omega), h02, e48]; decide)) (vx_cwSW 6 hts gL_law_L_calls rfl rfl rfl (by decide +kernel) ⟨(Nat.le_of_ble_eq_true rfl), (Nat.le_of_ble_eq_true rfl)⟩) hE hK hP hD hS hA rfl hl.1 rfl (Nat.le_of_ble_eq_true rfl) dL_law_520 ⟨Nat.le_trans (by omega : cells + 1 ≤ cells + 100) hcs.1, Nat.le_trans (by omega : slots + 6 ≤ slots + 1000) hcs.2⟩ (fun H locs hP hD hS => ?_)
  refine lv_iload hx hb dL_law_523 (lv_at hl 0 rfl) ?_
  refine lv_icmp_ne (tgt := 532) hx hb dL_law_525 (by decide) (fun c => absurd (show (-3 : Int32) = -3 + 0 by decide) c) (fun _ => ?_)
  refine lv_iconst (v := 1) hx hb dL_law_528 (by decide) ?_
  refine lv_goto (tgt := 533) hx hb dL_law_529 (by decide) ?_
  refine lv_istore (lv' := [(13, .int 1), (14, .int ((-3) + 0)), (12, .int x12), (11, .int x11), (10, .int z), (9, .int (nI t)), (8, .ref (ad (8))), (7, .ref (ad (7))), (6, .ref (ad (6))), (5, .ref (ad (5))), (4, .ref (ad (4))), (3, .ref (ad (3))), (2, .ref (ad (2))), (1, .ref (ad (0))), (0, .ref b)]) hx hb dL_law_533 hl (by decide) rfl (fun ls hl => ?_)
  have hR2 : tq_rel n (tp_u I 2 0 (nI (e0 + 0))) := tq_same hR (fun j q => by
    by_cases j0 : j = 0
    · subst j0
      rw [tp_u_s, h20]
      rfl
    · rw [tp_u_n j0]) (fun k q => by rw [tp_u_oth q])
  refine W.widen (k := cells + 100) (n := slots + 1000) (by omega) (by omega) ?_
  exact kk n ad _ H locs ls hn1 hR2 ⟨hP, hD, hS⟩ (lv_sub hl [0, 4, 5, 6, 7, 8, 9, 10, 11, 12, 13, 14] rfl)
set_option maxHeartbeats 4000000 in
set_option maxRecDepth 100000 in
/-- a month closed, of 1 -/
theorem lc_close_1 (l : Launch) (hlt : l.stackTraces = false) {p : Program} {e : Env} {s : State} {m : MethodId} {below : List Frame} {meth : Method} {c : Code} {b L t : Nat} {xs : Nat → Int32} (C0 : tp_CX p s m meth c b L xs) {D : va_G} {cy : Nat → ClassId} {n : Nat} {ad : Nat → Nat} {I : Nat → Nat → Int32} {o : Int64} {sa : Nat → Nat} {tL tM : Nat} {H : Heap} {locs : List Loc} {cells slots : Nat} {Q : State → Prop} {ls : Array Slot} (z x11 x12 : Int32)
    (hE : tp_EV sa tL tM (tp_Al s) s s.heap) (hK : va_K D vwCl (tp_ty cy) s) (hW0 : tp_Wd D cy n ad I o s H locs) (hcs : cells + 100 ≤ 600104 ∧ slots + 1000 ≤ 7301314) (hl : lv_has ls 16 ((13, .int 1) :: (12, .int x12) :: (11, .int x11) :: (10, .int z) :: tp_lv b ad t)) (hR : tq_rel n I) (hnn : n = 1) (e1 : Nat) (h02e : I 0 2 = nI e1) (he48 : e1 < 48)
    (kk : ∀ (n2 : Nat) (ad2 : Nat → Nat) (I2 : Nat → Nat → Int32) (H1 : Heap) (locs1 : List Loc) (ls1 : Array Slot), 1 ≤ n2 → tq_rel n2 I2 → tp_Wd D cy n2 ad2 I2 o s H1 locs1 → lv_has ls1 16 ((13, .int 1) :: (10, .int z) :: tp_lv b ad2 t) → W p l e room_1 s m #[Value.ref b] below meth c H1 locs1 (cells + 100) (slots + 1000) Q (F0 m 535 ls1 [])) : W p l e room_1 s m #[Value.ref b] below meth c H locs cells slots Q (F0 m 432 ls []) := by
  obtain ⟨hx, hb, hml, hown, hts, hX, hbl⟩ := C0
  obtain ⟨hP, hD, hS⟩ := hW0
  have hA : ∀ q : Nat, s.heap.size ≤ q → tp_Al s q := fun q h => h
  have hl : lv_has ls 16 [(13, .int 1), (12, .int x12), (11, .int x11), (10, .int z), (9, .int (nI t)), (8, .ref (ad (8))), (7, .ref (ad (7))), (6, .ref (ad (6))), (5, .ref (ad (5))), (4, .ref (ad (4))), (3, .ref (ad (3))), (2, .ref (ad (2))), (1, .ref (ad (0))), (0, .ref b)] := hl
  obtain ⟨hn2, h01, h21, e0, c0, aF, kF, ⟨he8, hc64, hn0, h02, h20, h22⟩, RR, RF, RH⟩ := id hR
  obtain rfl : e0 = e1 := tp_nIj (h02.symm.trans h02e) (by omega) (by omega)
  have hn1 : 0 < n := by omega
  have a20 : tl_all I aF e0 1 2 0 = nI e0 := by rw [tl_all_n (by omega) 1 (by decide)]; exact h20
  have a21 : tl_all I aF e0 1 2 1 = nI n := by rw [tl_all_n (by omega) 1 (by decide)]; exact h21
  refine lv_aload_n hx hb dL_law_432 rfl (lv_at hl 11 rfl) ?_
  refine lv_iconst (v := 0) hx hb dL_law_433 (by decide) ?_
  refine tp_iald hx hb hK hP (2) 12 (0) (by omega) rfl (by decide) (by decide) (by decide) dL_law_434 ?_
  refine tp_eqi (y := nI e0) h20 ?_
  refine lv_bipush (v := 48) hx hb dL_law_435 (by decide) ?_
  refine lv_icmp_ne (tgt := 445) hx hb dL_law_437 (by decide) (fun _ => ?_) (fun c => absurd c (fun q => absurd (tp_nIj (b := 48) q (by omega) (by decide)) (by omega)))
  refine lv_iconst (v := 0) hx hb dL_law_445 (by decide) ?_
  refine lv_aload_n hx hb dL_law_446 rfl (lv_at hl 10 rfl) ?_
  refine lv_aload hx hb dL_law_447 (lv_at hl 9 rfl) ?_
  refine lv_aload hx hb dL_law_449 (lv_at hl 8 rfl) ?_
  refine lv_aload hx hb dL_law_451 (lv_at hl 6 rfl) ?_
  refine lv_aload_n hx hb dL_law_453 rfl (lv_at hl 11 rfl) ?_
  refine tp_callS ⟨hx, hb, hml, hown, hts⟩ (lf_closes l D cy n ad o I 0 c0 (RH 0 hn1).1 e0 (aF 0) (RH 0 hn1).2.1 he48) (va_cwS 6 hts gL_law_L_closes rfl rfl rfl (by decide +kernel) ⟨(Nat.le_of_ble_eq_true rfl), (Nat.le_of_ble_eq_true rfl)⟩) hK hP hD hS hA rfl hl.1 rfl (Nat.le_of_ble_eq_true rfl) dL_law_454 ⟨Nat.le_trans (by omega : cells ≤ cells + 100) hcs.1, Nat.le_trans (by omega : slots ≤ slots + 1000) hcs.2⟩ (fun I9 e9 H locs hP hD hS => ?_)
  subst e9
  have hP : va_P D vwCl (tp_w cy n ad (tl_all I aF e0 1) o) H := hP
  have hD : va_D (tp_Al s) (tp_w cy n ad (tl_all I aF e0 1) o) := hD
  refine lv_istore (lv' := [(14, .int (tp_paym I (9 + 15 * 0) (aF 0) e0)), (13, .int 1), (12, .int x12), (11, .int x11), (10, .int z), (9, .int (nI t)), (8, .ref (ad (8))), (7, .ref (ad (7))), (6, .ref (ad (6))), (5, .ref (ad (5))), (4, .ref (ad (4))), (3, .ref (ad (3))), (2, .ref (ad (2))), (1, .ref (ad (0))), (0, .ref b)]) hx hb dL_law_457 hl (by decide) rfl (fun ls hl => ?_)
  refine lv_iload hx hb dL_law_459 (lv_at hl 0 rfl) ?_
  refine lv_aload_n hx hb dL_law_461 rfl (lv_at hl 12 rfl) ?_
  refine lv_iconst (v := 0) hx hb dL_law_462 (by decide) ?_
  refine tp_iald hx hb hK hP (2) 12 (0) (by omega) rfl (by decide) (by decide) (by decide) dL_law_463 ?_
  refine tp_eqi (y := (nI e0)) a20 ?_
  refine lv_bipush (v := 48) hx hb dL_law_464 (by decide) ?_
  refine lv_icmp_ge (tgt := 491) hx hb dL_law_466 (by decide) (fun c => absurd c (nI_ge (b := 48) (by omega) (by decide))) (fun _ => ?_)
  refine lv_aload_n hx hb dL_law_469 rfl (lv_at hl 12 rfl) ?_
  refine lv_iconst (v := 1) hx hb dL_law_470 (by decide) ?_
  refine tp_iald hx hb hK hP (2) 12 (1) (by omega) rfl (by decide) (by decide) (by decide) dL_law_471 ?_
  refine tp_eqi (y := (nI n)) a21 ?_
  refine lv_iconst (v := 1) hx hb dL_law_472 (by decide) ?_
  refine lv_icmp_le (tgt := 491) hx hb dL_law_473 (by decide) (fun _ => ?_) (fun c => absurd (nI_le (b := 1) (by omega) (by decide)) c)
  refine lv_iconst (v := 0) hx hb dL_law_491 (by decide) ?_
  refine lv_iadd hx hb dL_law_492 ?_
  refine lv_istore (lv' := [(14, .int ((tp_paym I (9 + 15 * 0) (aF 0) e0) + 0)), (13, .int 1), (12, .int x12), (11, .int x11), (10, .int z), (9, .int (nI t)), (8, .ref (ad (8))), (7, .ref (ad (7))), (6, .ref (ad (6))), (5, .ref (ad (5))), (4, .ref (ad (4))), (3, .ref (ad (3))), (2, .ref (ad (2))), (1, .ref (ad (0))), (0, .ref b)]) hx hb dL_law_493 hl (by decide) rfl (fun ls hl => ?_)
  refine lv_aload_n hx hb dL_law_495 rfl (lv_at hl 12 rfl) ?_
  refine lv_iconst (v := 0) hx hb dL_law_496 (by decide) ?_
  refine lv_dup2_11 hx hb dL_law_497 rfl rfl ?_
  refine tp_iald hx hb hK hP (2) 12 (0) (by omega) rfl (by decide) (by decide) (by decide) dL_law_498 ?_
  refine tp_eqi (y := (nI e0)) a20 ?_
  refine lv_aload_n hx hb dL_law_499 rfl (lv_at hl 12 rfl) ?_
  refine lv_iconst (v := 0) hx hb dL_law_500 (by decide) ?_
  refine tp_iald hx hb hK hP (2) 12 (0) (by omega) rfl (by decide) (by decide) (by decide) dL_law_501 ?_
  refine tp_eqi (y := (nI e0)) a20 ?_
  refine lv_bipush (v := 48) hx hb dL_law_502 (by decide) ?_
  refine lv_icmp_ne (tgt := 511) hx hb dL_law_504 (by decide) (fun _ => ?_) (fun c => absurd c (fun q => absurd (tp_nIj (b := 48) q (by omega) (by decide)) (by omega)))
  refine lv_iconst (v := 1) hx hb dL_law_511 (by decide) ?_
  refine lv_iadd hx hb dL_law_512 ?_
  refine tp_eqi (y := nI (e0 + 1)) (nI_add e0 1) ?_
  refine tp_iast hx hb hK hP hD hS (2) 12 (0) (by omega) (fun _ => rfl) (by decide) (by decide) (by decide) dL_law_513 (fun H locs hP hD hS => ?_)
  obtain rfl : n = 1 := by omega
  have j0 : (tp_u (tl_all I aF e0 1) 2 0 (nI (e0 + 1))) 0 = I 0 := by rw [tp_u_oth (by omega), tl_all_oth (by omega) (by omega) 1 (by decide)]
  obtain ⟨q1, q2⟩ := tq_close (I := I) (e := e0) (aF := aF) hn2 h01 h21 he48 hc64 (by decide) h22 RR RF RH
  refine lv_aload_n hx hb dL_law_514 rfl (lv_at hl 13 rfl) ?_
  refine lv_iconst (v := 3) hx hb dL_law_515 (by decide) ?_
  refine lv_iconst (v := 0) hx hb dL_law_516 (by decide) ?_
  refine lv_iconst (v := 0) hx hb dL_law_517 (by decide) ?_
  refine lv_iconst (v := 0) hx hb dL_law_518 (by decide) ?_
  refine lv_iconst (v := 0) hx hb dL_law_519 (by decide) ?_
  refine tp_callL ⟨hx, hb, hml, hown, hts⟩ (lk_close_ok l D cy 1 ad o (tp_u (tl_all I aF e0 1) 2 0 (nI (e0 + 1))) sa tL tM hlt 0 0 0 0 aF e0 (by decide) (by rw [j0]; exact h02) he48 (fun h hh => by rw [tp_u_oth (by omega), tl_all_oth (by omega) (by omega) 1 (by decide)]; exact (RH h hh).2.2.1) (fun h hh => (RH h hh).2.1.1.2.1)) (vx_cwSW 6 hts gL_law_L_calls rfl rfl rfl (by decide +kernel) ⟨(Nat.le_of_ble_eq_true rfl), (Nat.le_of_ble_eq_true rfl)⟩) hE hK hP hD hS hA rfl hl.1 rfl (Nat.le_of_ble_eq_true rfl) dL_law_520 ⟨Nat.le_trans (by omega : cells + 0 ≤ cells + 100) hcs.1, Nat.le_trans (by omega : slots + 0 ≤ slots + 1000) hcs.2⟩ (fun H locs hP hD hS => ?_)
  refine tp_eqi (y := tl_sum I aF e0 1) q1 ?_
  refine lv_iload hx hb dL_law_523 (lv_at hl 0 rfl) ?_
  refine lv_icmp_ne (tgt := 532) hx hb dL_law_525 (by decide) (fun c => absurd (show tl_sum I aF e0 1 = _ by show 0 + tp_paym I (9 + 15 * 0) (aF 0) e0 = _; rw [Int32.zero_add, Int32.add_zero]) c) (fun _ => ?_)
  refine lv_iconst (v := 1) hx hb dL_law_528 (by decide) ?_
  refine lv_goto (tgt := 533) hx hb dL_law_529 (by decide) ?_
  refine lv_istore (lv' := [(13, .int 1), (14, .int ((tp_paym I (9 + 15 * 0) (aF 0) e0) + 0)), (12, .int x12), (11, .int x11), (10, .int z), (9, .int (nI t)), (8, .ref (ad (8))), (7, .ref (ad (7))), (6, .ref (ad (6))), (5, .ref (ad (5))), (4, .ref (ad (4))), (3, .ref (ad (3))), (2, .ref (ad (2))), (1, .ref (ad (0))), (0, .ref b)]) hx hb dL_law_533 hl (by decide) rfl (fun ls hl => ?_)
  refine W.widen (k := cells + 100) (n := slots + 1000) (by omega) (by omega) ?_
  exact kk 1 ad _ H locs ls (by decide) q2 ⟨hP, hD, hS⟩ (lv_sub hl [0, 4, 5, 6, 7, 8, 9, 10, 11, 12, 13, 14] rfl)
set_option maxHeartbeats 4000000 in
set_option maxRecDepth 100000 in
/-- a month closed, of 2 -/
theorem lc_close_2 (l : Launch) (hlt : l.stackTraces = false) {p : Program} {e : Env} {s : State} {m : MethodId} {below : List Frame} {meth : Method} {c : Code} {b L t : Nat} {xs : Nat → Int32} (C0 : tp_CX p s m meth c b L xs) {D : va_G} {cy : Nat → ClassId} {n : Nat} {ad : Nat → Nat} {I : Nat → Nat → Int32} {o : Int64} {sa : Nat → Nat} {tL tM : Nat} {H : Heap} {locs : List Loc} {cells slots : Nat} {Q : State → Prop} {ls : Array Slot} (z x11 x12 : Int32)
    (hE : tp_EV sa tL tM (tp_Al s) s s.heap) (hK : va_K D vwCl (tp_ty cy) s) (hW0 : tp_Wd D cy n ad I o s H locs) (hcs : cells + 100 ≤ 600104 ∧ slots + 1000 ≤ 7301314) (hl : lv_has ls 16 ((13, .int 1) :: (12, .int x12) :: (11, .int x11) :: (10, .int z) :: tp_lv b ad t)) (hR : tq_rel n I) (hnn : n = 2) (e1 : Nat) (h02e : I 0 2 = nI e1) (he48 : e1 < 48)
    (kk : ∀ (n2 : Nat) (ad2 : Nat → Nat) (I2 : Nat → Nat → Int32) (H1 : Heap) (locs1 : List Loc) (ls1 : Array Slot), 1 ≤ n2 → tq_rel n2 I2 → tp_Wd D cy n2 ad2 I2 o s H1 locs1 → lv_has ls1 16 ((13, .int 1) :: (10, .int z) :: tp_lv b ad2 t) → W p l e room_1 s m #[Value.ref b] below meth c H1 locs1 (cells + 100) (slots + 1000) Q (F0 m 535 ls1 [])) : W p l e room_1 s m #[Value.ref b] below meth c H locs cells slots Q (F0 m 432 ls []) := by
  obtain ⟨hx, hb, hml, hown, hts, hX, hbl⟩ := C0
  obtain ⟨hP, hD, hS⟩ := hW0
  have hA : ∀ q : Nat, s.heap.size ≤ q → tp_Al s q := fun q h => h
  have hl : lv_has ls 16 [(13, .int 1), (12, .int x12), (11, .int x11), (10, .int z), (9, .int (nI t)), (8, .ref (ad (8))), (7, .ref (ad (7))), (6, .ref (ad (6))), (5, .ref (ad (5))), (4, .ref (ad (4))), (3, .ref (ad (3))), (2, .ref (ad (2))), (1, .ref (ad (0))), (0, .ref b)] := hl
  obtain ⟨hn2, h01, h21, e0, c0, aF, kF, ⟨he8, hc64, hn0, h02, h20, h22⟩, RR, RF, RH⟩ := id hR
  obtain rfl : e0 = e1 := tp_nIj (h02.symm.trans h02e) (by omega) (by omega)
  have hn1 : 0 < n := by omega
  have hn2b : 1 < n := by omega
  have a20 : tl_all I aF e0 1 2 0 = nI e0 := by rw [tl_all_n (by omega) 1 (by decide)]; exact h20
  have a21 : tl_all I aF e0 1 2 1 = nI n := by rw [tl_all_n (by omega) 1 (by decide)]; exact h21
  have b20 : tl_all I aF e0 2 2 0 = nI e0 := by rw [tl_all_n (by omega) 2 (by decide)]; exact h20
  refine lv_aload_n hx hb dL_law_432 rfl (lv_at hl 11 rfl) ?_
  refine lv_iconst (v := 0) hx hb dL_law_433 (by decide) ?_
  refine tp_iald hx hb hK hP (2) 12 (0) (by omega) rfl (by decide) (by decide) (by decide) dL_law_434 ?_
  refine tp_eqi (y := nI e0) h20 ?_
  refine lv_bipush (v := 48) hx hb dL_law_435 (by decide) ?_
  refine lv_icmp_ne (tgt := 445) hx hb dL_law_437 (by decide) (fun _ => ?_) (fun c => absurd c (fun q => absurd (tp_nIj (b := 48) q (by omega) (by decide)) (by omega)))
  refine lv_iconst (v := 0) hx hb dL_law_445 (by decide) ?_
  refine lv_aload_n hx hb dL_law_446 rfl (lv_at hl 10 rfl) ?_
  refine lv_aload hx hb dL_law_447 (lv_at hl 9 rfl) ?_
  refine lv_aload hx hb dL_law_449 (lv_at hl 8 rfl) ?_
  refine lv_aload hx hb dL_law_451 (lv_at hl 6 rfl) ?_
  refine lv_aload_n hx hb dL_law_453 rfl (lv_at hl 11 rfl) ?_
  refine tp_callS ⟨hx, hb, hml, hown, hts⟩ (lf_closes l D cy n ad o I 0 c0 (RH 0 hn1).1 e0 (aF 0) (RH 0 hn1).2.1 he48) (va_cwS 6 hts gL_law_L_closes rfl rfl rfl (by decide +kernel) ⟨(Nat.le_of_ble_eq_true rfl), (Nat.le_of_ble_eq_true rfl)⟩) hK hP hD hS hA rfl hl.1 rfl (Nat.le_of_ble_eq_true rfl) dL_law_454 ⟨Nat.le_trans (by omega : cells ≤ cells + 100) hcs.1, Nat.le_trans (by omega : slots ≤ slots + 1000) hcs.2⟩ (fun I9 e9 H locs hP hD hS => ?_)
  subst e9
  have hP : va_P D vwCl (tp_w cy n ad (tl_all I aF e0 1) o) H := hP
  have hD : va_D (tp_Al s) (tp_w cy n ad (tl_all I aF e0 1) o) := hD
  refine lv_istore (lv' := [(14, .int (tp_paym I (9 + 15 * 0) (aF 0) e0)), (13, .int 1), (12, .int x12), (11, .int x11), (10, .int z), (9, .int (nI t)), (8, .ref (ad (8))), (7, .ref (ad (7))), (6, .ref (ad (6))), (5, .ref (ad (5))), (4, .ref (ad (4))), (3, .ref (ad (3))), (2, .ref (ad (2))), (1, .ref (ad (0))), (0, .ref b)]) hx hb dL_law_457 hl (by decide) rfl (fun ls hl => ?_)
  refine lv_iload hx hb dL_law_459 (lv_at hl 0 rfl) ?_
  refine lv_aload_n hx hb dL_law_461 rfl (lv_at hl 12 rfl) ?_
  refine lv_iconst (v := 0) hx hb dL_law_462 (by decide) ?_
  refine tp_iald hx hb hK hP (2) 12 (0) (by omega) rfl (by decide) (by decide) (by decide) dL_law_463 ?_
  refine tp_eqi (y := (nI e0)) a20 ?_
  refine lv_bipush (v := 48) hx hb dL_law_464 (by decide) ?_
  refine lv_icmp_ge (tgt := 491) hx hb dL_law_466 (by decide) (fun c => absurd c (nI_ge (b := 48) (by omega) (by decide))) (fun _ => ?_)
  refine lv_aload_n hx hb dL_law_469 rfl (lv_at hl 12 rfl) ?_
  refine lv_iconst (v := 1) hx hb dL_law_470 (by decide) ?_
  refine tp_iald hx hb hK hP (2) 12 (1) (by omega) rfl (by decide) (by decide) (by decide) dL_law_471 ?_
  refine tp_eqi (y := (nI n)) a21 ?_
  refine lv_iconst (v := 1) hx hb dL_law_472 (by decide) ?_
  refine lv_icmp_le (tgt := 491) hx hb dL_law_473 (by decide) (fun c => absurd c (nI_ge (a := 1) (by omega) (by omega))) (fun _ => ?_)
  refine lv_iconst (v := 1) hx hb dL_law_476 (by decide) ?_
  refine lv_aload_n hx hb dL_law_477 rfl (lv_at hl 11 rfl) ?_
  refine lv_aload hx hb dL_law_478 (lv_at hl 10 rfl) ?_
  refine lv_aload hx hb dL_law_480 (lv_at hl 8 rfl) ?_
  refine lv_aload hx hb dL_law_482 (lv_at hl 6 rfl) ?_
  refine lv_aload_n hx hb dL_law_484 rfl (lv_at hl 12 rfl) ?_
  refine tp_callS ⟨hx, hb, hml, hown, hts⟩ (lf_closes l D cy n ad o (tl_all I aF e0 1) 1 c0 (tl_all_H (aF := aF) (RH 1 hn2b) (by decide)).1 e0 (aF 1) (tl_all_H (aF := aF) (RH 1 hn2b) (by decide)).2.1 he48) (va_cwS 6 hts gL_law_L_closes rfl rfl rfl (by decide +kernel) ⟨(Nat.le_of_ble_eq_true rfl), (Nat.le_of_ble_eq_true rfl)⟩) hK hP hD hS hA rfl hl.1 rfl (Nat.le_of_ble_eq_true rfl) dL_law_485 ⟨Nat.le_trans (by omega : cells ≤ cells + 100) hcs.1, Nat.le_trans (by omega : slots ≤ slots + 1000) hcs.2⟩ (fun I9 e9 H locs hP hD hS => ?_)
  subst e9
  have hP : va_P D vwCl (tp_w cy n ad (tl_all I aF e0 2) o) H := hP
  have hD : va_D (tp_Al s) (tp_w cy n ad (tl_all I aF e0 2) o) := hD
  refine lv_goto (tgt := 492) hx hb dL_law_488 (by decide) ?_
  refine lv_iadd hx hb dL_law_492 ?_
  refine lv_istore (lv' := [(14, .int ((tp_paym I (9 + 15 * 0) (aF 0) e0) + (tp_paym (tl_all I aF e0 1) (9 + 15 * 1) (aF 1) e0))), (13, .int 1), (12, .int x12), (11, .int x11), (10, .int z), (9, .int (nI t)), (8, .ref (ad (8))), (7, .ref (ad (7))), (6, .ref (ad (6))), (5, .ref (ad (5))), (4, .ref (ad (4))), (3, .ref (ad (3))), (2, .ref (ad (2))), (1, .ref (ad (0))), (0, .ref b)]) hx hb dL_law_493 hl (by decide) rfl (fun ls hl => ?_)
  refine lv_aload_n hx hb dL_law_495 rfl (lv_at hl 12 rfl) ?_
  refine lv_iconst (v := 0) hx hb dL_law_496 (by decide) ?_
  refine lv_dup2_11 hx hb dL_law_497 rfl rfl ?_
  refine tp_iald hx hb hK hP (2) 12 (0) (by omega) rfl (by decide) (by decide) (by decide) dL_law_498 ?_
  refine tp_eqi (y := (nI e0)) b20 ?_
  refine lv_aload_n hx hb dL_law_499 rfl (lv_at hl 12 rfl) ?_
  refine lv_iconst (v := 0) hx hb dL_law_500 (by decide) ?_
  refine tp_iald hx hb hK hP (2) 12 (0) (by omega) rfl (by decide) (by decide) (by decide) dL_law_501 ?_
  refine tp_eqi (y := (nI e0)) b20 ?_
  refine lv_bipush (v := 48) hx hb dL_law_502 (by decide) ?_
  refine lv_icmp_ne (tgt := 511) hx hb dL_law_504 (by decide) (fun _ => ?_) (fun c => absurd c (fun q => absurd (tp_nIj (b := 48) q (by omega) (by decide)) (by omega)))
  refine lv_iconst (v := 1) hx hb dL_law_511 (by decide) ?_
  refine lv_iadd hx hb dL_law_512 ?_
  refine tp_eqi (y := nI (e0 + 1)) (nI_add e0 1) ?_
  refine tp_iast hx hb hK hP hD hS (2) 12 (0) (by omega) (fun _ => rfl) (by decide) (by decide) (by decide) dL_law_513 (fun H locs hP hD hS => ?_)
  obtain rfl : n = 2 := by omega
  have j0 : (tp_u (tl_all I aF e0 2) 2 0 (nI (e0 + 1))) 0 = I 0 := by rw [tp_u_oth (by omega), tl_all_oth (by omega) (by omega) 2 (by decide)]
  obtain ⟨q1, q2⟩ := tq_close (I := I) (e := e0) (aF := aF) hn2 h01 h21 he48 hc64 (by decide) h22 RR RF RH
  refine lv_aload_n hx hb dL_law_514 rfl (lv_at hl 13 rfl) ?_
  refine lv_iconst (v := 3) hx hb dL_law_515 (by decide) ?_
  refine lv_iconst (v := 0) hx hb dL_law_516 (by decide) ?_
  refine lv_iconst (v := 0) hx hb dL_law_517 (by decide) ?_
  refine lv_iconst (v := 0) hx hb dL_law_518 (by decide) ?_
  refine lv_iconst (v := 0) hx hb dL_law_519 (by decide) ?_
  refine tp_callL ⟨hx, hb, hml, hown, hts⟩ (lk_close_ok l D cy 2 ad o (tp_u (tl_all I aF e0 2) 2 0 (nI (e0 + 1))) sa tL tM hlt 0 0 0 0 aF e0 (by decide) (by rw [j0]; exact h02) he48 (fun h hh => by rw [tp_u_oth (by omega), tl_all_oth (by omega) (by omega) 2 (by decide)]; exact (RH h hh).2.2.1) (fun h hh => (RH h hh).2.1.1.2.1)) (vx_cwSW 6 hts gL_law_L_calls rfl rfl rfl (by decide +kernel) ⟨(Nat.le_of_ble_eq_true rfl), (Nat.le_of_ble_eq_true rfl)⟩) hE hK hP hD hS hA rfl hl.1 rfl (Nat.le_of_ble_eq_true rfl) dL_law_520 ⟨Nat.le_trans (by omega : cells + 0 ≤ cells + 100) hcs.1, Nat.le_trans (by omega : slots + 0 ≤ slots + 1000) hcs.2⟩ (fun H locs hP hD hS => ?_)
  refine tp_eqi (y := tl_sum I aF e0 2) q1 ?_
  refine lv_iload hx hb dL_law_523 (lv_at hl 0 rfl) ?_
  refine lv_icmp_ne (tgt := 532) hx hb dL_law_525 (by decide) (fun c => absurd (show tl_sum I aF e0 2 = _ by show 0 + tp_paym I (9 + 15 * 0) (aF 0) e0 + tp_paym (tl_all I aF e0 1) (9 + 15 * 1) (aF 1) e0 = _; rw [Int32.zero_add]) c) (fun _ => ?_)
  refine lv_iconst (v := 1) hx hb dL_law_528 (by decide) ?_
  refine lv_goto (tgt := 533) hx hb dL_law_529 (by decide) ?_
  refine lv_istore (lv' := [(13, .int 1), (14, .int ((tp_paym I (9 + 15 * 0) (aF 0) e0) + (tp_paym (tl_all I aF e0 1) (9 + 15 * 1) (aF 1) e0))), (12, .int x12), (11, .int x11), (10, .int z), (9, .int (nI t)), (8, .ref (ad (8))), (7, .ref (ad (7))), (6, .ref (ad (6))), (5, .ref (ad (5))), (4, .ref (ad (4))), (3, .ref (ad (3))), (2, .ref (ad (2))), (1, .ref (ad (0))), (0, .ref b)]) hx hb dL_law_533 hl (by decide) rfl (fun ls hl => ?_)
  refine W.widen (k := cells + 100) (n := slots + 1000) (by omega) (by omega) ?_
  exact kk 2 ad _ H locs ls (by decide) q2 ⟨hP, hD, hS⟩ (lv_sub hl [0, 4, 5, 6, 7, 8, 9, 10, 11, 12, 13, 14] rfl)
