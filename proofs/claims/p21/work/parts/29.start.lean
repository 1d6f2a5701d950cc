/-! THE CLAIM OUT OF ONE WALK OF THE LAW'S BODY. Your part is whole_start (and what it stands on); all else here is the same for every law, but numbers. -/
def R_law : String := "TaperOfficeLaw"
def lw_P (b : Addr) (xs : List Int32) (args : Array Value) (s : State) : Prop := args = #[.ref b] ∧ s.IntsAt b xs ∧ xs.length ≤ 260 ∧ (Jvm.Cond.and given_1 narrow_1).before args s = true
def lw_Q (_ : Array Value) (s : State) (o : Outcome) (t : State) : Prop := o = .returned (some (.int 1)) ∧ Framed s o t [] 600104 7301314
def lw_Z (below : List Frame) (a : Array Value) (s : State) : State → Prop := fun t => ∃ o, t.status = .running ∧ Ended t below o ∧ lw_Q a s o t
/-- the law's own end, with 1 on the stack, nothing written that was there before, its room as the claim has it -/
theorem lw_ret {p : Program} {l : Launch} {e : Env} {s : State} {m : MethodId} {below : List Frame} {meth : Method} {c : Code} {b : Nat} (hx : p.tables.exec = Jvm.exec) (hb : c.code = code) (hr : meth.sig.returnType = ret) (hlocks : meth.locks = false) {pc : Nat} {H : Heap} {ls : Array Slot} (hdg : decode code pc = .ok (.ireturn, 1)) : W p l e room_1 s m #[Value.ref b] below meth c H [] 600104 7301314 (lw_Z below #[Value.ref b] s) (F0 m pc ls [.int 1]) := by
  intro T hT X
  obtain ⟨fs, hret, hrun, hended, hW, hframe⟩ := X.leave (v := some (.int 1)) (hlocks := hlocks) (fun h => by rw [hr] at h; cases h)
  have hmeth' : T.vm.method? m = some meth := X.method'
  refine ⟨T.setFrames fs, ?_, .returned (some (.int 1)), hrun, hended, rfl, ⟨_, rfl⟩, hW, hframe⟩
  jvm_step X.here [X.here.top, hx, hb, hdg, hmeth', hr, ret, narrow_b1]
  (try refine ⟨rfl, ?_⟩); (try refine ⟨rfl, ?_⟩)
  first | (intro acts; rw [hret _ acts rfl rfl rfl]) | rw [hret _ _ rfl rfl rfl]
  exact Steps.refl _
/-- what holds at the law's entry: the machine, the code, the tables' words (any of lw_tbl by 'hts w (by decide +kernel)'), the script of L ints xs at the cell b, what the Statement gives of the start (any of its parts by flat_of_before) -/
def lw_At (p : Program) (s : State) (m : MethodId) (meth : Method) (c : Code) (b L : Nat) (xs : Nat → Int32) : Prop :=
  p.tables.exec = Jvm.exec ∧ c.code = code ∧ meth.sig.returnType = ret ∧ c.maxLocals = 16 ∧ s.vm.findClass R_law = some m.cls ∧ (∀ w ∈ lw_tbl, w.before #[Value.ref b] s = true) ∧ va_X b L xs s s.heap ∧ b < s.heap.size ∧ meth.locks = false ∧ (Jvm.Cond.and given_1 narrow_1).before #[Value.ref b] s = true
theorem tp_cx {p : Program} {s : State} {m : MethodId} {meth : Method} {c : Code} {b L : Nat} {xs : Nat → Int32} (C0 : lw_At p s m meth c b L xs) : tp_CX p s m meth c b L xs := ⟨C0.1, C0.2.1, C0.2.2.2.1, C0.2.2.2.2.1, fun w h => C0.2.2.2.2.2.1 w (wsL_law_in w h), C0.2.2.2.2.2.2.1, C0.2.2.2.2.2.2.2.1⟩
set_option maxHeartbeats 4000000 in
/-- the loop, to the law's end -/
theorem lx_loop (l : Launch) (hlt : l.stackTraces = false) {p : Program} {e : Env} {s : State} {m : MethodId} {below : List Frame} {meth : Method} {c : Code} {b L : Nat} {xs : Nat → Int32} (C1 : lw_At p s m meth c b L xs) (hL : L ≤ 260) {D : va_G} {cy : Nat → ClassId} {o : Int64} {sa : Nat → Nat} {tL tM : Nat} (hE : tp_EV sa tL tM (tp_Al s) s s.heap) (hK : va_K D vwCl (tp_ty cy) s) :
    ∀ (f t n : Nat) (ad : Nat → Nat) (I : Nat → Nat → Int32) (H : Heap) (locs : List Loc) (cells slots : Nat) (ls : Array Slot), t + f = 110 → tp_Wd D cy n ad I o s H locs → cells ≤ 100 + 200 * t → slots ≤ 10000 + 2000 * t → lv_has ls 16 (tp_lv b ad t) → tq_rel n I →
      W p l e room_1 s m #[Value.ref b] below meth c H locs cells slots (lw_Z below #[Value.ref b] s) (F0 m 51 ls []) := by
  have C0 := tp_cx C1
  obtain ⟨hx, hb, hml, hown, hts, hX, hbl⟩ := id C0
  intro f
  induction f with
  | zero =>
    intro t n ad I H locs cells slots ls h1 hW0 hc1 hc2 hl hR
    obtain ⟨hP, hD, hS⟩ := id hW0
    obtain rfl : t = 110 := h1
    have hl' : lv_has ls 16 [(9, .int (nI 110)), (8, .ref (ad 8)), (7, .ref (ad 7)), (6, .ref (ad 6)), (5, .ref (ad 5)), (4, .ref (ad 4)), (3, .ref (ad 3)), (2, .ref (ad 2)), (1, .ref (ad 0)), (0, .ref b)] := hl
    refine lv_iload hx hb dL_law_51 (lv_at hl' 0 rfl) ?_
    refine lv_bipush (v := 110) hx hb dL_law_53 (by decide) ?_
    refine lv_icmp_ge (tgt := 635) hx hb dL_law_55 (by decide) (fun _ => ?_) (fun c1 => absurd (nI_le (a := 110) (b := 110) (by decide) (by decide)) c1)
    refine va_forget hS.2.2 (W.widen (k := 600104) (n := 7301314) (by omega) (by omega) ?_)
    refine lv_iconst (v := 1) hx hb dL_law_635 (by decide) ?_
    exact lw_ret C1.1 C1.2.1 C1.2.2.1 C1.2.2.2.2.2.2.2.2.1 dL_law_636
  | succ f ih =>
    intro t n ad I H locs cells slots ls h1 hW0 hc1 hc2 hl hR
    have key : ∀ (n2 : Nat) (ad2 : Nat → Nat) (I2 : Nat → Nat → Int32) (H1 : Heap) (locs1 : List Loc) (ls1 : Array Slot), 1 ≤ n2 → tq_rel n2 I2 → tp_Wd D cy n2 ad2 I2 o s H1 locs1 → lv_has ls1 16 ((13, .int 1) :: (10, .int (tl_cell L xs t)) :: tp_lv b ad2 t) → W p l e room_1 s m #[Value.ref b] below meth c H1 locs1 (cells + 100) (slots + 1000) (lw_Z below #[Value.ref b] s) (F0 m 535 ls1 []) := fun n2 ad2 I2 H1 locs1 ls1 q1 q2 q3 q4 =>
      lx_end l hlt C0 (tl_cell L xs t) hE hK q3 ⟨by omega, by omega⟩ q4 q2 q1 (by omega) (fun H2 locs2 ls2 q5 q6 => ih (t + 1) n2 ad2 I2 H2 locs2 _ _ ls2 (by omega) q5 (by omega) (by omega) q6 q2)
    rcases Nat.eq_zero_or_pos n with q | q
    · exact lx_turn0 l hlt C0 hL (by omega) hE hK hW0 ⟨by omega, by omega⟩ hl hR q key
    · exact lx_turn1 l hlt C0 hL (by omega) hE hK hW0 ⟨by omega, by omega⟩ hl hR q key
def te_ad (q0 q1 q2 q3 q4 q5 q6 q7 q8 : Nat) : Nat → Nat := fun k => [q0, q1, q2, q3, q4, q5, q6, q7, q8].getD k 0
theorem te_w {cy : Nat → ClassId} {q0 q1 q2 q3 q4 q5 q6 q7 q8 : Nat} : ([(q0, .inr (1, [.ref q1, .int 0, .int 0])), (q1, .inl (cy 3, 6, .inr (.inr (.inr (.inr (fun _ => none)))))), (q2, .inl (cy 0, 12, .inl (fun _ => 0))), (q3, .inl (cy 0, 64, .inl (fun _ => 0))), (q4, .inl (cy 0, 64, .inl (fun _ => 0))), (q5, .inl (cy 0, 48, .inl (fun _ => 0))), (q6, .inl (cy 0, 48, .inl (fun _ => 0))), (q7, .inl (cy 0, 48, .inl (fun _ => 0))), (q8, .inl (cy 0, 48, .inl (fun _ => 0)))] : va_W) = tp_w cy 0 (te_ad q0 q1 q2 q3 q4 q5 q6 q7 q8) (fun _ _ => 0) 0 := by
  have e : ((fun _ => none) : Nat → Option Nat) = tp_rf 0 (fun j => te_ad q0 q1 q2 q3 q4 q5 q6 q7 q8 (9 + 15 * j)) := by
    funext j
    unfold tp_rf
    rw [if_neg (by omega)]
  rw [e]
  rfl
theorem te_rel : tq_rel 0 (fun _ _ => 0) := ⟨by decide, rfl, rfl, 0, 0, fun _ => 0, fun _ => 0, ⟨by decide, by decide, fun _ => rfl, rfl, rfl, rfl⟩, fun j hj => by omega, fun h _ _ => ⟨rfl, rfl, rfl, fun m _ => ⟨rfl, rfl⟩⟩, fun h hh => by omega⟩
set_option maxHeartbeats 4000000 in
set_option maxRecDepth 100000 in
/-- from the entry, for every script of at most 260 ints, the law comes to its end with true -/
theorem whole_start {p : Program} {e : Env} {s : State} {m : MethodId} {below : List Frame} {meth : Method} {c : Code} (l : Launch) (hflags : l.flags = flags0) {b L : Nat} {xs : Nat → Int32} (hL : L ≤ 260) (C0 : lw_At p s m meth c b L xs) : W p l e room_1 s m #[Value.ref b] below meth c s.heap [] 0 0 (lw_Z below #[Value.ref b] s) (entryFrame m ([Value.ref b] : List Value).toArray 16) := by
  obtain ⟨hx, hb, hr, hml, hown, hts, hX, hbl, hlocks, hgv⟩ := id C0
  have hlt : l.stackTraces = false := by
    unfold Launch.stackTraces
    rw [hflags]
    decide
  have hA : ∀ q : Nat, s.heap.size ≤ q → tp_Al s q := fun _ h => h
  obtain ⟨sa, tL, tM, hE⟩ := te_env hts hgv
  obtain ⟨D, cy, hK⟩ := te_K hts
  have ht := fun w h => hts w (te_tbl w h)
  have hEa : va_AOA .int s := ht _ (List.mem_of_getElem? (i := 6) rfl)
  have hEo : va_AO "TaperOffice$Household" s := va_AO.of (ht _ (List.mem_of_getElem? (i := 7) rfl))
  have hts1 : ∀ w ∈ wsL_law, w.before #[Value.ref b] s = true := fun w h => hts w (wsL_law_in w h)
  have hS : va_S (tp_Al s) s.heap s.heap [] := va_S.rf
  have hP : va_P D vwCl [] s.heap := fun k q h => by simp at h
  have hD : va_D (tp_Al s) [] := ⟨fun i j p q h => by simp at h, fun k q h => by simp at h⟩
  have hl := lv_entry ([.ref b]) (n := 16) (Nat.le_of_ble_eq_true rfl)
  rw [lg_entry_eq]
  generalize (lg_sl ([.ref b]) ++ List.replicate (16 - (lg_sl ([.ref b])).length) Slot.unset).toArray = ls at hl ⊢
  have hl : lv_has ls 16 [(0, .ref b)] := hl
  refine va_new (ci := 1) (fs := [.null, .int 0, .int 0]) (C := RX1) (T := TX1) (N := 3) hx hb hts inX1 tyX1 tyX1_ok hown (ht _ (List.mem_of_getElem? (i := 11) rfl)) (ht _ (List.mem_of_getElem? (i := 10) rfl)) (ht _ (List.mem_of_getElem? (i := 12) rfl)) hK hP hD hS hA rfl (fun j hj => by rcases (show j = 0 ∨ j = 1 ∨ j = 2 by omega) with rfl | rfl | rfl <;> rfl) (Nat.le_of_ble_eq_true rfl) (Nat.le_of_ble_eq_true rfl) dL_law_0 (fun q0 H hP hD hS => ?_)
  refine lv_dup hx hb dL_law_3 rfl ?_
  have hA0 : tp_Al s q0 := hD.2 0 (q0, .inr (1, [.null, .int 0, .int 0])) rfl
  have hF : ∀ q, va_A [(q0, .inr (1, [.null, .int 0, .int 0]))] H.size q → tp_Al s q := by
    intro q hq
    rcases hq with ⟨k9, e9, h9⟩ | h9
    · have h0 : k9 < 1 := (List.getElem?_eq_some_iff.mp h9).1
      obtain rfl : k9 = 0 := by omega
      cases h9
      exact hA0
    · exact hA q (Nat.le_trans hS.1 h9)
  refine va_callv (va_runI (As := []) (rest := [.ref q0]) ⟨hx, hb, hml, hown, hts1⟩ (oc_init l D cy q0 0 0 H.size) (cwI 0 hts1 gL_law_X1_init rfl rfl rfl (ht _ (List.mem_of_getElem? (i := 12) rfl)) (ht _ (List.mem_of_getElem? (i := 13) rfl)) (ht _ (List.mem_of_getElem? (i := 14) rfl)) rfl (by decide +kernel) ⟨Nat.le_of_ble_eq_true rfl, Nat.le_of_ble_eq_true rfl⟩) ⟨tp_blindN, fun U hU hW => ⟨rfl, ⟨by rw [hU], by rw [hU]; exact tp_lastP hP, va_K.moved hW.alike hK, tp_lastD trivial⟩, va_AOA.moved hW.alike hEa, va_AO.moved hW.alike hEo⟩⟩ rfl rfl hl.1 rfl (lv_room (Nat.le_of_ble_eq_true rfl)) dL_law_4 ⟨Nat.le_of_ble_eq_true rfl, Nat.le_of_ble_eq_true rfl⟩) hS (fun q _ h => hF q h) hF (fun u1 t H1 locs ht1 hvm hw hB hz1 hk1 hS => ?_)
  obtain ⟨hP1, hK1, hD1⟩ := hB
  rw [ht1] at hP1
  obtain ⟨hP, hD⟩ := tp_join2 hP hD hF hk1 hP1 hD1
  refine lv_astore_n (lv' := [(1, .ref q0), (0, .ref b)]) hx hb dL_law_7 rfl hl (by decide) rfl (fun ls hl => ?_)
  clear hF
  refine lv_bipush (v := 12) hx hb dL_law_8 (by decide) ?_
  refine tp_newa (atype := .int) (ty := .int) (N' := 12) (a0 := (12, .inl (fun _ => 0))) hx hb 0 (ht _ (List.mem_of_getElem? (i := 8) rfl)) rfl rfl (fun _ _ => tp_raI) hK hP hD hS hA (fun _ => rfl) (by decide) (by decide) (by decide) (Nat.le_of_ble_eq_true rfl) (Nat.le_of_ble_eq_true rfl) dL_law_10 (fun q2 H hP hD hS => ?_)
  refine lv_astore_n (lv' := [(2, .ref q2), (1, .ref q0), (0, .ref b)]) hx hb dL_law_12 rfl hl (by decide) rfl (fun ls hl => ?_)
  refine lv_bipush (v := 64) hx hb dL_law_13 (by decide) ?_
  refine tp_newa (atype := .int) (ty := .int) (N' := 64) (a0 := (64, .inl (fun _ => 0))) hx hb 0 (ht _ (List.mem_of_getElem? (i := 8) rfl)) rfl rfl (fun _ _ => tp_raI) hK hP hD hS hA (fun _ => rfl) (by decide) (by decide) (by decide) (Nat.le_of_ble_eq_true rfl) (Nat.le_of_ble_eq_true rfl) dL_law_15 (fun q3 H hP hD hS => ?_)
  refine lv_astore_n (lv' := [(3, .ref q3), (2, .ref q2), (1, .ref q0), (0, .ref b)]) hx hb dL_law_17 rfl hl (by decide) rfl (fun ls hl => ?_)
  refine lv_bipush (v := 64) hx hb dL_law_18 (by decide) ?_
  refine tp_newa (atype := .int) (ty := .int) (N' := 64) (a0 := (64, .inl (fun _ => 0))) hx hb 0 (ht _ (List.mem_of_getElem? (i := 8) rfl)) rfl rfl (fun _ _ => tp_raI) hK hP hD hS hA (fun _ => rfl) (by decide) (by decide) (by decide) (Nat.le_of_ble_eq_true rfl) (Nat.le_of_ble_eq_true rfl) dL_law_20 (fun q4 H hP hD hS => ?_)
  refine lv_astore (lv' := [(4, .ref q4), (3, .ref q3), (2, .ref q2), (1, .ref q0), (0, .ref b)]) hx hb dL_law_22 hl (by decide) rfl (fun ls hl => ?_)
  refine lv_bipush (v := 48) hx hb dL_law_24 (by decide) ?_
  refine tp_newa (atype := .int) (ty := .int) (N' := 48) (a0 := (48, .inl (fun _ => 0))) hx hb 0 (ht _ (List.mem_of_getElem? (i := 8) rfl)) rfl rfl (fun _ _ => tp_raI) hK hP hD hS hA (fun _ => rfl) (by decide) (by decide) (by decide) (Nat.le_of_ble_eq_true rfl) (Nat.le_of_ble_eq_true rfl) dL_law_26 (fun q5 H hP hD hS => ?_)
  refine lv_astore (lv' := [(5, .ref q5), (4, .ref q4), (3, .ref q3), (2, .ref q2), (1, .ref q0), (0, .ref b)]) hx hb dL_law_28 hl (by decide) rfl (fun ls hl => ?_)
  refine lv_bipush (v := 48) hx hb dL_law_30 (by decide) ?_
  refine tp_newa (atype := .int) (ty := .int) (N' := 48) (a0 := (48, .inl (fun _ => 0))) hx hb 0 (ht _ (List.mem_of_getElem? (i := 8) rfl)) rfl rfl (fun _ _ => tp_raI) hK hP hD hS hA (fun _ => rfl) (by decide) (by decide) (by decide) (Nat.le_of_ble_eq_true rfl) (Nat.le_of_ble_eq_true rfl) dL_law_32 (fun q6 H hP hD hS => ?_)
  refine lv_astore (lv' := [(6, .ref q6), (5, .ref q5), (4, .ref q4), (3, .ref q3), (2, .ref q2), (1, .ref q0), (0, .ref b)]) hx hb dL_law_34 hl (by decide) rfl (fun ls hl => ?_)
  refine lv_bipush (v := 48) hx hb dL_law_36 (by decide) ?_
  refine tp_newa (atype := .int) (ty := .int) (N' := 48) (a0 := (48, .inl (fun _ => 0))) hx hb 0 (ht _ (List.mem_of_getElem? (i := 8) rfl)) rfl rfl (fun _ _ => tp_raI) hK hP hD hS hA (fun _ => rfl) (by decide) (by decide) (by decide) (Nat.le_of_ble_eq_true rfl) (Nat.le_of_ble_eq_true rfl) dL_law_38 (fun q7 H hP hD hS => ?_)
  refine lv_astore (lv' := [(7, .ref q7), (6, .ref q6), (5, .ref q5), (4, .ref q4), (3, .ref q3), (2, .ref q2), (1, .ref q0), (0, .ref b)]) hx hb dL_law_40 hl (by decide) rfl (fun ls hl => ?_)
  refine lv_bipush (v := 48) hx hb dL_law_42 (by decide) ?_
  refine tp_newa (atype := .int) (ty := .int) (N' := 48) (a0 := (48, .inl (fun _ => 0))) hx hb 0 (ht _ (List.mem_of_getElem? (i := 8) rfl)) rfl rfl (fun _ _ => tp_raI) hK hP hD hS hA (fun _ => rfl) (by decide) (by decide) (by decide) (Nat.le_of_ble_eq_true rfl) (Nat.le_of_ble_eq_true rfl) dL_law_44 (fun q8 H hP hD hS => ?_)
  refine lv_astore (lv' := [(8, .ref q8), (7, .ref q7), (6, .ref q6), (5, .ref q5), (4, .ref q4), (3, .ref q3), (2, .ref q2), (1, .ref q0), (0, .ref b)]) hx hb dL_law_46 hl (by decide) rfl (fun ls hl => ?_)
  have hP : va_P D vwCl (tp_w cy 0 (te_ad q0 (u1 1) q2 q3 q4 q5 q6 q7 q8) (fun _ _ => 0) 0) H := by
    rw [← te_w]
    exact hP
  have hD : va_D (tp_Al s) (tp_w cy 0 (te_ad q0 (u1 1) q2 q3 q4 q5 q6 q7 q8) (fun _ _ => 0) 0) := by
    rw [← te_w]
    exact hD
  refine lv_iconst (v := 0) hx hb dL_law_48 (by decide) ?_
  refine lv_istore (lv' := [(9, .int 0), (8, .ref q8), (7, .ref q7), (6, .ref q6), (5, .ref q5), (4, .ref q4), (3, .ref q3), (2, .ref q2), (1, .ref q0), (0, .ref b)]) hx hb dL_law_49 hl (by decide) rfl (fun ls hl => ?_)
  exact lx_loop l hlt C0 hL hE hK 110 0 0 (te_ad q0 (u1 1) q2 q3 q4 q5 q6 q7 q8) (fun _ _ => 0) H _ _ _ ls (by omega) ⟨hP, hD, hS⟩ (Nat.le_of_ble_eq_true rfl) (Nat.le_of_ble_eq_true rfl) hl te_rel
