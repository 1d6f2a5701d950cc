/-! THE LAW'S OWN METHODS: each calls the office and catches what it throws -/
def tp_L (l : Launch) (y : MethodName) (ws : List Cond) (fr lo mc ms : Nat) (D : va_G) (cy : Nat → ClassId) (n : Nat) (ad : Nat → Nat) (sa : Nat → Nat) (tL tM : Nat) (as : List Value) (I : Nat → Nat → Int32) (o : Int64) (r : Int32) (I' : Nat → Nat → Int32) (o' : Int64) : Prop :=
  ∀ sz : Nat, Met l y ws { frames := fr, cells := mc, slots := ms, locals := lo } (va_Pc as (tp_PE D cy n ad I o sa tL tM sz)) (va_Qi (fun x u => x = r ∧ u = I') (tp_B D cy n ad o' (va_A (tp_w cy n ad I o) sz)) (va_A (tp_w cy n ad I o) sz)) mc ms (va_A (tp_w cy n ad I o) sz)
section TPL
variable {D : va_G} {cy : Nat → ClassId} {n : Nat} {ad : Nat → Nat} {I : Nat → Nat → Int32} {o : Int64} {sa : Nat → Nat} {tL tM : Nat}
theorem tp_ofL {l : Launch} {y : MethodName} {ws ws' : List Cond} {fr lo mc ms : Nat} {I' : Nat → Nat → Int32} {o' : Int64} {as : List Value} {r : Int32} {cc : ByteArray} {maxL : Nat} {ret : Option FieldType} {hh : List (Nat × Nat × Nat × Nat)} {lv : List (Nat × Value)}
    (hy : plainName y.cls = true) (hw : ws = Cond.codeWith y cc maxL ret hh :: ws') (hlen : (lg_sl as).length ≤ maxL) (hlv : lv_args 0 as = lv)
    (body : ∀ (p : Program) (e : Env) (s : State) (m : MethodId) (args : Array Value) (below : List Frame) (meth : Method) (c : Code) (A : Nat → Prop) (ls : Array Slot), tp_S p s m args meth c y ws cc maxL ret D cy n ad o I A ls lv → tp_EV sa tL tM A s s.heap → c.exceptionTable.toList = tableOf hh →
      W p l e { frames := fr, cells := mc, slots := ms, locals := lo } s m args below meth c s.heap [] 0 0 (MQ below (va_Qi (fun x u => x = r ∧ u = I') (tp_B D cy n ad o' A) A) args s mc ms A) (F0 m 0 ls [])) :
    tp_L l y ws fr lo mc ms D cy n ad sa tL tM as I o r I' o' := by
  intro sz
  refine va_MetW (cc := cc) (maxL := maxL) (ret := ret) (hh := hh) hy hw ?_
  intro p e s m args below meth c s₁ B hml hv
  obtain ⟨rfl, ⟨hsz, hP, hK, hD0⟩, hE⟩ := hv
  subst hsz
  have hown : s.vm.findClass y.cls = some m.cls := findClass_of_methodNamed B.named
  have hD := hD0.self (sz := s.heap.size)
  generalize hAe : va_A (tp_w cy n ad I o) s.heap.size = A at hD hE ⊢
  have hA : ∀ q : Nat, s.heap.size ≤ q → A q := fun q h => by rw [← hAe]; exact Or.inr h
  have hl := lv_entry as (n := maxL) hlen
  rw [hlv] at hl
  rw [lg_entry_eq]
  have hts := atoms_spec (ws := ws) B.pre
  exact body p e s m _ below meth c A _ ⟨B.exec, B.bytes, B.returns, hml, hown, hts, B.notSynchronized, hA, hK, hP, hD, va_S.rf, hl⟩ hE (vx_table (x := y) B (hts _ (by rw [hw]; exact List.mem_cons_self)))
section TPLR
variable {p : Program} {l : Launch} {e : Env} {R : Room} {s : State} {m : MethodId} {args : Array Value} {below : List Frame} {meth : Method} {c : Code} {H : Heap} {locs : List Loc} {cells slots : Nat} {Q : State → Prop}
variable {cc : ByteArray} {pc : Nat} {ls : Array Slot} {rest : List Value} {A : Nat → Prop} {H0 : Heap}
theorem tp_retL {I1 I' : Nat → Nat → Int32} {o' : Int64} {v r : Int32} {ty : FieldType} (hx : p.tables.exec = Jvm.exec) (hb : c.code = cc) (hr : meth.sig.returnType = some ty) (hlocks : meth.locks = false) (hK : va_K D vwCl (tp_ty cy) s) (hP : va_P D vwCl (tp_w cy n ad I1 o') H) (hD : va_D A (tp_w cy n ad I1 o')) (hS : va_S A s.heap H locs) (hn : narrow ty (.int v) = .int v) (ev : v = r) (eI : I1 = I') (hdg : decode cc pc = .ok (.ireturn, 1)) :
    W p l e R s m args below meth c H locs cells slots (MQ below (va_Qi (fun x u => x = r ∧ u = I') (tp_B D cy n ad o' A) A) args s cells slots A) (F0 m pc ls [.int v]) := by
  subst ev
  subst eI
  exact W.zret (v := v) hx hb hr hn (fun t ht hW => ⟨⟨v, I1, rfl, ⟨rfl, rfl⟩, by rw [ht]; exact hP, va_K.moved hW.alike hK, hD⟩, hS.F ht⟩) hS.2.2 hdg
theorem tp_callE {own C : String} {index nA nL maxL fr lo : Nat} {y : MethodName} {bytes : ByteArray} {ret : Option FieldType} {ws Ts : List Cond} {b : Nat} {As st fs : List Value} {r : Int32} {I' : Nat → Nat → Int32} {q : vw_C}
    (S : CallFix p m c cc nL s args Ts own) (hM : tp_IE l y ws (tp_rm fr lo) D cy n ad o sa tL tM (.ref b :: As) I r I') (cw : CallW R s args own C index y bytes maxL ret ws (tp_rm fr lo) 0 0 nA) (hE : tp_EV sa tL tM A s s.heap) (hK : va_K D vwCl (tp_ty cy) s) (hP : va_P D vwCl (tp_w cy n ad I o) H) (hD : va_D A (tp_w cy n ad I o)) (hS : va_S A s.heap H locs) (hA : ∀ q : Nat, s.heap.size ≤ q → A q)
    (k0 ci : Nat) (he : (tp_w cy n ad I o)[k0]? = some (b, .inr (ci, fs))) (hci : vwCl[ci]? = some q) (hqC : q.1 = C) (hn : As.length = nA) (hls : ls.size = nL) (hst : st = As.reverse ++ .ref b :: rest) (hroom : (rest.map fun v => v.category).sum ≤ 8) (hdg : decode cc pc = .ok (.invokevirtual index, 3)) (hcs : cells ≤ R.cells ∧ slots ≤ R.slots)
    (kk : ∀ I1 : Nat → Nat → Int32, I' = I1 → ∀ (H1 : Heap) (locs1 : List Loc), va_P D vwCl (tp_w cy n ad I1 o) H1 → va_D A (tp_w cy n ad I1 o) → va_S A s.heap H1 locs1 → W p l e R s m args below meth c H1 locs1 cells slots Q (F0 m (pc + 3) ls (.int r :: rest))) : W p l e R s m args below meth c H locs cells slots Q (F0 m pc ls st) := by
  subst hst
  subst hqC
  have hF := tp_fr hD hS hA
  refine va_calli (va_runV (As := As) (rest := rest) S (hM H.size) cw ⟨tp_blindE, va_recv hK hP hci he, fun U hU hW => ⟨rfl, ⟨by rw [hU], by rw [hU]; exact hP, va_K.moved hW.alike hK, hD.weaken (fun _ _ _ _ => trivial)⟩, tp_EV.go hE hW hU hS hF⟩⟩ rfl hn hls rfl (lv_room hroom) hdg hcs) hS (fun q _ h => hF q h) hF (fun r1 u t H1 locs1 ht hvm hw hB hz1 hk1 hS1 => ?_)
  obtain ⟨rfl, rfl⟩ := hw
  obtain ⟨hP1, hK1, hD1⟩ := hB
  rw [ht] at hP1
  exact kk _ rfl H1 locs1 hP1 (hD1.weaken (fun _ _ _ h => hF _ h)) hS1
theorem tp_callL {own : String} {index nA nL maxL fr lo mc ms : Nat} {y : MethodName} {bytes : ByteArray} {ret : Option FieldType} {hh : List (Nat × Nat × Nat × Nat)} {ws Ts : List Cond} {As st : List Value} {r : Int32} {I' : Nat → Nat → Int32} {o' : Int64}
    (S : CallFix p m c cc nL s args Ts own) (hM : tp_L l y ws fr lo mc ms D cy n ad sa tL tM As I o r I' o') (cw : vx_CSW R s args own index y bytes maxL ret hh ws { frames := fr, cells := mc, slots := ms, locals := lo } mc ms nA) (hE : tp_EV sa tL tM A s s.heap) (hK : va_K D vwCl (tp_ty cy) s) (hP : va_P D vwCl (tp_w cy n ad I o) H) (hD : va_D A (tp_w cy n ad I o)) (hS : va_S A s.heap H locs) (hA : ∀ q : Nat, s.heap.size ≤ q → A q)
    (hn : As.length = nA) (hls : ls.size = nL) (hst : st = As.reverse ++ rest) (hroom : (rest.map fun v => v.category).sum ≤ 8) (hdg : decode cc pc = .ok (.invokestatic index, 3)) (hcs : cells + mc ≤ R.cells ∧ slots + ms ≤ R.slots)
    (kk : ∀ (H1 : Heap) (locs1 : List Loc), va_P D vwCl (tp_w cy n ad I' o') H1 → va_D A (tp_w cy n ad I' o') → va_S A s.heap H1 locs1 → W p l e R s m args below meth c H1 locs1 (cells + mc) (slots + ms) Q (F0 m (pc + 3) ls (.int r :: rest))) : W p l e R s m args below meth c H locs cells slots Q (F0 m pc ls st) := by
  subst hst
  have hF := tp_fr hD hS hA
  refine va_calli (vx_runSW (As := As) (rest := rest) S (hM H.size) cw ⟨tp_blindE, fun U hU hW => ⟨rfl, ⟨by rw [hU], by rw [hU]; exact hP, va_K.moved hW.alike hK, hD.weaken (fun _ _ _ _ => trivial)⟩, tp_EV.go hE hW hU hS hF⟩⟩ rfl hn hls rfl (lv_room hroom) hdg hcs) hS (fun q _ h => hF q h) hF (fun r1 u t H1 locs1 ht hvm hw hB hz1 hk1 hS1 => ?_)
  obtain ⟨rfl, rfl⟩ := hw
  obtain ⟨hP1, hK1, hD1⟩ := hB
  rw [ht] at hP1
  exact kk H1 locs1 hP1 (hD1.weaken (fun _ _ _ h => hF _ h)) hS1
theorem tp_callSE {own : String} {index nA nL maxL fr lo : Nat} {y : MethodName} {bytes : ByteArray} {ret : Option FieldType} {ws Ts : List Cond} {As st : List Value} {r : Int32} {I' : Nat → Nat → Int32}
    (S : CallFix p m c cc nL s args Ts own) (hM : tp_IE l y ws (tp_rm fr lo) D cy n ad o sa tL tM As I r I') (cw : CallB R s args own index y bytes maxL ret ws (tp_rm fr lo) 0 0 nA ∧ (Cond.static y).before args s = true) (hE : tp_EV sa tL tM A s s.heap) (hK : va_K D vwCl (tp_ty cy) s) (hP : va_P D vwCl (tp_w cy n ad I o) H) (hD : va_D A (tp_w cy n ad I o)) (hS : va_S A s.heap H locs) (hA : ∀ q : Nat, s.heap.size ≤ q → A q)
    (hn : As.length = nA) (hls : ls.size = nL) (hst : st = As.reverse ++ rest) (hroom : (rest.map fun v => v.category).sum ≤ 8) (hdg : decode cc pc = .ok (.invokestatic index, 3)) (hcs : cells ≤ R.cells ∧ slots ≤ R.slots)
    (kk : ∀ I1 : Nat → Nat → Int32, I' = I1 → ∀ (H1 : Heap) (locs1 : List Loc), va_P D vwCl (tp_w cy n ad I1 o) H1 → va_D A (tp_w cy n ad I1 o) → va_S A s.heap H1 locs1 → W p l e R s m args below meth c H1 locs1 cells slots Q (F0 m (pc + 3) ls (.int r :: rest))) : W p l e R s m args below meth c H locs cells slots Q (F0 m pc ls st) := by
  subst hst
  have hF := tp_fr hD hS hA
  refine va_calli (va_runS (As := As) (rest := rest) S (hM H.size) cw ⟨tp_blindE, fun U hU hW => ⟨rfl, ⟨by rw [hU], by rw [hU]; exact hP, va_K.moved hW.alike hK, hD.weaken (fun _ _ _ _ => trivial)⟩, tp_EV.go hE hW hU hS hF⟩⟩ rfl hn hls rfl (lv_room hroom) hdg hcs) hS (fun q _ h => hF q h) hF (fun r1 u t H1 locs1 ht hvm hw hB hz1 hk1 hS1 => ?_)
  obtain ⟨rfl, rfl⟩ := hw
  obtain ⟨hP1, hK1, hD1⟩ := hB
  rw [ht] at hP1
  exact kk _ rfl H1 locs1 hP1 (hD1.weaken (fun _ _ _ h => hF _ h)) hS1
end TPLR
end TPL
set_option maxHeartbeats 4000000 in
set_option maxRecDepth 100000 in
/-- calls: add, end -/
theorem lk_add_end (l : Launch) (D : va_G) (cy : Nat → ClassId) (n : Nat) (ad : Nat → Nat) (o : Int64) (I : Nat → Nat → Int32) (sa : Nat → Nat) (tL tM : Nat) (hlt : l.stackTraces = false) (w1 w2 w3 w4 : Int32) (hf : I 0 1 < 6) (hf0 : ¬ I 0 1 < 0) (he : ¬ I 0 2 < 48) : tp_L l yL_calls wsL_calls 7 111 1 6 D cy n ad sa tL tM [.ref (ad 0), .int 0, .int w1, .int w2, .int w3, .int w4] I o (-3) (I) o := by
  refine tp_ofL (lv := [(0, .ref (ad 0)), (1, .int 0), (2, .int w1), (3, .int w2), (4, .int w3), (5, .int w4)]) (by decide) rfl (Nat.le_of_ble_eq_true rfl) rfl (fun p e s m args below meth c A ls S0 hE htb => ?_)
  obtain ⟨hx, hb, hr, hml, hown, hts, hlocks, hA, hK, hP, hD, hS, hl⟩ := S0
  obtain ⟨-, -, -, hEw, hEc, -, -⟩ := id hE
  refine lv_iload_n hx hb dL_calls_0 rfl (lv_at hl 1 rfl) ?_
  refine lv_if_ne (tgt := 11) hx hb dL_calls_1 (by decide) (fun c0 => absurd rfl c0) (fun _ => ?_)
  refine lv_aload_n hx hb dL_calls_4 rfl (lv_at hl 0 rfl) ?_
  refine tp_callVT ⟨hx, hb, hml, hown, hts⟩ (op_add_end l D cy n ad o I sa tL tM hlt hf hf0 he) (cwV 0 hts gL_calls_X1_add rfl rfl rfl (by decide +kernel) ⟨(Nat.le_of_ble_eq_true rfl), (Nat.le_of_ble_eq_true rfl)⟩) hE hK hP hD hS hA 0 1 tp_e0 rfl rfl rfl hl.1 rfl (Nat.le_of_ble_eq_true rfl) dL_calls_5 ⟨(Nat.le_of_ble_eq_true rfl), (Nat.le_of_ble_eq_true rfl)⟩ (fun ce q9 H locs hce hcv hcl hP hD hS => ?_)
  refine vx_catch (own := RL) (E := "java/lang/IllegalStateException") (name := "java/lang/IllegalStateException") hown [] ⟨0, 47, 48, 27⟩ [] htb (fun z hz => nomatch hz) (by decide) (by decide) (hts _ (List.mem_of_getElem? (i := 1) rfl)) (va_Nw.use rfl (hEw _ (List.mem_of_getElem? (i := 17) rfl))) hce hcv hcl ?_
  refine lv_astore (lv' := [(6, .ref q9), (0, .ref (ad 0)), (1, .int 0), (2, .int w1), (3, .int w2), (4, .int w3), (5, .int w4)]) hx hb dL_calls_48 hl (by decide) rfl (fun ls hl => ?_)
  refine lv_bipush (v := -3) hx hb dL_calls_50 (by decide) ?_
  exact tp_retL hx hb hr hlocks hK hP hD hS rfl rfl rfl dL_calls_52
set_option maxHeartbeats 4000000 in
set_option maxRecDepth 100000 in
/-- calls: tell, ok -/
theorem lk_tell_ok (l : Launch) (D : va_G) (cy : Nat → ClassId) (n : Nat) (ad : Nat → Nat) (o : Int64) (I : Nat → Nat → Int32) (sa : Nat → Nat) (tL tM : Nat) (hlt : l.stackTraces = false) (i : Nat) (hi : i < n) (hn6 : n ≤ 6) (f0 d0 : Nat) (hf5 : f0 < 5) (hd0 : d0 < 1440) (v : Int32) (hv1 : ¬ v < tp_vl f0) (hv2 : v ≤ tp_vm f0) (h100 : I (9 + 15 * i) 2 < 100) (z0 : Nat) (hz1 : tp_r0 d0 ≤ z0) (hz2 : z0 ≤ 48) (hz3 : ∀ m, tp_r0 d0 ≤ m → m < z0 → I (9 + 15 * i + 8 + f0) m ≤ nI (tp_r0 d0)) (hz4 : z0 = 48 ∨ ¬ I (9 + 15 * i + 8 + f0) z0 ≤ nI (tp_r0 d0)) : tp_L l yL_calls wsL_calls 2 50 0 0 D cy n ad sa tL tM [.ref (ad 0), .int 1, .int (nI i), .int (nI f0), .int (nI d0), .int v] I o (nI (tp_r0 d0)) (tp_chg I (9 + 15 * i) f0 (tp_r0 d0) v (z0 - tp_r0 d0)) o := by
  refine tp_ofL (lv := [(0, .ref (ad 0)), (1, .int 1), (2, .int (nI i)), (3, .int (nI f0)), (4, .int (nI d0)), (5, .int v)]) (by decide) rfl (Nat.le_of_ble_eq_true rfl) rfl (fun p e s m args below meth c A ls S0 hE htb => ?_)
  obtain ⟨hx, hb, hr, hml, hown, hts, hlocks, hA, hK, hP, hD, hS, hl⟩ := S0
  obtain ⟨-, -, -, hEw, hEc, -, -⟩ := id hE
  refine lv_iload_n hx hb dL_calls_0 rfl (lv_at hl 1 rfl) ?_
  refine lv_if_ne (tgt := 11) hx hb dL_calls_1 (by decide) (fun _ => ?_) (fun c0 => absurd c0 (by decide))
  refine lv_iload_n hx hb dL_calls_11 rfl (lv_at hl 1 rfl) ?_
  refine lv_iconst (v := 1) hx hb dL_calls_12 (by decide) ?_
  refine lv_icmp_ne (tgt := 29) hx hb dL_calls_13 (by decide) (fun c0 => absurd rfl c0) (fun _ => ?_)
  refine lv_aload_n hx hb dL_calls_16 rfl (lv_at hl 0 rfl) ?_
  refine lv_iload_n hx hb dL_calls_17 rfl (lv_at hl 2 rfl) ?_
  refine lv_iload_n hx hb dL_calls_18 rfl (lv_at hl 3 rfl) ?_
  refine lv_iload hx hb dL_calls_19 (lv_at hl 4 rfl) ?_
  refine lv_iload hx hb dL_calls_21 (lv_at hl 5 rfl) ?_
  refine tp_callE ⟨hx, hb, hml, hown, hts⟩ (op_tell_ok l D cy n ad o I sa tL tM i hi hn6 f0 d0 hf5 hd0 v hv1 hv2 h100 z0 hz1 hz2 hz3 hz4) (cwV 4 hts gL_calls_X1_tell rfl rfl rfl (by decide +kernel) ⟨(Nat.le_of_ble_eq_true rfl), (Nat.le_of_ble_eq_true rfl)⟩) hE hK hP hD hS hA 0 1 tp_e0 rfl rfl rfl hl.1 rfl (Nat.le_of_ble_eq_true rfl) dL_calls_23 ⟨Nat.zero_le _, Nat.zero_le _⟩ (fun I9 e9 H locs hP hD hS => ?_)
  subst e9
  refine lv_goto (tgt := 47) hx hb dL_calls_26 (by decide) ?_
  exact tp_retL hx hb hr hlocks hK hP hD hS rfl rfl rfl dL_calls_47
set_option maxHeartbeats 4000000 in
set_option maxRecDepth 100000 in
/-- calls: payBack, less -/
theorem lk_payBack_less (l : Launch) (D : va_G) (cy : Nat → ClassId) (n : Nat) (ad : Nat → Nat) (o : Int64) (I : Nat → Nat → Int32) (sa : Nat → Nat) (tL tM : Nat) (hlt : l.stackTraces = false) (i : Nat) (hi : i < n) (hn6 : n ≤ 6) (x w3 w4 : Int32) (hx1 : ¬ x < 1) (hx2 : x ≤ 1000000) (hx3 : ¬ x ≤ I (9 + 15 * i) 6) : tp_L l yL_calls wsL_calls 7 113 1 6 D cy n ad sa tL tM [.ref (ad 0), .int 2, .int (nI i), .int x, .int w3, .int w4] I o (-3) (I) o := by
  refine tp_ofL (lv := [(0, .ref (ad 0)), (1, .int 2), (2, .int (nI i)), (3, .int x), (4, .int w3), (5, .int w4)]) (by decide) rfl (Nat.le_of_ble_eq_true rfl) rfl (fun p e s m args below meth c A ls S0 hE htb => ?_)
  obtain ⟨hx, hb, hr, hml, hown, hts, hlocks, hA, hK, hP, hD, hS, hl⟩ := S0
  obtain ⟨-, -, -, hEw, hEc, -, -⟩ := id hE
  refine lv_iload_n hx hb dL_calls_0 rfl (lv_at hl 1 rfl) ?_
  refine lv_if_ne (tgt := 11) hx hb dL_calls_1 (by decide) (fun _ => ?_) (fun c0 => absurd c0 (by decide))
  refine lv_iload_n hx hb dL_calls_11 rfl (lv_at hl 1 rfl) ?_
  refine lv_iconst (v := 1) hx hb dL_calls_12 (by decide) ?_
  refine lv_icmp_ne (tgt := 29) hx hb dL_calls_13 (by decide) (fun _ => ?_) (fun c0 => absurd c0 (by decide))
  refine lv_iload_n hx hb dL_calls_29 rfl (lv_at hl 1 rfl) ?_
  refine lv_iconst (v := 2) hx hb dL_calls_30 (by decide) ?_
  refine lv_icmp_ne (tgt := 43) hx hb dL_calls_31 (by decide) (fun c0 => absurd rfl c0) (fun _ => ?_)
  refine lv_aload_n hx hb dL_calls_34 rfl (lv_at hl 0 rfl) ?_
  refine lv_iload_n hx hb dL_calls_35 rfl (lv_at hl 2 rfl) ?_
  refine lv_iload_n hx hb dL_calls_36 rfl (lv_at hl 3 rfl) ?_
  refine tp_callVT ⟨hx, hb, hml, hown, hts⟩ (op_payBack_less l D cy n ad o I sa tL tM hlt i hi hn6 x hx1 hx2 hx3) (cwV 2 hts gL_calls_X1_payBack rfl rfl rfl (by decide +kernel) ⟨(Nat.le_of_ble_eq_true rfl), (Nat.le_of_ble_eq_true rfl)⟩) hE hK hP hD hS hA 0 1 tp_e0 rfl rfl rfl hl.1 rfl (Nat.le_of_ble_eq_true rfl) dL_calls_37 ⟨(Nat.le_of_ble_eq_true rfl), (Nat.le_of_ble_eq_true rfl)⟩ (fun ce q9 H locs hce hcv hcl hP hD hS => ?_)
  refine vx_catch (own := RL) (E := "java/lang/IllegalStateException") (name := "java/lang/IllegalStateException") hown [] ⟨0, 47, 48, 27⟩ [] htb (fun z hz => nomatch hz) (by decide) (by decide) (hts _ (List.mem_of_getElem? (i := 1) rfl)) (va_Nw.use rfl (hEw _ (List.mem_of_getElem? (i := 17) rfl))) hce hcv hcl ?_
  refine lv_astore (lv' := [(6, .ref q9), (0, .ref (ad 0)), (1, .int 2), (2, .int (nI i)), (3, .int x), (4, .int w3), (5, .int w4)]) hx hb dL_calls_48 hl (by decide) rfl (fun ls hl => ?_)
  refine lv_bipush (v := -3) hx hb dL_calls_50 (by decide) ?_
  exact tp_retL hx hb hr hlocks hK hP hD hS rfl rfl rfl dL_calls_52
set_option maxHeartbeats 4000000 in
set_option maxRecDepth 100000 in
/-- calls: payBack, ok -/
theorem lk_payBack_ok (l : Launch) (D : va_G) (cy : Nat → ClassId) (n : Nat) (ad : Nat → Nat) (o : Int64) (I : Nat → Nat → Int32) (sa : Nat → Nat) (tL tM : Nat) (hlt : l.stackTraces = false) (i : Nat) (hi : i < n) (hn6 : n ≤ 6) (x w3 w4 : Int32) (hx1 : ¬ x < 1) (hx2 : x ≤ 1000000) (hx3 : x ≤ I (9 + 15 * i) 6) : tp_L l yL_calls wsL_calls 2 45 0 0 D cy n ad sa tL tM [.ref (ad 0), .int 2, .int (nI i), .int x, .int w3, .int w4] I o (I (9 + 15 * i) 6 - x) (tp_u (tp_u I (9 + 15 * i) 6 (I (9 + 15 * i) 6 - x)) (9 + 15 * i) 7 (I (9 + 15 * i) 7 + x)) o := by
  refine tp_ofL (lv := [(0, .ref (ad 0)), (1, .int 2), (2, .int (nI i)), (3, .int x), (4, .int w3), (5, .int w4)]) (by decide) rfl (Nat.le_of_ble_eq_true rfl) rfl (fun p e s m args below meth c A ls S0 hE htb => ?_)
  obtain ⟨hx, hb, hr, hml, hown, hts, hlocks, hA, hK, hP, hD, hS, hl⟩ := S0
  obtain ⟨-, -, -, hEw, hEc, -, -⟩ := id hE
  refine lv_iload_n hx hb dL_calls_0 rfl (lv_at hl 1 rfl) ?_
  refine lv_if_ne (tgt := 11) hx hb dL_calls_1 (by decide) (fun _ => ?_) (fun c0 => absurd c0 (by decide))
  refine lv_iload_n hx hb dL_calls_11 rfl (lv_at hl 1 rfl) ?_
  refine lv_iconst (v := 1) hx hb dL_calls_12 (by decide) ?_
  refine lv_icmp_ne (tgt := 29) hx hb dL_calls_13 (by decide) (fun _ => ?_) (fun c0 => absurd c0 (by decide))
  refine lv_iload_n hx hb dL_calls_29 rfl (lv_at hl 1 rfl) ?_
  refine lv_iconst (v := 2) hx hb dL_calls_30 (by decide) ?_
  refine lv_icmp_ne (tgt := 43) hx hb dL_calls_31 (by decide) (fun c0 => absurd rfl c0) (fun _ => ?_)
  refine lv_aload_n hx hb dL_calls_34 rfl (lv_at hl 0 rfl) ?_
  refine lv_iload_n hx hb dL_calls_35 rfl (lv_at hl 2 rfl) ?_
  refine lv_iload_n hx hb dL_calls_36 rfl (lv_at hl 3 rfl) ?_
  refine tp_callE ⟨hx, hb, hml, hown, hts⟩ (op_payBack_ok l D cy n ad o I sa tL tM i hi hn6 x hx1 hx2 hx3) (cwV 2 hts gL_calls_X1_payBack rfl rfl rfl (by decide +kernel) ⟨(Nat.le_of_ble_eq_true rfl), (Nat.le_of_ble_eq_true rfl)⟩) hE hK hP hD hS hA 0 1 tp_e0 rfl rfl rfl hl.1 rfl (Nat.le_of_ble_eq_true rfl) dL_calls_37 ⟨Nat.zero_le _, Nat.zero_le _⟩ (fun I9 e9 H locs hP hD hS => ?_)
  subst e9
  refine lv_goto (tgt := 47) hx hb dL_calls_40 (by decide) ?_
  exact tp_retL hx hb hr hlocks hK hP hD hS rfl rfl rfl dL_calls_47
set_option maxHeartbeats 4000000 in
set_option maxRecDepth 100000 in
/-- calls: close, end -/
theorem lk_close_end (l : Launch) (D : va_G) (cy : Nat → ClassId) (n : Nat) (ad : Nat → Nat) (o : Int64) (I : Nat → Nat → Int32) (sa : Nat → Nat) (tL tM : Nat) (hlt : l.stackTraces = false) (w1 w2 w3 w4 : Int32) (he : ¬ I 0 2 < 48) : tp_L l yL_calls wsL_calls 7 115 1 6 D cy n ad sa tL tM [.ref (ad 0), .int 3, .int w1, .int w2, .int w3, .int w4] I o (-3) (I) o := by
  refine tp_ofL (lv := [(0, .ref (ad 0)), (1, .int 3), (2, .int w1), (3, .int w2), (4, .int w3), (5, .int w4)]) (by decide) rfl (Nat.le_of_ble_eq_true rfl) rfl (fun p e s m args below meth c A ls S0 hE htb => ?_)
  obtain ⟨hx, hb, hr, hml, hown, hts, hlocks, hA, hK, hP, hD, hS, hl⟩ := S0
  obtain ⟨-, -, -, hEw, hEc, -, -⟩ := id hE
  refine lv_iload_n hx hb dL_calls_0 rfl (lv_at hl 1 rfl) ?_
  refine lv_if_ne (tgt := 11) hx hb dL_calls_1 (by decide) (fun _ => ?_) (fun c0 => absurd c0 (by decide))
  refine lv_iload_n hx hb dL_calls_11 rfl (lv_at hl 1 rfl) ?_
  refine lv_iconst (v := 1) hx hb dL_calls_12 (by decide) ?_
  refine lv_icmp_ne (tgt := 29) hx hb dL_calls_13 (by decide) (fun _ => ?_) (fun c0 => absurd c0 (by decide))
  refine lv_iload_n hx hb dL_calls_29 rfl (lv_at hl 1 rfl) ?_
  refine lv_iconst (v := 2) hx hb dL_calls_30 (by decide) ?_
  refine lv_icmp_ne (tgt := 43) hx hb dL_calls_31 (by decide) (fun _ => ?_) (fun c0 => absurd c0 (by decide))
  refine lv_aload_n hx hb dL_calls_43 rfl (lv_at hl 0 rfl) ?_
  refine tp_callVT ⟨hx, hb, hml, hown, hts⟩ (op_close_end l D cy n ad o I sa tL tM hlt he) (cwV 0 hts gL_calls_X1_close rfl rfl rfl (by decide +kernel) ⟨(Nat.le_of_ble_eq_true rfl), (Nat.le_of_ble_eq_true rfl)⟩) hE hK hP hD hS hA 0 1 tp_e0 rfl rfl rfl hl.1 rfl (Nat.le_of_ble_eq_true rfl) dL_calls_44 ⟨(Nat.le_of_ble_eq_true rfl), (Nat.le_of_ble_eq_true rfl)⟩ (fun ce q9 H locs hce hcv hcl hP hD hS => ?_)
  refine vx_catch (own := RL) (E := "java/lang/IllegalStateException") (name := "java/lang/IllegalStateException") hown [] ⟨0, 47, 48, 27⟩ [] htb (fun z hz => nomatch hz) (by decide) (by decide) (hts _ (List.mem_of_getElem? (i := 1) rfl)) (va_Nw.use rfl (hEw _ (List.mem_of_getElem? (i := 17) rfl))) hce hcv hcl ?_
  refine lv_astore (lv' := [(6, .ref q9), (0, .ref (ad 0)), (1, .int 3), (2, .int w1), (3, .int w2), (4, .int w3), (5, .int w4)]) hx hb dL_calls_48 hl (by decide) rfl (fun ls hl => ?_)
  refine lv_bipush (v := -3) hx hb dL_calls_50 (by decide) ?_
  exact tp_retL hx hb hr hlocks hK hP hD hS rfl rfl rfl dL_calls_52
set_option maxHeartbeats 4000000 in
set_option maxRecDepth 100000 in
/-- calls: close, ok -/
theorem lk_close_ok (l : Launch) (D : va_G) (cy : Nat → ClassId) (n : Nat) (ad : Nat → Nat) (o : Int64) (I : Nat → Nat → Int32) (sa : Nat → Nat) (tL tM : Nat) (hlt : l.stackTraces = false) (w1 w2 w3 w4 : Int32) (aF : Nat → Nat) (e0 : Nat) (hn6 : n ≤ 6) (he : I 0 2 = nI e0) (he8 : e0 < 48) (ha : ∀ h, h < n → I (9 + 15 * h) 3 = nI (aF h)) (ha8 : ∀ h, h < n → aF h ≤ e0) : tp_L l yL_calls wsL_calls 7 162 0 0 D cy n ad sa tL tM [.ref (ad 0), .int 3, .int w1, .int w2, .int w3, .int w4] I o (tp_osum I aF e0 n) (tp_u (tp_ost I aF e0 n) 0 2 (nI (e0 + 1))) o := by
  refine tp_ofL (lv := [(0, .ref (ad 0)), (1, .int 3), (2, .int w1), (3, .int w2), (4, .int w3), (5, .int w4)]) (by decide) rfl (Nat.le_of_ble_eq_true rfl) rfl (fun p e s m args below meth c A ls S0 hE htb => ?_)
  obtain ⟨hx, hb, hr, hml, hown, hts, hlocks, hA, hK, hP, hD, hS, hl⟩ := S0
  obtain ⟨-, -, -, hEw, hEc, -, -⟩ := id hE
  refine lv_iload_n hx hb dL_calls_0 rfl (lv_at hl 1 rfl) ?_
  refine lv_if_ne (tgt := 11) hx hb dL_calls_1 (by decide) (fun _ => ?_) (fun c0 => absurd c0 (by decide))
  refine lv_iload_n hx hb dL_calls_11 rfl (lv_at hl 1 rfl) ?_
  refine lv_iconst (v := 1) hx hb dL_calls_12 (by decide) ?_
  refine lv_icmp_ne (tgt := 29) hx hb dL_calls_13 (by decide) (fun _ => ?_) (fun c0 => absurd c0 (by decide))
  refine lv_iload_n hx hb dL_calls_29 rfl (lv_at hl 1 rfl) ?_
  refine lv_iconst (v := 2) hx hb dL_calls_30 (by decide) ?_
  refine lv_icmp_ne (tgt := 43) hx hb dL_calls_31 (by decide) (fun _ => ?_) (fun c0 => absurd c0 (by decide))
  refine lv_aload_n hx hb dL_calls_43 rfl (lv_at hl 0 rfl) ?_
  refine tp_callE ⟨hx, hb, hml, hown, hts⟩ (op_close_ok l D cy n ad o I sa tL tM aF e0 hn6 he he8 ha ha8) (cwV 0 hts gL_calls_X1_close rfl rfl rfl (by decide +kernel) ⟨(Nat.le_of_ble_eq_true rfl), (Nat.le_of_ble_eq_true rfl)⟩) hE hK hP hD hS hA 0 1 tp_e0 rfl rfl rfl hl.1 rfl (Nat.le_of_ble_eq_true rfl) dL_calls_44 ⟨Nat.zero_le _, Nat.zero_le _⟩ (fun I9 e9 H locs hP hD hS => ?_)
  subst e9
  exact tp_retL hx hb hr hlocks hK hP hD hS rfl rfl rfl dL_calls_47
/-- calls: add; the world grows -/
def tp_LA (l : Launch) (D : va_G) (cy : Nat → ClassId) (n : Nat) (ad : Nat → Nat) (sa : Nat → Nat) (tL tM : Nat) (I : Nat → Nat → Int32) (o : Int64) (e0 : Nat) (w1 w2 w3 w4 : Int32) : Prop :=
  ∀ sz : Nat, Met l yL_calls wsL_calls { frames := 3, cells := 15, slots := 595, locals := 63 } (va_Pc [.ref (ad 0), .int 0, .int w1, .int w2, .int w3, .int w4] (tp_PE D cy n ad I o sa tL tM sz)) (va_Qi (fun x (u : Nat → Nat) => x = nI n ∧ ∀ k, k < 9 + 15 * n → u k = ad k) (fun u t => va_P D vwCl (tp_w cy (n + 1) u (tp_u (tp_gI n I (nI e0)) 0 1 (nI (n + 1))) o) t.heap ∧ va_K D vwCl (tp_ty cy) t ∧ va_D (va_A (tp_w cy n ad I o) sz) (tp_w cy (n + 1) u (tp_u (tp_gI n I (nI e0)) 0 1 (nI (n + 1))) o)) (va_A (tp_w cy n ad I o) sz)) 15 595 (va_A (tp_w cy n ad I o) sz)
set_option maxHeartbeats 4000000 in
set_option maxRecDepth 100000 in
theorem lk_add_ok (l : Launch) (D : va_G) (cy : Nat → ClassId) (n : Nat) (ad : Nat → Nat) (o : Int64) (I : Nat → Nat → Int32) (sa : Nat → Nat) (tL tM : Nat) (e0 : Nat) (w1 w2 w3 w4 : Int32) (hn6 : n < 6) (hna : I 0 1 = nI n) (he : I 0 2 = nI e0) (he8 : e0 < 48) : tp_LA l D cy n ad sa tL tM I o e0 w1 w2 w3 w4 := by
  intro sz
  refine va_MetW (cc := cL_calls) (maxL := 7) (ret := some .int) (hh := [(0, 47, 48, 27)]) (by decide) rfl ?_
  intro p e s m args below meth cc9 s₁ B hml hv
  obtain ⟨rfl, ⟨hsz, hP, hK, hD0⟩, hE⟩ := hv
  subst hsz
  have hx := B.exec
  have hb := B.bytes
  have hr := B.returns
  have hts := atoms_spec (ws := wsL_calls) B.pre
  have hlocks := B.notSynchronized
  have hown : s.vm.findClass RL = some m.cls := findClass_of_methodNamed B.named
  have hD := hD0.self (sz := s.heap.size)
  generalize hAe : va_A (tp_w cy n ad I o) s.heap.size = A at hD hE ⊢
  have hA : ∀ q : Nat, s.heap.size ≤ q → A q := fun q h => by rw [← hAe]; exact Or.inr h
  have hS : va_S A s.heap s.heap [] := va_S.rf
  have hl := lv_entry ([.ref (ad 0), .int 0, .int w1, .int w2, .int w3, .int w4]) (n := 7) (Nat.le_of_ble_eq_true rfl)
  rw [lg_entry_eq]
  generalize (lg_sl ([.ref (ad 0), .int 0, .int w1, .int w2, .int w3, .int w4]) ++ List.replicate (7 - (lg_sl ([.ref (ad 0), .int 0, .int w1, .int w2, .int w3, .int w4])).length) Slot.unset).toArray = ls at hl ⊢
  have hl : lv_has ls 7 [(0, .ref (ad 0)), (1, .int 0), (2, .int w1), (3, .int w2), (4, .int w3), (5, .int w4)] := hl
  have hF := tp_fr hD hS hA
  refine lv_iload_n hx hb dL_calls_0 rfl (lv_at hl 1 rfl) ?_
  refine lv_if_ne (tgt := 11) hx hb dL_calls_1 (by decide) (fun c0 => absurd rfl c0) (fun _ => ?_)
  refine lv_aload_n hx hb dL_calls_4 rfl (lv_at hl 0 rfl) ?_
  refine va_calli (va_runV (As := []) (rest := []) ⟨hx, hb, hml, hown, hts⟩ (op_add_ok l D cy n ad o I sa tL tM e0 hn6 hna he he8 s.heap.size) (cwV 0 hts gL_calls_X1_add rfl rfl rfl (by decide +kernel) ⟨(Nat.le_of_ble_eq_true rfl), (Nat.le_of_ble_eq_true rfl)⟩) ⟨tp_blindE, va_recv (ci := 1) (q0 := 0) hK hP rfl tp_e0, fun U hU hW => ⟨rfl, ⟨by rw [hU], by rw [hU]; exact hP, va_K.moved hW.alike hK, hD.weaken (fun _ _ _ _ => trivial)⟩, tp_EV.go hE hW hU hS hF⟩⟩ rfl rfl hl.1 rfl (lv_room (Nat.le_of_ble_eq_true rfl)) dL_calls_5 ⟨(Nat.le_of_ble_eq_true rfl), (Nat.le_of_ble_eq_true rfl)⟩) hS (fun q _ h => hF q h) hF (fun r1 u t H locs ht hvm hw hB hz1 hk1 hS => ?_)
  obtain ⟨rfl, hu⟩ := hw
  obtain ⟨hP1, hK1, hD1⟩ := hB
  rw [ht] at hP1
  have hD1 := hD1.weaken (B := A) (fun _ _ _ h => hF _ h)
  refine lv_goto (tgt := 47) hx hb dL_calls_8 (by decide) ?_
  exact W.zret (v := nI n) (ty := .int) hx hb hr rfl (fun t ht hW => ⟨⟨nI n, u, rfl, ⟨rfl, hu⟩, by rw [ht]; exact hP1, va_K.moved hW.alike hK, hD1⟩, hS.F ht⟩) hS.2.2 dL_calls_47
