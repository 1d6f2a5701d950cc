/-! WHAT AN OFFICE'S METHODS NEED OF THE MACHINE BESIDE THE STEADY WORDS -/
def tp_strs : List (Nat × String) := [(24, "there are 6 households"), (29, "there is no current month"), (43, "there is no such day"), (53, "the value is out of the range of the fact"), (58, "100 changes were told of the household"), (73, "the cents are out of range"), (78, "the debt is less than that"), (122, "there is no such household"), (125, "there is no such month"), (127, "there is no such fact")]
def tp_nws : List Cond := [.fieldLinkNest "TaperOffice" 55 "TaperOffice$Household" "changes" "I" "TaperOffice", .fieldLinkNest "TaperOffice" 68 "TaperOffice$Household" "disputes" "Z" "TaperOffice", .fieldLinkNest "TaperOffice" 75 "TaperOffice$Household" "debt" "I" "TaperOffice", .fieldLinkNest "TaperOffice" 89 "TaperOffice$Household" "values" "[[I" "TaperOffice", .fieldLinkNest "TaperOffice" 111 "TaperOffice$Household" "assessments" "[I" "TaperOffice", .fieldLinkNest "TaperOffice" 114 "TaperOffice$Household" "payments" "[I" "TaperOffice", .fieldLinkNest "TaperOffice" 117 "TaperOffice$Household" "takenBack" "I" "TaperOffice",
  .methodLinkNest "TaperOffice" 31 yX0_init "TaperOffice", .methodLinkNest "TaperOffice" 64 yX0_change "TaperOffice", .methodLinkNest "TaperOffice" 80 yX0_lowerDebt "TaperOffice", .methodLinkNest "TaperOffice" 83 yX0_settle "TaperOffice", .methodLinkNest "TaperOffice" 93 yX0_needIn "TaperOffice", .methodLinkNest "TaperOffice" 96 yX0_taperIn "TaperOffice", .methodLinkNest "TaperOffice" 99 yX0_tariffIn "TaperOffice", .methodLinkNest "TaperOffice" 102 yX0_dueIn "TaperOffice", .methodLinkNest "TaperOffice" 105 yX0_unassessedBefore "TaperOffice", .methodLinkNest "TaperOffice" 108 yX0_paymentIn "TaperOffice",
  .castable "java/lang/IllegalStateException" "java/lang/IllegalStateException", .castable "java/lang/IllegalArgumentException" "java/lang/IllegalArgumentException", .castable "java/lang/IndexOutOfBoundsException" "java/lang/IndexOutOfBoundsException", .declares (Bundle.initS "java/lang/RuntimeException"), .declares (Bundle.initS "java/lang/Exception"), .declares (Bundle.initS "java/lang/Throwable")]
def tp_ncs : List (String × String) := []
def tp_nwk : Cond → Bool
  | .fieldLinkNest .. | .methodLinkNest .. | .declares _ | .castable .. => true
  | _ => false
theorem tp_nwk_ok : ∀ w ∈ tp_nws, tp_nwk w = true := by decide +kernel
theorem tp_nwk_on {w : Cond} (hk : tp_nwk w = true) : w.onTables = true := by
  cases w <;> first | rfl | (simp [tp_nwk] at hk; done)
theorem tp_nw_go {w : Cond} {s U : State} (hk : tp_nwk w = true) (hW : s.WarmedH U.vm) (h : va_Nw w s) : va_Nw w U := by
  cases w <;> first | (simp [tp_nwk] at hk; done) | exact va_Nw.warmF hW h | exact va_Nw.warmM hW h | exact va_Nw.warmD hW h | exact va_Nw.warmC hW h
def tp_vl (j : Nat) : Int32 := if j = 0 then 1 else 0
def tp_vm (j : Nat) : Int32 := if j = 0 then 2 else if j = 1 then 9 else if j = 4 then 10000000 else 1000000
/-- sa: the texts' addresses; tL, tM: the two tables of ranges -/
def tp_EV (sa : Nat → Nat) (tL tM : Nat) (A : Nat → Prop) (U : State) (H : Heap) : Prop :=
  (vx_Zq Bundle.tN "UNASSIGNED_STACK" Bundle.steD A U H ∧ vx_Zq Bundle.tN "SUPPRESSED_SENTINEL" Bundle.listD A U H) ∧
  ((va_Z "TaperOffice" "LEAST_VALUES" "[I" (.ref tL) A U H ∧ va_T .int tL 5 (fun j => .int (tp_vl j)) A U H) ∧ (va_Z "TaperOffice" "MOST_VALUES" "[I" (.ref tM) A U H ∧ va_T .int tM 5 (fun j => .int (tp_vm j)) A U H)) ∧
  (∀ q ∈ tp_strs, vk_R "TaperOffice" q.1 q.2 (sa q.1) U) ∧ (∀ w ∈ tp_nws, va_Nw w U) ∧ (∀ q ∈ tp_ncs, va_Nc q.1 q.2 U) ∧ va_AOA .int U ∧ va_AO "TaperOffice$Household" U
theorem tp_EV.go {sa : Nat → Nat} {tL tM : Nat} {A B : Nat → Prop} {s U : State} {H : Heap} {locs : List Loc} (h : tp_EV sa tL tM A s s.heap) (hW : s.WarmedH U.vm) (hU : U.heap = H) (hS : va_S A s.heap H locs) (hAB : ∀ q, B q → A q) : tp_EV sa tL tM B U U.heap := by
  subst hU
  obtain ⟨⟨h1, h2⟩, ⟨⟨h3, h4⟩, ⟨h5, h6⟩⟩, h7, h8, h9, h10, h11⟩ := h
  exact ⟨⟨((h1.kept hS.2.1).narrow hAB).moved hW.alike, ((h2.kept hS.2.1).narrow hAB).moved hW.alike⟩, ⟨⟨((h3.kept hS.2.1).narrow hAB).moved hW.alike, ((h4.kept hS.2.1).narrow hAB).moved hW.alike⟩, ⟨((h5.kept hS.2.1).narrow hAB).moved hW.alike, ((h6.kept hS.2.1).narrow hAB).moved hW.alike⟩⟩, fun q hq => vk_R.warm hW (h7 q hq), fun w hw => tp_nw_go (tp_nwk_ok w hw) hW (h8 w hw), fun q hq => va_Nc.moved hW.alike (h9 q hq), h10.moved hW.alike, h11.moved hW.alike⟩
theorem tp_EV.same {sa : Nat → Nat} {tL tM : Nat} {A : Nat → Prop} {u U : State} {H : Heap} (h : tp_EV sa tL tM A u H) (hv : U.vm = u.vm) : tp_EV sa tL tM A U H := by
  obtain ⟨⟨h1, h2⟩, ⟨⟨h3, h4⟩, ⟨h5, h6⟩⟩, h7, h8, h9, h10, h11⟩ := h
  have ha : u.vm.Alike U.vm := by rw [hv]; exact Vm.Alike.refl _
  exact ⟨⟨h1.moved ha, h2.moved ha⟩, ⟨⟨h3.moved ha, h4.moved ha⟩, ⟨h5.moved ha, h6.moved ha⟩⟩, fun q hq => vk_R.same hv (h7 q hq), fun w hw => va_Nw.same (tp_nwk_on (tp_nwk_ok w hw)) hv.symm (h8 w hw), fun q hq => va_Nc.moved ha (h9 q hq), h10.moved ha, h11.moved ha⟩
/-- a state that an office's method starts from -/
def tp_PE (D : va_G) (cy : Nat → ClassId) (n : Nat) (ad : Nat → Nat) (I : Nat → Nat → Int32) (o : Int64) (sa : Nat → Nat) (tL tM : Nat) (sz : Nat) (U : State) : Prop := tp_P D cy n ad I o sz U ∧ tp_EV sa tL tM (va_A (tp_w cy n ad I o) sz) U U.heap
def tp_IE (l : Launch) (y : MethodName) (ws : List Cond) (rm : Room) (D : va_G) (cy : Nat → ClassId) (n : Nat) (ad : Nat → Nat) (o : Int64) (sa : Nat → Nat) (tL tM : Nat) (as : List Value) (I : Nat → Nat → Int32) (r : Int32) (I' : Nat → Nat → Int32) : Prop :=
  ∀ sz : Nat, Met l y ws rm (va_Pc as (tp_PE D cy n ad I o sa tL tM sz)) (va_Qi (fun x u => x = r ∧ u = I') (tp_B D cy n ad o (va_A (tp_w cy n ad I o) sz)) (va_A (tp_w cy n ad I o) sz)) 0 0 (va_A (tp_w cy n ad I o) sz)
/-- it answers the cell of the number k -/
def tp_R (l : Launch) (y : MethodName) (ws : List Cond) (rm : Room) (D : va_G) (cy : Nat → ClassId) (n : Nat) (ad : Nat → Nat) (o : Int64) (as : List Value) (I : Nat → Nat → Int32) (k : Nat) : Prop :=
  ∀ sz : Nat, Met l y ws rm (va_Pc as (tp_P D cy n ad I o sz)) (va_Qq (fun x u => x = some (ad k) ∧ u = I) (tp_B D cy n ad o (va_A (tp_w cy n ad I o) sz)) (va_A (tp_w cy n ad I o) sz)) 0 0 (va_A (tp_w cy n ad I o) sz)
def tp_XC (E : String) (D : va_G) (cy : Nat → ClassId) (n : Nat) (ad : Nat → Nat) (I : Nat → Nat → Int32) (o : Int64) (A : Nat → Prop) : String → State → State → Prop := vx_X (S := Unit) (fun _ => True) (fun E' _ t => E' = E ∧ tp_B D cy n ad o A I t) A
abbrev tp_rx (fr lo : Nat) : Room := { frames := fr, cells := 1, slots := 6, locals := lo }
/-- it throws an E, and changes nothing -/
def tp_T (l : Launch) (y : MethodName) (ws : List Cond) (fr lo : Nat) (D : va_G) (cy : Nat → ClassId) (n : Nat) (ad : Nat → Nat) (o : Int64) (sa : Nat → Nat) (tL tM : Nat) (as : List Value) (I : Nat → Nat → Int32) (E : String) : Prop :=
  ∀ sz : Nat, vx_Met l y ws (tp_rx fr lo) (va_Pc as (tp_PE D cy n ad I o sa tL tM sz)) (fun _ _ _ _ => False) (tp_XC E D cy n ad I o (va_A (tp_w cy n ad I o) sz)) 1 6 (va_A (tp_w cy n ad I o) sz)
section TPE
variable {D : va_G} {cy : Nat → ClassId} {n : Nat} {ad : Nat → Nat} {I : Nat → Nat → Int32} {o : Int64} {sa : Nat → Nat} {tL tM : Nat}
theorem tp_blindE {as : List Value} {sz : Nat} : FrameBlind (va_Pc as (tp_PE D cy n ad I o sa tL tM sz)) := fun a U g mk q => by
  obtain ⟨q0, ⟨q1, qP, qK, qD⟩, qE⟩ := q
  exact ⟨q0, ⟨q1, qP, va_K.moved (u := U) (U := U.calling g mk a) (Vm.Alike.refl U.vm) qK, qD⟩, tp_EV.same (u := U) (U := U.calling g mk a) qE rfl⟩
theorem tp_ofIE {l : Launch} {y : MethodName} {ws ws' : List Cond} {fr lo : Nat} {I' : Nat → Nat → Int32} {as : List Value} {r : Int32} {cc : ByteArray} {maxL : Nat} {ret : Option FieldType} {lv : List (Nat × Value)}
    (hy : plainName y.cls = true) (hw : ws = Cond.code y cc maxL ret :: ws') (hlen : (lg_sl as).length ≤ maxL) (hlv : lv_args 0 as = lv)
    (body : ∀ (p : Program) (e : Env) (s : State) (m : MethodId) (args : Array Value) (below : List Frame) (meth : Method) (c : Code) (A : Nat → Prop) (ls : Array Slot), tp_S p s m args meth c y ws cc maxL ret D cy n ad o I A ls lv → tp_EV sa tL tM A s s.heap →
      W p l e (tp_rm fr lo) s m args below meth c s.heap [] 0 0 (MQ below (va_Qi (fun x u => x = r ∧ u = I') (tp_B D cy n ad o A) A) args s 0 0 A) (F0 m 0 ls [])) :
    tp_IE l y ws (tp_rm fr lo) D cy n ad o sa tL tM as I r I' := by
  intro sz
  refine Met.ofW (cc := cc) (maxL := maxL) (ret := ret) hy hw ?_
  intro p e s m args below meth c s₁ B hml hv
  obtain ⟨rfl, ⟨hsz, hP, hK, hD0⟩, hE⟩ := hv
  subst hsz
  have hown : s.vm.findClass y.cls = some m.cls := findClass_of_methodNamed B.named
  have hD := hD0.self (sz := s.heap.size)
  generalize hAe : va_A (tp_w cy n ad I o) s.heap.size = A at hD hE ⊢
  have hA : ∀ q : Nat, s.heap.size ≤ q → A q := fun q h => by rw [← hAe]; exact Or.inr h
  have hl := lv_entry as (n := maxL) hlen
  rw [hlv] at hl
  rw [lg_entry_eq]
  exact body p e s m _ below meth c A _ ⟨B.exec, B.bytes, B.returns, hml, hown, atoms_spec (ws := ws) B.pre, B.notSynchronized, hA, hK, hP, hD, va_S.rf, hl⟩ hE
theorem tp_ofR {l : Launch} {y : MethodName} {ws ws' : List Cond} {fr lo k : Nat} {as : List Value} {cc : ByteArray} {maxL : Nat} {ret : Option FieldType} {lv : List (Nat × Value)}
    (hy : plainName y.cls = true) (hw : ws = Cond.code y cc maxL ret :: ws') (hlen : (lg_sl as).length ≤ maxL) (hlv : lv_args 0 as = lv)
    (body : ∀ (p : Program) (e : Env) (s : State) (m : MethodId) (args : Array Value) (below : List Frame) (meth : Method) (c : Code) (A : Nat → Prop) (ls : Array Slot), tp_S p s m args meth c y ws cc maxL ret D cy n ad o I A ls lv →
      W p l e (tp_rm fr lo) s m args below meth c s.heap [] 0 0 (MQ below (va_Qq (fun x u => x = some (ad k) ∧ u = I) (tp_B D cy n ad o A) A) args s 0 0 A) (F0 m 0 ls [])) :
    tp_R l y ws (tp_rm fr lo) D cy n ad o as I k := by
  intro sz
  refine Met.ofW (cc := cc) (maxL := maxL) (ret := ret) hy hw ?_
  intro p e s m args below meth c s₁ B hml hv
  obtain ⟨rfl, hsz, hP, hK, hD0⟩ := hv
  subst hsz
  have hown : s.vm.findClass y.cls = some m.cls := findClass_of_methodNamed B.named
  have hD := hD0.self (sz := s.heap.size)
  generalize hAe : va_A (tp_w cy n ad I o) s.heap.size = A at hD ⊢
  have hA : ∀ q : Nat, s.heap.size ≤ q → A q := fun q h => by rw [← hAe]; exact Or.inr h
  have hl := lv_entry as (n := maxL) hlen
  rw [hlv] at hl
  rw [lg_entry_eq]
  exact body p e s m _ below meth c A _ ⟨B.exec, B.bytes, B.returns, hml, hown, atoms_spec (ws := ws) B.pre, B.notSynchronized, hA, hK, hP, hD, va_S.rf, hl⟩
theorem tp_ofT {l : Launch} {y : MethodName} {ws ws' : List Cond} {fr lo : Nat} {E : String} {as : List Value} {cc : ByteArray} {maxL : Nat} {ret : Option FieldType} {lv : List (Nat × Value)}
    (hy : plainName y.cls = true) (hw : ws = Cond.code y cc maxL ret :: ws') (hlen : (lg_sl as).length ≤ maxL) (hlv : lv_args 0 as = lv)
    (body : ∀ (p : Program) (e : Env) (s : State) (m : MethodId) (args : Array Value) (below : List Frame) (meth : Method) (c : Code) (A : Nat → Prop) (ls : Array Slot), tp_S p s m args meth c y ws cc maxL ret D cy n ad o I A ls lv → tp_EV sa tL tM A s s.heap → (∀ x ∈ c.exceptionTable.toList, False) →
      W p l e (tp_rx fr lo) s m args below meth c s.heap [] 0 0 (vx_MQ below (fun _ _ _ _ => False) (tp_XC E D cy n ad I o A) args s 1 6 A) (F0 m 0 ls [])) :
    tp_T l y ws fr lo D cy n ad o sa tL tM as I E := by
  intro sz
  refine vx_ofW (cc := cc) (maxL := maxL) (ret := ret) hy hw ?_
  intro p e s m args below meth c s₁ B hml hxt hv
  obtain ⟨rfl, ⟨hsz, hP, hK, hD0⟩, hE⟩ := hv
  subst hsz
  have hown : s.vm.findClass y.cls = some m.cls := findClass_of_methodNamed B.named
  have hD := hD0.self (sz := s.heap.size)
  generalize hAe : va_A (tp_w cy n ad I o) s.heap.size = A at hD hE ⊢
  have hA : ∀ q : Nat, s.heap.size ≤ q → A q := fun q h => by rw [← hAe]; exact Or.inr h
  have hl := lv_entry as (n := maxL) hlen
  rw [hlv] at hl
  rw [lg_entry_eq]
  exact body p e s m _ below meth c A _ ⟨B.exec, B.bytes, B.returns, hml, hown, atoms_spec (ws := ws) B.pre, B.notSynchronized, hA, hK, hP, hD, va_S.rf, hl⟩ hE hxt
section TPER
variable {p : Program} {l : Launch} {e : Env} {R : Room} {s : State} {m : MethodId} {args : Array Value} {below : List Frame} {meth : Method} {c : Code} {H : Heap} {locs : List Loc} {cells slots : Nat} {Q : State → Prop}
variable {cc : ByteArray} {pc : Nat} {ls : Array Slot} {rest : List Value} {A : Nat → Prop} {H0 : Heap}
theorem tp_retq {k : Nat} {rt : FieldType} (hx : p.tables.exec = Jvm.exec) (hb : c.code = cc) (hr : meth.sig.returnType = some rt) (hrt : (∃ n, rt = .object n) ∨ ∃ t, rt = .array t) (hlocks : meth.locks = false) (hK : va_K D vwCl (tp_ty cy) s) (hP : va_P D vwCl (tp_w cy n ad I o) H) (hD : va_D A (tp_w cy n ad I o)) (hS : va_S A s.heap H locs) (hdg : decode cc pc = .ok (.areturn, 1)) :
    W p l e R s m args below meth c H locs 0 0 (MQ below (va_Qq (fun x u => x = some (ad k) ∧ u = I) (tp_B D cy n ad o A) A) args s 0 0 A) (F0 m pc ls [.ref (ad k)]) :=
  W.aret (v := .ref (ad k)) hx hb hr hrt (Or.inr ⟨_, rfl⟩) (fun t ht hW => ⟨⟨some (ad k), I, rfl, ⟨rfl, rfl⟩, by rw [ht]; exact hP, va_K.moved hW.alike hK, hD⟩, hS.F ht⟩) hS.2.2 hdg
/-- a throw of one's own -/
theorem tp_throw {E text : String} {ik is ic : Nat} (hx : p.tables.exec = Jvm.exec) (hb : c.code = cc) (hlt : l.stackTraces = false) (hown : s.vm.findClass "TaperOffice" = some m.cls) (hcls : Bundle.fit E = true)
    (hk : (Cond.classLink "TaperOffice" ik E).before args s = true) (hini : (Cond.initialized E).before args s = true) (hstr : (is, text) ∈ tp_strs) (hat : ∀ w ∈ (vx_atS "TaperOffice" ic E ["java/lang/RuntimeException", "java/lang/Exception"]).filter goodWord, w.before args s = true)
    (hng : ∀ w ∈ (vx_atS "TaperOffice" ic E ["java/lang/RuntimeException", "java/lang/Exception"]).filter (fun w => !goodWord w), w ∈ tp_nws) (hgood : ∀ w ∈ Cond.classLink "TaperOffice" ik E :: Cond.initialized E :: vx_atS "TaperOffice" ic E ["java/lang/RuntimeException", "java/lang/Exception"], vx_ot w = true)
    (hE : tp_EV sa tL tM A s s.heap) (hK : va_K D vwCl (tp_ty cy) s) (hP : va_P D vwCl (tp_w cy n ad I o) H) (hD : va_D A (tp_w cy n ad I o)) (hS : va_S A s.heap H locs) (hsize : ls.size = c.maxLocals)
    (d0 : decode cc pc = .ok (.new ik, 3)) (d3 : decode cc (pc + 3) = .ok (.dup, 1)) (d4 : decode cc (pc + 4) = .ok (.ldc is, 2)) (d6 : decode cc (pc + 6) = .ok (.invokespecial ic, 3)) (d9 : decode cc (pc + 9) = .ok (.athrow, 1)) (hxt : ∀ x ∈ c.exceptionTable.toList, False) (hlocks : meth.locks = false)
    (hRf : 6 ≤ R.frames) (hRl : (rest.map fun v => v.category).sum + 82 ≤ R.locals) (hRc : 1 ≤ R.cells) (hRs : 6 ≤ R.slots) :
    W p l e R s m args below meth c H locs 0 0 (vx_MQ below (fun _ _ _ _ => False) (tp_XC E D cy n ad I o A) args s 1 6 A) (F0 m pc ls rest) := by
  obtain ⟨⟨hU, hN⟩, -, h7, h8, -, -, -⟩ := hE
  refine vx_throwS (names := ["java/lang/RuntimeException", "java/lang/Exception"]) (text := text) (A := A) hx hb hlt hown hcls (by decide +kernel) hk hini (h7 _ hstr) (vx_hat hat hng (fun w hw => va_Nw.use (tp_nwk_on (tp_nwk_ok w hw)) (h8 w hw))) hgood hU hN hS hsize d0 d3 d4 d6 d9 (fun x hx => (hxt x hx).elim) (by simp only [List.length_cons, List.length_nil]; omega) (by simp only [List.length_cons, List.length_nil]; omega) (by omega) (by omega) hlocks (fun t ha hz hk => ?_) hS.2.2 (by omega) (by omega)
  refine ⟨(), trivial, ⟨rfl, hP.kept (fun k q hq => hk q.1 ((hP k q hq).lt)), va_K.moved ha hK, hD⟩, Nat.le_trans hS.1 hz, fun q h1 h2 => (hk q (Nat.lt_of_lt_of_le h1 hS.1)).trans (hS.2.1 q h1 h2)⟩
/-- a callee's throw leaves this method too -/
theorem tp_out {E : String} {ce : Cell} {q9 : Addr} (hxt : ∀ x ∈ c.exceptionTable.toList, False) (hlocks : meth.locks = false) (hce : H[q9]? = some ce) (hcv : ce.vm = .none) (hcl : s.vm.findClass E = some ce.cls) (hK : va_K D vwCl (tp_ty cy) s) (hP : va_P D vwCl (tp_w cy n ad I o) H) (hD : va_D A (tp_w cy n ad I o)) (hS : va_S A s.heap H locs) (hc : cells ≤ 1) (hs : slots ≤ 6) :
    vx_W p l e R s m args below meth c H locs cells slots (vx_MQ below (fun _ _ _ _ => False) (tp_XC E D cy n ad I o A) args s 1 6 A) (F0 m pc ls rest) q9 :=
  vx_out (E := E) (fun x hx => (hxt x hx).elim) hlocks hce hcv hcl (fun t ht ha => ⟨(), trivial, ⟨rfl, by rw [ht]; exact hP, va_K.moved ha hK, hD⟩, hS.F ht⟩) hS.2.2 hc hs
theorem tp_gone {mc ms : Nat} {E : String} {A1 : Nat → Prop} {free : Addr → Prop} {st : List Value} (hr : vx_Run p l e R s m args below meth c H locs cells slots mc ms (F0 m pc ls st) rest (fun _ _ _ => False) (tp_XC E D cy n ad I o A1) free) (hS : va_S A H0 H locs) (hAX : ∀ q, A1 q → A q) (hf : ∀ q, free q → A q)
    (kx : ∀ (ce : Cell) (q9 : Addr) (H1 : Heap) (locs1 : List Loc), H1[q9]? = some ce → ce.vm = .none → s.vm.findClass E = some ce.cls → va_P D vwCl (tp_w cy n ad I o) H1 → va_D A (tp_w cy n ad I o) → va_S A H0 H1 locs1 → vx_W p l e R s m args below meth c H1 locs1 (cells + mc) (slots + ms) Q (F0 m pc ls rest) q9) : W p l e R s m args below meth c H locs cells slots Q (F0 m pc ls st) := by
  intro T hT X
  rcases hr T hT X with ⟨v, st₀, t, T', L, h0, X', hL, e1, e2, hQ, st⟩ | ⟨q, st₀, t, T', L, E', ce, h0, X', hL, e1, e2, ⟨u, -, ⟨rfl, hP1, hK1, hD1⟩, hF⟩, hce, hcv, hcl, st⟩
  · exact hQ.elim
  · obtain ⟨k1, k2, k3⟩ := vx_keep h0 e1 hS (fun q _ h => hAX q h) hf hL hF
    obtain ⟨t2, a1, b1⟩ := kx ce q T'.heap (locs ++ L) (by rw [e1]; exact hce) hcv hcl (by rw [e1]; exact hP1) (hD1.weaken (fun _ _ _ h => hAX _ h)) k3 T' rfl X'
    exact ⟨t2, st.trans a1, b1⟩
theorem tp_callVT {own C E : String} {index nA nL maxL fr lo : Nat} {y : MethodName} {bytes : ByteArray} {ret : Option FieldType} {ws Ts : List Cond} {b : Nat} {As st fs : List Value} {q : vw_C}
    (S : CallFix p m c cc nL s args Ts own) (hM : tp_T l y ws fr lo D cy n ad o sa tL tM (.ref b :: As) I E) (cw : CallW R s args own C index y bytes maxL ret ws (tp_rx fr lo) 1 6 nA) (hE : tp_EV sa tL tM A s s.heap) (hK : va_K D vwCl (tp_ty cy) s) (hP : va_P D vwCl (tp_w cy n ad I o) H) (hD : va_D A (tp_w cy n ad I o)) (hS : va_S A s.heap H locs) (hA : ∀ q : Nat, s.heap.size ≤ q → A q)
    (k0 ci : Nat) (he : (tp_w cy n ad I o)[k0]? = some (b, .inr (ci, fs))) (hci : vwCl[ci]? = some q) (hqC : q.1 = C) (hn : As.length = nA) (hls : ls.size = nL) (hst : st = As.reverse ++ .ref b :: rest) (hroom : (rest.map fun v => v.category).sum ≤ 8) (hdg : decode cc pc = .ok (.invokevirtual index, 3)) (hcs : cells + 1 ≤ R.cells ∧ slots + 6 ≤ R.slots)
    (kx : ∀ (ce : Cell) (q9 : Addr) (H1 : Heap) (locs1 : List Loc), H1[q9]? = some ce → ce.vm = .none → s.vm.findClass E = some ce.cls → va_P D vwCl (tp_w cy n ad I o) H1 → va_D A (tp_w cy n ad I o) → va_S A s.heap H1 locs1 → vx_W p l e R s m args below meth c H1 locs1 (cells + 1) (slots + 6) Q (F0 m pc ls rest) q9) : W p l e R s m args below meth c H locs cells slots Q (F0 m pc ls st) := by
  subst hst
  subst hqC
  have hF := tp_fr hD hS hA
  exact tp_gone (vx_runV (As := As) (rest := rest) S (hM H.size) cw ⟨tp_blindE, va_recv hK hP hci he, fun U hU hW => ⟨rfl, ⟨by rw [hU], by rw [hU]; exact hP, va_K.moved hW.alike hK, hD.weaken (fun _ _ _ _ => trivial)⟩, tp_EV.go hE hW hU hS hF⟩⟩ rfl hn hls rfl (lv_room hroom) hdg hcs) hS hF hF kx
theorem tp_callST {own E : String} {index nA nL maxL fr lo : Nat} {y : MethodName} {bytes : ByteArray} {ret : Option FieldType} {ws Ts : List Cond} {As st : List Value}
    (S : CallFix p m c cc nL s args Ts own) (hM : tp_T l y ws fr lo D cy n ad o sa tL tM As I E) (cw : CallB R s args own index y bytes maxL ret ws (tp_rx fr lo) 1 6 nA ∧ (Cond.static y).before args s = true) (hE : tp_EV sa tL tM A s s.heap) (hK : va_K D vwCl (tp_ty cy) s) (hP : va_P D vwCl (tp_w cy n ad I o) H) (hD : va_D A (tp_w cy n ad I o)) (hS : va_S A s.heap H locs) (hA : ∀ q : Nat, s.heap.size ≤ q → A q)
    (hn : As.length = nA) (hls : ls.size = nL) (hst : st = As.reverse ++ rest) (hroom : (rest.map fun v => v.category).sum ≤ 8) (hdg : decode cc pc = .ok (.invokestatic index, 3)) (hcs : cells + 1 ≤ R.cells ∧ slots + 6 ≤ R.slots)
    (kx : ∀ (ce : Cell) (q9 : Addr) (H1 : Heap) (locs1 : List Loc), H1[q9]? = some ce → ce.vm = .none → s.vm.findClass E = some ce.cls → va_P D vwCl (tp_w cy n ad I o) H1 → va_D A (tp_w cy n ad I o) → va_S A s.heap H1 locs1 → vx_W p l e R s m args below meth c H1 locs1 (cells + 1) (slots + 6) Q (F0 m pc ls rest) q9) : W p l e R s m args below meth c H locs cells slots Q (F0 m pc ls st) := by
  subst hst
  have hF := tp_fr hD hS hA
  exact tp_gone (vx_runS (As := As) (rest := rest) S (hM H.size) cw ⟨tp_blindE, fun U hU hW => ⟨rfl, ⟨by rw [hU], by rw [hU]; exact hP, va_K.moved hW.alike hK, hD.weaken (fun _ _ _ _ => trivial)⟩, tp_EV.go hE hW hU hS hF⟩⟩ rfl hn hls rfl (lv_room hroom) hdg hcs) hS hF hF kx
theorem tp_callR {own C : String} {index nA nL maxL fr lo k : Nat} {y : MethodName} {bytes : ByteArray} {ret : Option FieldType} {ws Ts : List Cond} {b : Nat} {As st fs : List Value} {q : vw_C}
    (S : CallFix p m c cc nL s args Ts own) (hM : tp_R l y ws (tp_rm fr lo) D cy n ad o (.ref b :: As) I k) (cw : CallW R s args own C index y bytes maxL ret ws (tp_rm fr lo) 0 0 nA) (hK : va_K D vwCl (tp_ty cy) s) (hP : va_P D vwCl (tp_w cy n ad I o) H) (hD : va_D A (tp_w cy n ad I o)) (hS : va_S A H0 H locs) (hA : ∀ q : Nat, H0.size ≤ q → A q)
    (k0 ci : Nat) (he : (tp_w cy n ad I o)[k0]? = some (b, .inr (ci, fs))) (hci : vwCl[ci]? = some q) (hqC : q.1 = C) (hn : As.length = nA) (hls : ls.size = nL) (hst : st = As.reverse ++ .ref b :: rest) (hroom : (rest.map fun v => v.category).sum ≤ 8) (hdg : decode cc pc = .ok (.invokevirtual index, 3)) (hcs : cells ≤ R.cells ∧ slots ≤ R.slots)
    (kk : ∀ (H1 : Heap) (locs1 : List Loc), va_P D vwCl (tp_w cy n ad I o) H1 → va_D A (tp_w cy n ad I o) → va_S A H0 H1 locs1 → W p l e R s m args below meth c H1 locs1 cells slots Q (F0 m (pc + 3) ls (.ref (ad k) :: rest))) : W p l e R s m args below meth c H locs cells slots Q (F0 m pc ls st) := by
  subst hst
  subst hqC
  have hF := tp_fr hD hS hA
  refine va_callq (va_runV (As := As) (rest := rest) S (hM H.size) cw ⟨tp_blind, va_recv hK hP hci he, fun U hU hW => ⟨rfl, by rw [hU], by rw [hU]; exact hP, va_K.moved hW.alike hK, hD.weaken (fun _ _ _ _ => trivial)⟩⟩ rfl hn hls rfl (lv_room hroom) hdg hcs) hS (fun q _ h => hF q h) hF (fun r1 u t H1 locs1 ht hvm hw hB hz1 hk1 hS1 => ?_)
  obtain ⟨rfl, rfl⟩ := hw
  obtain ⟨hP1, hK1, hD1⟩ := hB
  rw [ht] at hP1
  exact kk H1 locs1 hP1 (hD1.weaken (fun _ _ _ h => hF _ h)) hS1
/-- a nest mate's private method -/
theorem tp_callN {own C host : String} {index nA nL maxL fr lo : Nat} {y : MethodName} {bytes : ByteArray} {ret : Option FieldType} {ws Ts : List Cond} {b : Nat} {As st fs : List Value} {r : Int32} {I' : Nat → Nat → Int32} {q : vw_C}
    (S : CallFix p m c cc nL s args Ts own) (hM : tp_I l y ws (tp_rm fr lo) D cy n ad o (.ref b :: As) I r I') (cw : va_CN R s args own index y host bytes maxL ret ws (tp_rm fr lo) 0 0 nA ∧ (Cond.instanceMethod y).before args s = true ∧ (Cond.selects C y y).before args s = true) (hK : va_K D vwCl (tp_ty cy) s) (hP : va_P D vwCl (tp_w cy n ad I o) H) (hD : va_D A (tp_w cy n ad I o)) (hS : va_S A H0 H locs) (hA : ∀ q : Nat, H0.size ≤ q → A q)
    (k0 ci : Nat) (he : (tp_w cy n ad I o)[k0]? = some (b, .inr (ci, fs))) (hci : vwCl[ci]? = some q) (hqC : q.1 = C) (hn : As.length = nA) (hls : ls.size = nL) (hst : st = As.reverse ++ .ref b :: rest) (hroom : (rest.map fun v => v.category).sum ≤ 8) (hdg : decode cc pc = .ok (.invokevirtual index, 3)) (hcs : cells ≤ R.cells ∧ slots ≤ R.slots)
    (kk : ∀ I1 : Nat → Nat → Int32, I' = I1 → ∀ (H1 : Heap) (locs1 : List Loc), va_P D vwCl (tp_w cy n ad I1 o) H1 → va_D A (tp_w cy n ad I1 o) → va_S A H0 H1 locs1 → W p l e R s m args below meth c H1 locs1 cells slots Q (F0 m (pc + 3) ls (.int r :: rest))) : W p l e R s m args below meth c H locs cells slots Q (F0 m pc ls st) := by
  subst hst
  subst hqC
  have hF := tp_fr hD hS hA
  refine va_calli (va_runVN (As := As) (rest := rest) S (hM H.size) cw ⟨tp_blind, va_recv hK hP hci he, fun U hU hW => ⟨rfl, by rw [hU], by rw [hU]; exact hP, va_K.moved hW.alike hK, hD.weaken (fun _ _ _ _ => trivial)⟩⟩ rfl hn hls rfl (lv_room hroom) hdg hcs) hS (fun q _ h => hF q h) hF (fun r1 u t H1 locs1 ht hvm hw hB hz1 hk1 hS1 => ?_)
  obtain ⟨rfl, rfl⟩ := hw
  obtain ⟨hP1, hK1, hD1⟩ := hB
  rw [ht] at hP1
  exact kk _ rfl H1 locs1 hP1 (hD1.weaken (fun _ _ _ h => hF _ h)) hS1
theorem tp_callNv {own C host : String} {index nA nL maxL fr lo : Nat} {y : MethodName} {bytes : ByteArray} {ret : Option FieldType} {ws Ts : List Cond} {b : Nat} {As st fs : List Value} {I' : Nat → Nat → Int32} {q : vw_C}
    (S : CallFix p m c cc nL s args Ts own) (hM : tp_V l y ws (tp_rm fr lo) D cy n ad o (.ref b :: As) I I') (cw : va_CN R s args own index y host bytes maxL ret ws (tp_rm fr lo) 0 0 nA ∧ (Cond.instanceMethod y).before args s = true ∧ (Cond.selects C y y).before args s = true) (hK : va_K D vwCl (tp_ty cy) s) (hP : va_P D vwCl (tp_w cy n ad I o) H) (hD : va_D A (tp_w cy n ad I o)) (hS : va_S A H0 H locs) (hA : ∀ q : Nat, H0.size ≤ q → A q)
    (k0 ci : Nat) (he : (tp_w cy n ad I o)[k0]? = some (b, .inr (ci, fs))) (hci : vwCl[ci]? = some q) (hqC : q.1 = C) (hn : As.length = nA) (hls : ls.size = nL) (hst : st = As.reverse ++ .ref b :: rest) (hroom : (rest.map fun v => v.category).sum ≤ 8) (hdg : decode cc pc = .ok (.invokevirtual index, 3)) (hcs : cells ≤ R.cells ∧ slots ≤ R.slots)
    (kk : ∀ I1 : Nat → Nat → Int32, I' = I1 → ∀ (H1 : Heap) (locs1 : List Loc), va_P D vwCl (tp_w cy n ad I1 o) H1 → va_D A (tp_w cy n ad I1 o) → va_S A H0 H1 locs1 → W p l e R s m args below meth c H1 locs1 cells slots Q (F0 m (pc + 3) ls rest)) : W p l e R s m args below meth c H locs cells slots Q (F0 m pc ls st) := by
  subst hst
  subst hqC
  have hF := tp_fr hD hS hA
  refine va_callv (va_runVN (As := As) (rest := rest) S (hM H.size) cw ⟨tp_blind, va_recv hK hP hci he, fun U hU hW => ⟨rfl, by rw [hU], by rw [hU]; exact hP, va_K.moved hW.alike hK, hD.weaken (fun _ _ _ _ => trivial)⟩⟩ rfl hn hls rfl (lv_room hroom) hdg hcs) hS (fun q _ h => hF q h) hF (fun u t H1 locs1 ht hvm hw hB hz1 hk1 hS1 => ?_)
  subst hw
  obtain ⟨hP1, hK1, hD1⟩ := hB
  rw [ht] at hP1
  exact kk _ rfl H1 locs1 hP1 (hD1.weaken (fun _ _ _ h => hF _ h)) hS1
/-- the void static ones -/
theorem tp_callSv {own : String} {index nA nL maxL fr lo : Nat} {y : MethodName} {bytes : ByteArray} {ret : Option FieldType} {ws Ts : List Cond} {As st : List Value} {I' : Nat → Nat → Int32}
    (S : CallFix p m c cc nL s args Ts own) (hM : tp_V l y ws (tp_rm fr lo) D cy n ad o As I I') (cw : CallB R s args own index y bytes maxL ret ws (tp_rm fr lo) 0 0 nA ∧ (Cond.static y).before args s = true) (hK : va_K D vwCl (tp_ty cy) s) (hP : va_P D vwCl (tp_w cy n ad I o) H) (hD : va_D A (tp_w cy n ad I o)) (hS : va_S A H0 H locs) (hA : ∀ q : Nat, H0.size ≤ q → A q)
    (hn : As.length = nA) (hls : ls.size = nL) (hst : st = As.reverse ++ rest) (hroom : (rest.map fun v => v.category).sum ≤ 8) (hdg : decode cc pc = .ok (.invokestatic index, 3)) (hcs : cells ≤ R.cells ∧ slots ≤ R.slots)
    (kk : ∀ I1 : Nat → Nat → Int32, I' = I1 → ∀ (H1 : Heap) (locs1 : List Loc), va_P D vwCl (tp_w cy n ad I1 o) H1 → va_D A (tp_w cy n ad I1 o) → va_S A H0 H1 locs1 → W p l e R s m args below meth c H1 locs1 cells slots Q (F0 m (pc + 3) ls rest)) : W p l e R s m args below meth c H locs cells slots Q (F0 m pc ls st) := by
  subst hst
  have hF := tp_fr hD hS hA
  refine va_callv (va_runS (As := As) (rest := rest) S (hM H.size) cw ⟨tp_blind, fun U hU hW => ⟨rfl, by rw [hU], by rw [hU]; exact hP, va_K.moved hW.alike hK, hD.weaken (fun _ _ _ _ => trivial)⟩⟩ rfl hn hls rfl (lv_room hroom) hdg hcs) hS (fun q _ h => hF q h) hF (fun u t H1 locs1 ht hvm hw hB hz1 hk1 hS1 => ?_)
  subst hw
  obtain ⟨hP1, hK1, hD1⟩ := hB
  rw [ht] at hP1
  exact kk _ rfl H1 locs1 hP1 (hD1.weaken (fun _ _ _ h => hF _ h)) hS1
/-- the rows of the office: their length, a row -/
theorem tp_rlen (hx : p.tables.exec = Jvm.exec) (hb : c.code = cc) (hK : va_K D vwCl (tp_ty cy) s) (hP : va_P D vwCl (tp_w cy n ad I o) H) (hdg : decode cc pc = .ok (.arraylength, 1))
    (kk : W p l e R s m args below meth c H locs cells slots Q (F0 m (pc + 1) ls (.int 6 :: rest))) : W p l e R s m args below meth c H locs cells slots Q (F0 m pc ls (.ref (ad 1) :: rest)) :=
  va_alen hx hb hK hP 1 3 (tp_at (by omega)) rfl (v := 6) rfl hdg kk
theorem tp_rald {x : Int32} (hx : p.tables.exec = Jvm.exec) (hb : c.code = cc) (hK : va_K D vwCl (tp_ty cy) s) (hP : va_P D vwCl (tp_w cy n ad I o) H) (i : Nat) (hi : i < n) (hi6 : i < 6) (hxi : x = nI i) (hdg : decode cc pc = .ok (.aaload, 1))
    (kk : W p l e R s m args below meth c H locs cells slots Q (F0 m (pc + 1) ls (.ref (ad (9 + 15 * i)) :: rest))) : W p l e R s m args below meth c H locs cells slots Q (F0 m pc ls (.int x :: .ref (ad 1) :: rest)) := by
  subst hxi
  refine va_aldq hx hb hK hP 1 3 (tp_at (by omega)) rfl (vp_in_nI hi6 (by decide)) hdg ?_
  rw [nI_clamp (by omega), show tp_rf n (fun j => ad (9 + 15 * j)) i = some (ad (9 + 15 * i)) from if_pos hi]
  exact kk
theorem tp_raldN {x : Int32} (hx : p.tables.exec = Jvm.exec) (hb : c.code = cc) (hK : va_K D vwCl (tp_ty cy) s) (hP : va_P D vwCl (tp_w cy n ad I o) H) (i : Nat) (hi : n ≤ i) (hi6 : i < 6) (hxi : x = nI i) (hdg : decode cc pc = .ok (.aaload, 1))
    (kk : W p l e R s m args below meth c H locs cells slots Q (F0 m (pc + 1) ls (.null :: rest))) : W p l e R s m args below meth c H locs cells slots Q (F0 m pc ls (.int x :: .ref (ad 1) :: rest)) := by
  subst hxi
  refine va_aldq hx hb hK hP 1 3 (tp_at (by omega)) rfl (vp_in_nI hi6 (by decide)) hdg ?_
  rw [nI_clamp (by omega), show tp_rf n (fun j => ad (9 + 15 * j)) i = none from if_neg (by omega)]
  exact kk
end TPER
end TPE
