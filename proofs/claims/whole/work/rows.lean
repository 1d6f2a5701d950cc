section
-- ===== PART A: goes FIRST, ahead of the names: the tables' words, and 'selects' of the private methods out of them =====
/-- a private method of a class that the tables say can be made, by its rows of tables_1 -/
def lw_okq (q : MethodName × Nat) : Prop := (q.1.cls ≠ "java/lang/invoke/MethodHandle" ∧ q.1.cls ≠ "java/lang/invoke/VarHandle") ∧ Cond.instantiable q.1.cls q.2 ∈ tables_1 ∧ Cond.privateMethod q.1 ∈ tables_1 ∧ Cond.instanceMethod q.1 ∈ tables_1
theorem lw_p0 : lw_okq (⟨"java/lang/Throwable", "fillInStackTrace", "(I)Ljava/lang/Throwable;"⟩, 6) := ⟨⟨by decide +kernel, by decide +kernel⟩, List.mem_of_getElem? (i := 86) (by decide +kernel), List.mem_of_getElem? (i := 84) (by decide +kernel), List.mem_of_getElem? (i := 85) (by decide +kernel)⟩
theorem lw_p1 : lw_okq (⟨"TaperOffice", "existing", "(I)LTaperOffice$Household;"⟩, 3) := ⟨⟨by decide +kernel, by decide +kernel⟩, List.mem_of_getElem? (i := 12) (by decide +kernel), List.mem_of_getElem? (i := 169) (by decide +kernel), List.mem_of_getElem? (i := 170) (by decide +kernel)⟩
theorem lw_p2 : lw_okq (⟨"TaperOffice$Household", "change", "(III)V"⟩, 9) := ⟨⟨by decide +kernel, by decide +kernel⟩, List.mem_of_getElem? (i := 116) (by decide +kernel), List.mem_of_getElem? (i := 218) (by decide +kernel), List.mem_of_getElem? (i := 219) (by decide +kernel)⟩
theorem lw_p3 : lw_okq (⟨"TaperOffice$Household", "lowerDebt", "(I)V"⟩, 9) := ⟨⟨by decide +kernel, by decide +kernel⟩, List.mem_of_getElem? (i := 116) (by decide +kernel), List.mem_of_getElem? (i := 239) (by decide +kernel), List.mem_of_getElem? (i := 240) (by decide +kernel)⟩
theorem lw_p4 : lw_okq (⟨"TaperOffice$Household", "settle", "(I)I"⟩, 9) := ⟨⟨by decide +kernel, by decide +kernel⟩, List.mem_of_getElem? (i := 116) (by decide +kernel), List.mem_of_getElem? (i := 250) (by decide +kernel), List.mem_of_getElem? (i := 251) (by decide +kernel)⟩
theorem lw_p5 : lw_okq (⟨"TaperOffice$Household", "paymentIn", "(I)I"⟩, 9) := ⟨⟨by decide +kernel, by decide +kernel⟩, List.mem_of_getElem? (i := 116) (by decide +kernel), List.mem_of_getElem? (i := 254) (by decide +kernel), List.mem_of_getElem? (i := 255) (by decide +kernel)⟩
theorem lw_p6 : lw_okq (⟨"TaperOffice$Household", "unassessedBefore", "(I)I"⟩, 9) := ⟨⟨by decide +kernel, by decide +kernel⟩, List.mem_of_getElem? (i := 116) (by decide +kernel), List.mem_of_getElem? (i := 258) (by decide +kernel), List.mem_of_getElem? (i := 259) (by decide +kernel)⟩
theorem lw_p7 : lw_okq (⟨"TaperOffice$Household", "dueIn", "(I)I"⟩, 9) := ⟨⟨by decide +kernel, by decide +kernel⟩, List.mem_of_getElem? (i := 116) (by decide +kernel), List.mem_of_getElem? (i := 262) (by decide +kernel), List.mem_of_getElem? (i := 263) (by decide +kernel)⟩
theorem lw_p8 : lw_okq (⟨"TaperOffice$Household", "needIn", "(I)I"⟩, 9) := ⟨⟨by decide +kernel, by decide +kernel⟩, List.mem_of_getElem? (i := 116) (by decide +kernel), List.mem_of_getElem? (i := 267) (by decide +kernel), List.mem_of_getElem? (i := 268) (by decide +kernel)⟩
theorem lw_p9 : lw_okq (⟨"TaperOffice$Household", "taperIn", "(I)I"⟩, 9) := ⟨⟨by decide +kernel, by decide +kernel⟩, List.mem_of_getElem? (i := 116) (by decide +kernel), List.mem_of_getElem? (i := 275) (by decide +kernel), List.mem_of_getElem? (i := 276) (by decide +kernel)⟩
theorem lw_p10 : lw_okq (⟨"TaperOffice$Household", "tariffIn", "(I)I"⟩, 9) := ⟨⟨by decide +kernel, by decide +kernel⟩, List.mem_of_getElem? (i := 116) (by decide +kernel), List.mem_of_getElem? (i := 282) (by decide +kernel), List.mem_of_getElem? (i := 283) (by decide +kernel)⟩
theorem lw_p11 : lw_okq (⟨"TaperOffice$Household", "owedAfter", "(I)I"⟩, 9) := ⟨⟨by decide +kernel, by decide +kernel⟩, List.mem_of_getElem? (i := 116) (by decide +kernel), List.mem_of_getElem? (i := 287) (by decide +kernel), List.mem_of_getElem? (i := 288) (by decide +kernel)⟩
theorem lw_p12 : lw_okq (⟨"TaperOffice$Household", "recoverableIn", "(II)I"⟩, 9) := ⟨⟨by decide +kernel, by decide +kernel⟩, List.mem_of_getElem? (i := 116) (by decide +kernel), List.mem_of_getElem? (i := 291) (by decide +kernel), List.mem_of_getElem? (i := 292) (by decide +kernel)⟩
theorem lw_p13 : lw_okq (⟨"TaperOffice$Household", "arrearsOf", "(I)I"⟩, 9) := ⟨⟨by decide +kernel, by decide +kernel⟩, List.mem_of_getElem? (i := 116) (by decide +kernel), List.mem_of_getElem? (i := 295) (by decide +kernel), List.mem_of_getElem? (i := 296) (by decide +kernel)⟩
theorem lw_p14 : lw_okq (⟨"TaperOfficeModel", "fails", "(I)I"⟩, 16) := ⟨⟨by decide +kernel, by decide +kernel⟩, List.mem_of_getElem? (i := 387) (by decide +kernel), List.mem_of_getElem? (i := 451) (by decide +kernel), List.mem_of_getElem? (i := 452) (by decide +kernel)⟩
theorem lw_p15 : lw_okq (⟨"TaperOfficeModel", "isHome", "(I)Z"⟩, 16) := ⟨⟨by decide +kernel, by decide +kernel⟩, List.mem_of_getElem? (i := 387) (by decide +kernel), List.mem_of_getElem? (i := 459) (by decide +kernel), List.mem_of_getElem? (i := 460) (by decide +kernel)⟩
def lw_privs_1 : List (MethodName × Nat) := [(⟨"java/lang/Throwable", "fillInStackTrace", "(I)Ljava/lang/Throwable;"⟩, 6), (⟨"TaperOffice", "existing", "(I)LTaperOffice$Household;"⟩, 3), (⟨"TaperOffice$Household", "change", "(III)V"⟩, 9), (⟨"TaperOffice$Household", "lowerDebt", "(I)V"⟩, 9), (⟨"TaperOffice$Household", "settle", "(I)I"⟩, 9), (⟨"TaperOffice$Household", "paymentIn", "(I)I"⟩, 9), (⟨"TaperOffice$Household", "unassessedBefore", "(I)I"⟩, 9), (⟨"TaperOffice$Household", "dueIn", "(I)I"⟩, 9), (⟨"TaperOffice$Household", "needIn", "(I)I"⟩, 9), (⟨"TaperOffice$Household", "taperIn", "(I)I"⟩, 9), (⟨"TaperOffice$Household", "tariffIn", "(I)I"⟩, 9), (⟨"TaperOffice$Household", "owedAfter", "(I)I"⟩, 9), (⟨"TaperOffice$Household", "recoverableIn", "(II)I"⟩, 9), (⟨"TaperOffice$Household", "arrearsOf", "(I)I"⟩, 9), (⟨"TaperOfficeModel", "fails", "(I)I"⟩, 16), (⟨"TaperOfficeModel", "isHome", "(I)Z"⟩, 16)]
theorem lw_r1 : ∀ q ∈ lw_privs_1, lw_okq q := List.forall_mem_cons.mpr ⟨lw_p0, List.forall_mem_cons.mpr ⟨lw_p1, List.forall_mem_cons.mpr ⟨lw_p2, List.forall_mem_cons.mpr ⟨lw_p3, List.forall_mem_cons.mpr ⟨lw_p4, List.forall_mem_cons.mpr ⟨lw_p5, List.forall_mem_cons.mpr ⟨lw_p6, List.forall_mem_cons.mpr ⟨lw_p7, List.forall_mem_cons.mpr ⟨lw_p8, List.forall_mem_cons.mpr ⟨lw_p9, List.forall_mem_cons.mpr ⟨lw_p10, List.forall_mem_cons.mpr ⟨lw_p11, List.forall_mem_cons.mpr ⟨lw_p12, List.forall_mem_cons.mpr ⟨lw_p13, List.forall_mem_cons.mpr ⟨lw_p14, List.forall_mem_cons.mpr ⟨lw_p15, fun _ h => absurd h List.not_mem_nil⟩⟩⟩⟩⟩⟩⟩⟩⟩⟩⟩⟩⟩⟩⟩⟩
theorem lw_p16 : lw_okq (⟨"TaperOfficeModel", "reckons", "(I)V"⟩, 16) := ⟨⟨by decide +kernel, by decide +kernel⟩, List.mem_of_getElem? (i := 387) (by decide +kernel), List.mem_of_getElem? (i := 490) (by decide +kernel), List.mem_of_getElem? (i := 491) (by decide +kernel)⟩
theorem lw_p17 : lw_okq (⟨"TaperOfficeModel", "openOf", "(I)I"⟩, 16) := ⟨⟨by decide +kernel, by decide +kernel⟩, List.mem_of_getElem? (i := 387) (by decide +kernel), List.mem_of_getElem? (i := 494) (by decide +kernel), List.mem_of_getElem? (i := 495) (by decide +kernel)⟩
theorem lw_p18 : lw_okq (⟨"TaperOfficeModel", "dueOf", "(II)I"⟩, 16) := ⟨⟨by decide +kernel, by decide +kernel⟩, List.mem_of_getElem? (i := 387) (by decide +kernel), List.mem_of_getElem? (i := 498) (by decide +kernel), List.mem_of_getElem? (i := 499) (by decide +kernel)⟩
theorem lw_p19 : lw_okq (⟨"TaperOfficeModel", "needOf", "(II)I"⟩, 16) := ⟨⟨by decide +kernel, by decide +kernel⟩, List.mem_of_getElem? (i := 387) (by decide +kernel), List.mem_of_getElem? (i := 502) (by decide +kernel), List.mem_of_getElem? (i := 503) (by decide +kernel)⟩
theorem lw_p20 : lw_okq (⟨"TaperOfficeModel", "factOf", "(III)I"⟩, 16) := ⟨⟨by decide +kernel, by decide +kernel⟩, List.mem_of_getElem? (i := 387) (by decide +kernel), List.mem_of_getElem? (i := 506) (by decide +kernel), List.mem_of_getElem? (i := 507) (by decide +kernel)⟩
theorem lw_p21 : lw_okq (⟨"TaperOfficeModel", "taperOf", "(II)I"⟩, 16) := ⟨⟨by decide +kernel, by decide +kernel⟩, List.mem_of_getElem? (i := 387) (by decide +kernel), List.mem_of_getElem? (i := 511) (by decide +kernel), List.mem_of_getElem? (i := 512) (by decide +kernel)⟩
theorem lw_p22 : lw_okq (⟨"TaperOfficeModel", "tariffOf", "(II)I"⟩, 16) := ⟨⟨by decide +kernel, by decide +kernel⟩, List.mem_of_getElem? (i := 387) (by decide +kernel), List.mem_of_getElem? (i := 515) (by decide +kernel), List.mem_of_getElem? (i := 516) (by decide +kernel)⟩
theorem lw_p23 : lw_okq (⟨"TaperOfficeModel", "isAsked", "(II)Z"⟩, 16) := ⟨⟨by decide +kernel, by decide +kernel⟩, List.mem_of_getElem? (i := 387) (by decide +kernel), List.mem_of_getElem? (i := 532) (by decide +kernel), List.mem_of_getElem? (i := 533) (by decide +kernel)⟩
def lw_privs_2 : List (MethodName × Nat) := [(⟨"TaperOfficeModel", "reckons", "(I)V"⟩, 16), (⟨"TaperOfficeModel", "openOf", "(I)I"⟩, 16), (⟨"TaperOfficeModel", "dueOf", "(II)I"⟩, 16), (⟨"TaperOfficeModel", "needOf", "(II)I"⟩, 16), (⟨"TaperOfficeModel", "factOf", "(III)I"⟩, 16), (⟨"TaperOfficeModel", "taperOf", "(II)I"⟩, 16), (⟨"TaperOfficeModel", "tariffOf", "(II)I"⟩, 16), (⟨"TaperOfficeModel", "isAsked", "(II)Z"⟩, 16)]
theorem lw_r2 : ∀ q ∈ lw_privs_2, lw_okq q := List.forall_mem_cons.mpr ⟨lw_p16, List.forall_mem_cons.mpr ⟨lw_p17, List.forall_mem_cons.mpr ⟨lw_p18, List.forall_mem_cons.mpr ⟨lw_p19, List.forall_mem_cons.mpr ⟨lw_p20, List.forall_mem_cons.mpr ⟨lw_p21, List.forall_mem_cons.mpr ⟨lw_p22, List.forall_mem_cons.mpr ⟨lw_p23, fun _ h => absurd h List.not_mem_nil⟩⟩⟩⟩⟩⟩⟩⟩
def lw_privs : List (MethodName × Nat) := lw_privs_1 ++ (lw_privs_2)
def lw_tbl : List Cond := k2_sels lw_privs ++ tables_1
theorem lw_privs_ok : ∀ q ∈ lw_privs, lw_okq q := by
  show ∀ q ∈ lw_privs_1 ++ (lw_privs_2), lw_okq q
  exact List.forall_mem_append.mpr ⟨lw_r1, lw_r2⟩
-- ===== end of PART A; then your names; then what follows =====
end
section
/-! own: the class of an array whose components are arrays of t -/
def va_AOA (t : FieldType) (U : State) : Prop := (Cond.arrayOver (.array t)).before #[] U = true
theorem va_AOA.use {t : FieldType} {A : Array Value} {U : State} (h : va_AOA t U) : (Cond.arrayOver (.array t)).before A U = true := h
theorem va_AOA.moved {t : FieldType} {u U : State} (hvm : u.vm.Alike U.vm) (h : va_AOA t u) : va_AOA t U := over_moved hvm h
/-! ===== BEGIN words of one list among another's, by their places ===== -/
theorem goodIn_r {big : List Cond} (ws : List Cond) (ps : List Nat) (hp : ws = ps.filterMap (fun i => big[i]?)) (h : ws.all goodWord = true) : GoodIn big ws := by
  intro w hw
  have h1 := List.all_eq_true.mp h w hw
  rw [hp] at hw
  obtain ⟨i, -, hi⟩ := List.mem_filterMap.mp hw
  have hm : w ∈ big := by first | exact List.mem_of_getElem? hi | exact List.getElem?_mem hi
  exact ⟨hm, good_of_word h1⟩
theorem goodIn_app {big a b : List Cond} (ha : GoodIn big a) (hb : GoodIn big b) : GoodIn big (a ++ b) := fun w h => (List.mem_append.mp h).elim (ha w) (hb w)
theorem goodIn_ca {big a b : List Cond} {c : Cond} (ha : GoodIn big (c :: a)) (hb : GoodIn big b) : GoodIn big (c :: (a ++ b)) := fun w h => (List.mem_cons.mp h).elim (fun e => ha w (List.mem_cons.mpr (Or.inl e))) (fun h => (List.mem_append.mp h).elim (fun h => ha w (List.mem_cons.mpr (Or.inr h))) (hb w))
theorem goodIn_sub {big ws : List Cond} (hm : ∀ w ∈ ws, w ∈ big) (h : ws.all goodWord = true) : GoodIn big ws := fun w hw => ⟨hm w hw, good_of_word (List.all_eq_true.mp h w hw)⟩
/-! ===== END ===== -/

/-! ===== BEGIN new T[n][m]: the outer array a place, the inner ones among the pooled ===== -/
/-- f, but v at every address of l -/
def vr_up {α : Type} (f : Nat → α) (l : List Nat) (v : α) : Nat → α := fun a => if a ∈ l then v else f a
theorem vr_up_in {α : Type} {f : Nat → α} {l : List Nat} {v : α} {a : Nat} (h : a ∈ l) : vr_up f l v a = v := if_pos h
theorem vr_up_ne {α : Type} {f : Nat → α} {l : List Nat} {v : α} {a : Nat} (h : a ∉ l) : vr_up f l v a = f a := if_neg h
theorem vr_rows {L l : List Nat} {f : Nat → va_E} {e : va_E} (h : ∀ a, a ∈ l → a ∉ L) : va_pl L f ++ l.map (fun a => (a, e)) = va_pl (L ++ l) (vr_up f l e) := by
  unfold va_pl
  rw [List.map_append]
  congr 1
  · apply List.map_congr_left
    intro a ha
    rw [vr_up_ne (fun q => h a q ha)]
  · apply List.map_congr_left
    intro a ha
    rw [vr_up_in ha]
theorem vr_lay {X rows : va_W} {x : Nat × va_E} {pl : va_W} {D : va_G} {cl : List vw_C} {H : Heap} (hP : va_P D cl (((X ++ pl) ++ [x]) ++ rows) H) : va_P D cl ((X ++ [x]) ++ (pl ++ rows)) H := by
  rw [List.append_assoc (X ++ pl)] at hP
  have h := va_P.swap hP
  rw [← List.append_assoc X] at h
  have h2 := va_P.swap h
  rw [List.append_assoc (X ++ [x])] at h2
  exact h2
theorem vr_layD {X rows : va_W} {x : Nat × va_E} {pl : va_W} {A : Nat → Prop} (hD : va_D A (((X ++ pl) ++ [x]) ++ rows)) : va_D A ((X ++ [x]) ++ (pl ++ rows)) := by
  rw [List.append_assoc (X ++ pl)] at hD
  have h := va_D.swap hD
  rw [← List.append_assoc X] at h
  have h2 := va_D.swap h
  rw [List.append_assoc (X ++ [x])] at h2
  exact h2
theorem vr_outer (c : ClassId) (N h0 : Nat) : ∀ i : Nat, Jvm.Free.Multi.outerC c N h0 i = arrV c N (fun j => va_rf (if j < i then some (h0 + 1 + j) else none))
  | 0 => by
    show ({ cls := c, slots := Array.replicate N .null, vm := .none } : Cell) = _
    rw [arrV_new]
    refine congrArg (arrV c N) (funext fun j => ?_)
    simp [va_rf]
  | i + 1 => by
    show (Jvm.Free.Multi.outerC c N h0 i).setSlot i (.ref (h0 + 1 + i)) = _
    rw [vr_outer c N h0 i, arrV_store]
    refine congrArg (arrV c N) (funext fun j => ?_)
    by_cases e : j = i
    · subst e
      simp [updV, va_rf]
    · by_cases h : j < i
      · simp [updV, e, h, Nat.lt_succ_of_lt h]
      · simp [updV, e, h, show ¬ j < i + 1 by omega]
section VGM
variable {p : Program} {l : Launch} {e : Env} {R : Room} {s : State} {m : MethodId} {args : Array Value} {below : List Frame} {meth : Method} {c : Code} {H : Heap} {locs : List Loc} {cells slots : Nat} {Q : State → Prop}
variable {cc : ByteArray} {pc : Nat} {ls : Array Slot} {rest : List Value} {D : va_G} {cl : List vw_C} {A : Nat → Prop} {a : Nat} {tys : List (ClassId × FieldType)} {ws : va_W} {H0 : Heap}
theorem va_mna {X : va_W} {L : List Nat} {f : Nat → va_E} {cc : ByteArray} (hexec : p.tables.exec = Jvm.exec) (hb : c.code = cc) {own : String} {index : Nat} {ty : FieldType} {cy : ClassId} (hown : s.vm.findClass own = some m.cls) (hclink : (Cond.classLink own index ("[" ++ (FieldType.array ty).toString)).before args s = true) (hover : va_AOA ty s) (harr : (Cond.arrayClass ty).before args s = true) (hcy : s.vm.findClass (FieldType.array ty).toString = some cy)
    (hK : va_K D cl tys s) (hP : va_P D cl (X ++ va_pl L f) H) (hD : va_D A (X ++ va_pl L f)) (hS : va_S A H0 H locs) (hA : ∀ q, H0.size ≤ q → A q) {n k : Int32} {N' K' : Nat} {z : vp_A} (hn : ¬ n < 0) (hk : ¬ k < 0) (hN : n.toNatClampNeg = N') (hM : k.toNatClampNeg = K')
    (hb1 : N' * 4 ≤ 536870912) (hb2 : K' * componentBytes ty ≤ 536870912) (hb3 : K' ≤ 536870912) (hdf : fits ty (defaultValue ty) = true) (hdd : (defaultValue ty).isDefault = true) (hcells : cells + (1 + N') ≤ R.cells) (hslots : slots + (N' + N' * K') ≤ R.slots) (hz : ∀ c : ClassId, Jvm.Free.Multi.innerC c K' (defaultValue ty) = vp_cell c z) (hdg : decode cc pc = .ok (.multianewarray index 2, 4))
    (kk : ∀ (q : Nat) (r : Nat → Nat) (cA : ClassId) (H1 : Heap), (∀ i j : Nat, i < N' → j < N' → r i = r j → i = j) → (∀ i : Nat, i < N' → r i ∉ L) → va_K D cl (tys ++ [(cA, .array ty)]) s →
      va_P D cl ((X ++ [(q, .inl (cA, N', .inr (.inr (.inr (.inr (fun i => if i < N' then some (r i) else none))))))]) ++ va_pl (L ++ (List.range N').map r) (vr_up f ((List.range N').map r) (.inl (cy, z)))) H1 → va_D A ((X ++ [(q, .inl (cA, N', .inr (.inr (.inr (.inr (fun i => if i < N' then some (r i) else none))))))]) ++ va_pl (L ++ (List.range N').map r) (vr_up f ((List.range N').map r) (.inl (cy, z)))) → va_S A H0 H1 locs →
      W p l e R s m args below meth c H1 locs (cells + 1 + N') (slots + N' + N' * K') Q (F0 m (pc + 4) ls (.ref q :: rest))) : W p l e R s m args below meth c H locs cells slots Q (F0 m pc ls (.int k :: .int n :: rest)) := by
  subst hN
  subst hM
  intro T hT Xs
  obtain ⟨vm₁, cA, comp, -, fA, fC, hO, -, X', step⟩ := Xs.multianewarray2F hexec hown hclink (va_AOA.use hover) harr (g := F0 m pc ls (.int k :: .int n :: rest)) rfl (by rw [hb]; exact hdg) rfl hn hk hb1 hb2 hb3 hdf hdd hcells hslots
  have ec : some cy = some comp := hcy.symm.trans fC
  cases ec
  generalize hF : Jvm.Free.Multi.fill (T.setVm vm₁) cA cy n.toNatClampNeg k.toNatClampNeg (defaultValue ty) n.toNatClampNeg = F at X' step
  have hTh : (T.setVm vm₁).heap = H := hT
  obtain ⟨f1, f2, -, -⟩ := Jvm.Free.Multi.fill_facts (T.setVm vm₁) cA cy n.toNatClampNeg k.toNatClampNeg (defaultValue ty) n.toNatClampNeg
  rw [hF, hTh] at f1 f2
  have hold : ∀ x : Nat, x < H.size → F.heap[x]? = H[x]? := fun x hx => by
    have := Jvm.Free.Multi.fill_old (T.setVm vm₁) cA cy n.toNatClampNeg k.toNatClampNeg (defaultValue ty) (a := x) (by rw [hTh]; exact hx) n.toNatClampNeg
    rw [hF, hTh] at this
    exact this
  have hrow : ∀ j : Nat, j < n.toNatClampNeg → F.heap[H.size + 1 + j]? = some (vp_cell cy z) := fun j hj => by
    have := Jvm.Free.Multi.fill_inner (T.setVm vm₁) cA cy n.toNatClampNeg k.toNatClampNeg (defaultValue ty) n.toNatClampNeg j hj
    rw [hF, hTh, hz] at this
    exact this
  have hout : Jvm.Free.Multi.outerC cA n.toNatClampNeg H.size n.toNatClampNeg = vp_cell cA (n.toNatClampNeg, .inr (.inr (.inr (.inr (fun i => if i < n.toNatClampNeg then some (H.size + 1 + i) else none))))) := by
    rw [vp_cell_q]
    exact vr_outer cA n.toNatClampNeg H.size n.toNatClampNeg
  rw [hout] at f2
  have hlt : ∀ a, a ∈ L → a < H.size := fun a ha => by
    obtain ⟨k9, hk9⟩ := va_pl_get (X := X) (f := f) ha
    exact (hP k9 _ hk9).lt
  have hnl : ∀ i : Nat, i < n.toNatClampNeg → H.size + 1 + i ∉ L := fun i _ h => by
    have := hlt _ h
    omega
  have hnm : ∀ a, a ∈ (List.range n.toNatClampNeg).map (fun i => H.size + 1 + i) → a ∉ L := fun a ha h => by
    obtain ⟨i, -, rfl⟩ := List.mem_map.mp ha
    have := hlt _ h
    omega
  have hP0 : va_P D cl (X ++ va_pl L f) F.heap := hP.kept (fun k9 x hx => hold x.1 ((hP k9 x hx).lt))
  have hP1 : va_P D cl ((X ++ va_pl L f) ++ [(H.size, .inl (cA, n.toNatClampNeg, .inr (.inr (.inr (.inr (fun i => if i < n.toNatClampNeg then some (H.size + 1 + i) else none))))))]) F.heap := hP0.app (fun k9 x hx => by
    have h0 : k9 < 1 := (List.getElem?_eq_some_iff.mp hx).1
    rw [show k9 = 0 by omega] at hx
    cases hx
    exact f2)
  have hP2 : va_P D cl (((X ++ va_pl L f) ++ [(H.size, .inl (cA, n.toNatClampNeg, .inr (.inr (.inr (.inr (fun i => if i < n.toNatClampNeg then some (H.size + 1 + i) else none))))))]) ++ ((List.range n.toNatClampNeg).map (fun i => H.size + 1 + i)).map (fun a => (a, .inl (cy, z)))) F.heap := hP1.app (fun k9 x hx => by
    obtain ⟨a, ha, rfl⟩ := List.mem_map.mp (List.mem_of_getElem? hx)
    obtain ⟨i, hi, rfl⟩ := List.mem_map.mp ha
    exact hrow i (List.mem_range.mp hi))
  have hD2 : va_D A (((X ++ va_pl L f) ++ [(H.size, .inl (cA, n.toNatClampNeg, .inr (.inr (.inr (.inr (fun i => if i < n.toNatClampNeg then some (H.size + 1 + i) else none))))))]) ++ ((List.range n.toNatClampNeg).map (fun i => H.size + 1 + i)).map (fun a => (a, .inl (cy, z)))) := by
    have hD1 := hD.push (e := .inl (cA, n.toNatClampNeg, .inr (.inr (.inr (.inr (fun i => if i < n.toNatClampNeg then some (H.size + 1 + i) else none)))))) hP rfl (hA _ hS.1)
    generalize hW1 : (X ++ va_pl L f) ++ [(H.size, .inl (cA, n.toNatClampNeg, .inr (.inr (.inr (.inr (fun i => if i < n.toNatClampNeg then some (H.size + 1 + i) else none))))))] = W1 at hD1 hP1 ⊢
    have hle : ∀ (k9 : Nat) (x : Nat × va_E), W1[k9]? = some x → x.1 ≤ H.size := fun k9 x hx => by
      rw [← hW1] at hx
      by_cases hl : k9 < (X ++ va_pl L f).length
      · rw [List.getElem?_append_left hl] at hx
        exact Nat.le_of_lt ((hP k9 x hx).lt)
      · rw [List.getElem?_append_right (by omega)] at hx
        have h0 : k9 - (X ++ va_pl L f).length < 1 := (List.getElem?_eq_some_iff.mp hx).1
        rw [show k9 - (X ++ va_pl L f).length = 0 by omega] at hx
        cases hx
        exact Nat.le_refl _
    have hr : ∀ (k9 : Nat) (x : Nat × va_E), (((List.range n.toNatClampNeg).map (fun i => H.size + 1 + i)).map (fun a => ((a, .inl (cy, z)) : Nat × va_E)))[k9]? = some x → x.1 = H.size + 1 + k9 := fun k9 x hx => by
      rw [List.getElem?_map, List.getElem?_map] at hx
      by_cases h9 : k9 < n.toNatClampNeg
      · rw [List.getElem?_range h9] at hx
        cases hx
        rfl
      · have hn0 : (List.range n.toNatClampNeg)[k9]? = none := List.getElem?_eq_none (by rw [List.length_range]; omega)
        rw [hn0] at hx
        cases hx
    refine ⟨fun i j x y hi hj hxy => ?_, fun k9 x hx => ?_⟩
    · by_cases h1 : i < W1.length <;> by_cases h2 : j < W1.length
      · rw [List.getElem?_append_left h1] at hi
        rw [List.getElem?_append_left h2] at hj
        exact hD1.1 i j x y hi hj hxy
      · rw [List.getElem?_append_left h1] at hi
        rw [List.getElem?_append_right (by omega)] at hj
        have := hle _ _ hi
        have := hr _ _ hj
        omega
      · rw [List.getElem?_append_right (by omega)] at hi
        rw [List.getElem?_append_left h2] at hj
        have := hle _ _ hj
        have := hr _ _ hi
        omega
      · rw [List.getElem?_append_right (by omega)] at hi hj
        have := hr _ _ hi
        have := hr _ _ hj
        omega
    · by_cases h1 : k9 < W1.length
      · rw [List.getElem?_append_left h1] at hx
        exact hD1.2 k9 x hx
      · rw [List.getElem?_append_right (by omega)] at hx
        have := hr _ _ hx
        exact hA _ (by have := hS.1; omega)
  have hAr : ArrOfT s cA (.array ty) := fun N9 z9 => by
    obtain ⟨-, k9, hk9, cm9, hkk9⟩ := (hO 0 0 0).1
    exact ⟨(fun q hq => by cases hq), k9, hk9, cm9, hkk9⟩
  have hK2 : va_K D cl (tys ++ [(cA, .array ty)]) s := ⟨hK.1, fun k9 x hx => by
    by_cases hl : k9 < tys.length
    · rw [List.getElem?_append_left hl] at hx
      exact hK.2 k9 x hx
    · rw [List.getElem?_append_right (by omega)] at hx
      have h0 : k9 - tys.length < 1 := (List.getElem?_eq_some_iff.mp hx).1
      rw [show k9 - tys.length = 0 by omega] at hx
      cases hx
      exact ⟨hAr, fA⟩⟩
  obtain ⟨t, a1, b1⟩ := kk H.size (fun i => H.size + 1 + i) cA F.heap (fun i j _ _ h => by have h9 : H.size + 1 + i = H.size + 1 + j := h; omega) hnl hK2 (by rw [← vr_rows hnm]; exact vr_lay hP2) (by rw [← vr_rows hnm]; exact vr_layD hD2) ⟨by rw [f1]; have := hS.1; omega, fun x h1 h2 => (hold x (Nat.lt_of_lt_of_le h1 hS.1)).trans (hS.2.1 x h1 h2), hS.2.2⟩ F rfl X'
  refine ⟨t, step t ?_, b1⟩
  have e : T.heap.size = H.size := by rw [hT]
  rw [e]
  exact a1
end VGM
/-! ===== END ===== -/

/-! ===== BEGIN exceptions that leave a method, and their catching by the caller (launches without stack traces) ===== -/
section VXA
/-! The laws vx_back, vx_callV, vx_callS, vx_callSW, vx_throw0, vx_throwS follow proofs of the library, with one case more: JvmDerived/Free/Laws.lean (Back.of_free), Shelf42/LK1.lean (callV, callS), Shelf/KitTraced.lean (throwNew0V, throwNewS). -/
/-- where a method has thrown q: the class by its name, the cell, what was written, the world -/
def vx_T (XC : String → State → State → Prop) (st : State) (q : Addr) (t : State) (mc ms : Nat) (free : Addr → Prop) : Prop :=
  ∃ (E : String) (ce : Cell) (L : List Loc), XC E st t ∧ t.heap[q]? = some ce ∧ ce.vm = .none ∧ st.vm.findClass E = some ce.cls ∧ st.WarmedH t.vm ∧ st.sameButNew ({ t with vm := st.vm } : State) L mc ms ∧ ∀ z ∈ L, free z.base
def vx_Q (Qc : Array Value → State → Outcome → State → Prop) (XC : String → State → State → Prop) (mc ms : Nat) (free : Addr → Prop) : Array Value → State → Outcome → State → Prop := fun a st o t =>
  (Qc a st o t ∧ ∃ L, FrameEnd st o t L mc ms ∧ ∀ q ∈ L, free q.base) ∨ ∃ q, o = .threw q ∧ vx_T XC st q t mc ms free
/-- a callee that returns or throws -/
def vx_Met (l : Launch) (y : MethodName) (ws : List Cond) (rm : Room) (Pc : Array Value → State → Prop) (Qc : Array Value → State → Outcome → State → Prop) (XC : String → State → State → Prop) (mc ms : Nat) (free : Addr → Prop) : Prop :=
  MetFree l y (headSpec ws rm) Pc (fun _ _ _ _ _ => True) (vx_Q Qc XC mc ms free)
def vx_Post (XC : String → State → State → Prop) (mc ms : Nat) (free : Addr → Prop) : Pt → Array Value → Addr → Pt → Prop := fun A a q B =>
  ∃ (g : JFrame) (mk : MethodId) (t : State) (L : List Loc) (E : String) (ce : Cell), B.U.heap = t.heap ∧ B.U.vm = t.vm ∧ XC E (A.U.calling g mk a) t ∧ t.heap[q]? = some ce ∧ ce.vm = .none ∧ A.U.vm.findClass E = some ce.cls ∧ B.locs = A.locs ++ L ∧ (∀ z ∈ L, free z.base) ∧ B.cells = A.cells + mc ∧ B.slots = A.slots + ms
def vx_Back (l : Launch) (R : Room) (p : Program) (e : Env) (below : List Frame) (s : State) (sargs : Array Value) (y : MethodName) (len W9 : Nat)
    (Pre : Pt → Array Value → Prop) (Post : Pt → Array Value → Option Value → Pt → Prop) (PostX : Pt → Array Value → Addr → Pt → Prop) : Prop :=
  ∀ (m : MethodId) (meth : Method) (c : Code) (A : Pt) (g : JFrame) (ig : Instr) (mk : MethodId) (a : Array Value),
    Stand p l e R s m sargs below meth c A.U A.locs A.cells A.slots → g.method = m → g.locals.size = c.maxLocals → decode c.code g.pc = .ok (ig, len) →
    2 * g.monitorRoom + (g.stack.map fun v => v.category).sum ≤ W9 → A.U.methodNamed? y = some mk → Pre A a →
    (∃ (v : Option Value) (B : Pt), Stand p l e R s m sargs below meth c B.U B.locs B.cells B.slots ∧ Post A a v B ∧
      Steps p.tables e below (doInvoke e (A.U.setTop g) [] mk a).1 (B.U.setTop { g with pc := g.pc + len, stack := v.toList ++ g.stack })) ∨
    (∃ (q : Addr) (B : Pt), Stand p l e R s m sargs below meth c B.U B.locs B.cells B.slots ∧ PostX A a q B ∧
      Steps p.tables e below (doInvoke e (A.U.setTop g) [] mk a).1 ((B.U.setTop g).pushFrame (.throwing q)))
section Payer
variable {l : Launch} {R : Room} {p : Program} {e : Env} {below : List Frame} {s : State} {sargs : Array Value} {y : MethodName} {len W9 : Nat}
theorem vx_back {ws : List Cond} {rm : Room} {Pc : Array Value → State → Prop} {Qc : Array Value → State → Outcome → State → Prop} {XC : String → State → State → Prop} {mc ms : Nat} {free : Addr → Prop} {bytes : ByteArray} {maxL : Nat} {ret : Option FieldType}
    (hM : vx_Met l y ws rm Pc Qc XC mc ms free) (hblind : FrameBlind Pc) (hrc : rm.cells = mc) (hrs : rm.slots = ms)
    (hframes : rm.frames + 1 ≤ R.frames) (hlocals : W9 + (maxL + 11) + rm.locals ≤ R.locals)
    (hws : ∀ w ∈ ws, ∀ a' U, s.WarmedH U.vm → w.before a' U = true) (hcode : Cond.code y bytes maxL ret ∈ ws) (hinit : ∀ a' U, s.WarmedH U.vm → (Cond.initialized y.cls).before a' U = true) :
    vx_Back l R p e below s sargs y len W9 (PreOf R mc ms Pc) (PostOf Qc mc ms free) (vx_Post XC mc ms free) := by
  intro m meth c A g ig mk a X hg hsize hdg hW hn hp
  have h1 : (headSpec ws rm).pre.before a A.U = true := atoms_intro fun w hw => hws w hw _ _ X.warmed
  have h2 : (Cond.code y bytes maxL ret).before a A.U = true := hws _ hcode _ _ X.warmed
  have h3 : (Cond.initialized y.cls).before a A.U = true := hinit _ _ X.warmed
  have h4 : A.cells + (headSpec ws rm).room.cells ≤ R.cells := by rw [show (headSpec ws rm).room.cells = mc from hrc]; exact hp.1
  have h5 : A.slots + (headSpec ws rm).room.slots ≤ R.slots := by rw [show (headSpec ws rm).room.slots = ms from hrs]; exact hp.2.1
  have hPc : Pc a (A.U.calling g mk a) := hblind _ _ _ _ hp.2.2
  obtain ⟨U, Ls, c0, s0⟩ := A
  dsimp only [Pt.U, Pt.locs, Pt.cells, Pt.slots] at h1 h2 h3 h4 h5 X hn hPc ⊢
  obtain ⟨methY, cY, hmY, hcY, -, hlY, -, -, -, -⟩ := Cond.code_spec hn h2
  obtain ⟨kY, hkY, -⟩ := className_of_methodNamed hn
  have hinitY : kY.init = .initialized := Cond.initialized_spec (findClass_of_methodNamed hn) hkY h3
  have h : At U g.method c below := by rw [hg]; exact X.here
  have hlocals9 : W9 + (maxL + 11) + (headSpec ws rm).room.locals ≤ R.locals := hlocals
  have happ : (headSpec ws rm).appliesLoose y e.platform (U.calling g mk a) = true :=
    Spec.appliesLoose_calling (g := g) h hdg hn hkY hinitY
      (X.room_calling (g := g) (R' := (headSpec ws rm).room) hsize hmY hcY hframes (by rw [hlY]; omega) h4 h5) h1
  obtain ⟨mid, hmid⟩ := h.above
  have hfr : (U.setTop g).frames = (.java g :: mid) ++ below := by rw [State.frames_setTop' g h.top, hmid]; rfl
  obtain ⟨o, s₂, hsteps, -, hend, hq⟩ := Steps.callFree hM p X.admits X.cas X.clock (acts := []) hfr happ hPc trivial
  have hq' : vx_Q Qc XC mc ms free a (U.calling g mk a) o s₂ := hq
  rw [State.frames_setTop' g h.top] at hend
  obtain ⟨g₀, hg0⟩ := Option.isSome_iff_exists.mp h.top
  obtain ⟨r, hr⟩ := State.topJava?_eq_some.mp hg0
  have hr' : (({ U with heap := s₂.heap, slotsUsed := s₂.slotsUsed } : State).setVm s₂.vm).frames = .java g₀ :: r := hr
  rcases hq' with ⟨hqc, L, hfe, hL⟩ | ⟨q, rfl, E, ce, L, hx, hce, hcv, hcl, hW₂, hsm, hL⟩
  · obtain ⟨⟨v, rfl⟩, hW₂, e2, q2, q3, q4, q5, q6⟩ := id hfe
    have e3 : s₂ = ({ (U.calling g mk a).setFrames s₂.frames with heap := s₂.heap, slotsUsed := s₂.slotsUsed } : State).setVm s₂.vm := by
      have : s₂ = ({ s₂ with vm := (U.calling g mk a).vm } : State).setVm s₂.vm := rfl
      rw [e2] at this
      exact this
    obtain ⟨c₂, i₂, len₂, hc₂, hd₂, hf₂⟩ := hend
    have hW' : U.WarmedH s₂.vm := hW₂
    have hcc : c₂ = c := by
      have h1 : s₂.code? g.method = U.code? g.method := by
        rw [State.code?_eq, State.code?_eq, hW'.alike.method?]
      exact Option.some.inj (hc₂.symm.trans (h1.trans h.code))
    subst hcc
    have hlen : len₂ = len := by rw [hdg] at hd₂; cases hd₂; rfl
    subst hlen
    have hs₂ : s₂ = (({ U with heap := s₂.heap, slotsUsed := s₂.slotsUsed } : State).setVm s₂.vm).setTop { g with pc := g.pc + len₂, stack := v.toList ++ g.stack } := by
      refine e3.trans ?_
      rw [hf₂, State.calling_eq h.top, State.setFrames_setFrames, State.setTop_of_frames _ hr', hr]
      rfl
    have hsame : U.sameButNew ({ U with heap := s₂.heap, slotsUsed := s₂.slotsUsed } : State) L mc ms := by
      refine ⟨?_, q2, q3, q4, q5, q6⟩
      obtain ⟨t, ht, -⟩ := State.frames_cons hr
      show ({ U with heap := s₂.heap, slotsUsed := s₂.slotsUsed } : State) = { U.setFrames U.frames with heap := s₂.heap, slotsUsed := s₂.slotsUsed }
      rw [State.setFrames_self ht]
    subst hg
    refine Or.inl ⟨v, ⟨(({ U with heap := s₂.heap, slotsUsed := s₂.slotsUsed } : State).setVm s₂.vm), Ls ++ L, c0 + mc, s0 + ms⟩,
      ⟨X.admits, X.cas, X.clock, X.frames, X.room, X.hears, X.method, X.code, (X.here.setHeapUsed s₂.heap s₂.slotsUsed).setVm hW'.alike, X.tail, State.WarmedH.trans X.warmed hW', X.limits, X.bytes, X.same.trans (hsame.setVm s.vm)⟩,
      ⟨g, mk, s₂, L, rfl, rfl, hqc, rfl, hL, rfl, rfl⟩, ?_⟩
    show Steps p.tables e below _ ((({ U with heap := s₂.heap, slotsUsed := s₂.slotsUsed } : State).setVm s₂.vm).setTop { g with pc := g.pc + len₂, stack := v.toList ++ g.stack })
    rw [← hs₂]
    exact hsteps
  · obtain ⟨e2, q2, q3, q4, q5, q6⟩ := id hsm
    have e3 : s₂ = ({ (U.calling g mk a).setFrames s₂.frames with heap := s₂.heap, slotsUsed := s₂.slotsUsed } : State).setVm s₂.vm := by
      have : s₂ = ({ s₂ with vm := (U.calling g mk a).vm } : State).setVm s₂.vm := rfl
      rw [e2] at this
      exact this
    have hf₂ : s₂.frames = .throwing q :: .java g :: U.frames.tail := hend
    have hW' : U.WarmedH s₂.vm := hW₂
    have hs₂ : s₂ = ((({ U with heap := s₂.heap, slotsUsed := s₂.slotsUsed } : State).setVm s₂.vm).setTop g).pushFrame (.throwing q) := by
      refine e3.trans ?_
      rw [hf₂, State.calling_eq h.top, State.setFrames_setFrames, State.pushFrame, State.frames_setTop _ hr', State.setTop_of_frames _ hr', State.setFrames_setFrames, hr]
      rfl
    have hsame : U.sameButNew ({ U with heap := s₂.heap, slotsUsed := s₂.slotsUsed } : State) L mc ms := by
      refine ⟨?_, q2, q3, q4, q5, q6⟩
      obtain ⟨t, ht, -⟩ := State.frames_cons hr
      show ({ U with heap := s₂.heap, slotsUsed := s₂.slotsUsed } : State) = { U.setFrames U.frames with heap := s₂.heap, slotsUsed := s₂.slotsUsed }
      rw [State.setFrames_self ht]
    subst hg
    refine Or.inr ⟨q, ⟨(({ U with heap := s₂.heap, slotsUsed := s₂.slotsUsed } : State).setVm s₂.vm), Ls ++ L, c0 + mc, s0 + ms⟩,
      ⟨X.admits, X.cas, X.clock, X.frames, X.room, X.hears, X.method, X.code, (X.here.setHeapUsed s₂.heap s₂.slotsUsed).setVm hW'.alike, X.tail, State.WarmedH.trans X.warmed hW', X.limits, X.bytes, X.same.trans (hsame.setVm s.vm)⟩,
      ⟨g, mk, s₂, L, E, ce, rfl, rfl, hx, hce, hcv, hcl, rfl, hL, rfl, rfl⟩, ?_⟩
    show Steps p.tables e below _ (((({ U with heap := s₂.heap, slotsUsed := s₂.slotsUsed } : State).setVm s₂.vm).setTop g).pushFrame (.throwing q))
    rw [← hs₂]
    exact hsteps
end Payer
section Calls
variable {p : Program} {l : Launch} {e : Env} {R : Room} {s : State} {m : MethodId} {args : Array Value} {below : List Frame} {meth : Method} {c : Code} {T : State} {locs : List Loc} {cells slots : Nat}
theorem vx_callV (X : Stand p l e R s m args below meth c T locs cells slots) (hexec : p.tables.exec = Jvm.exec) {own C : String} {index : Nat} {y : MethodName} {bytes : ByteArray} {maxL : Nat} {ret : Option FieldType}
    (hown : s.vm.findClass own = some m.cls) (hlink : (Cond.methodLink own index y).before args s = true) (hinst : (Cond.instanceMethod y).before args s = true) (hsel : (Cond.selects C y y).before args s = true)
    (hcode : (Cond.code y bytes maxL ret).before args s = true) (hy : y.cls ≠ "java/lang/invoke/MethodHandle" ∧ y.cls ≠ "java/lang/invoke/VarHandle")
    {W9 : Nat} {Pre : Pt → Array Value → Prop} {Post : Pt → Array Value → Option Value → Pt → Prop} {PostX : Pt → Array Value → Addr → Pt → Prop} (hK : vx_Back l R p e below s args y 3 W9 Pre Post PostX)
    {b : Addr} {cellB : Cell} (hcell : T.heap[b]? = some cellB) (hobj : cellB.vm.isStatics = false) (hcls : s.vm.findClass C = some cellB.cls)
    {g : JFrame} (hg : g.method = m) (hsize : g.locals.size = c.maxLocals) {argsL rest : List Value} (hlen : ∀ sig, parseMethodDescriptor y.desc = some sig → argsL.length = sig.parameters.length)
    (hstack : g.stack = argsL.reverse ++ .ref b :: rest) (hW : 2 * g.monitorRoom + (rest.map fun v => v.category).sum ≤ W9) (hdg : decode c.code g.pc = .ok (.invokevirtual index, 3))
    (hpre : ∀ vm₁, s.WarmedH vm₁ → Pre ⟨T.setVm vm₁, locs, cells, slots⟩ (Value.ref b :: argsL).toArray) :
    (∃ (v : Option Value) (vm₁ : Vm) (B : Pt), s.WarmedH vm₁ ∧ Stand p l e R s m args below meth c B.U B.locs B.cells B.slots ∧ Post ⟨T.setVm vm₁, locs, cells, slots⟩ (Value.ref b :: argsL).toArray v B ∧
      ∀ target, Steps p.tables e below (B.U.setTop { g with pc := g.pc + 3, stack := v.toList ++ rest }) target → Steps p.tables e below (T.setTop g) target) ∨
    (∃ (q : Addr) (vm₁ : Vm) (B : Pt), s.WarmedH vm₁ ∧ Stand p l e R s m args below meth c B.U B.locs B.cells B.slots ∧ PostX ⟨T.setVm vm₁, locs, cells, slots⟩ (Value.ref b :: argsL).toArray q B ∧
      Steps p.tables e below (T.setTop g) ((B.U.setTop { g with stack := rest }).pushFrame (.throwing q))) := by
  obtain ⟨mk, methM, hnamed, hmethM, hstM, habM⟩ := Cond.instanceMethod_spec hinst
  obtain ⟨methM', cM, hmethM', -, -, -, -, -, -, hsigM⟩ := Cond.code_spec hnamed hcode
  cases hmethM.symm.trans hmethM'
  obtain ⟨c2, r2, m2, q1, q2, q3, q4, kP, hkP, hkPi⟩ := Cond.selects_spec hsel
  cases hcls.symm.trans q1
  cases (State.methodFound?_of_named hnamed hy).symm.trans q2
  cases hnamed.symm.trans q3
  have hselP : selectMethod e.platform s.vm cellB.cls mk = .method mk := by rw [Launch.admits_selectMethod X.admits]; exact q4
  obtain ⟨vm₁, X₁, hstep₁⟩ := X.invokevirtual hexec hown hlink hnamed hmethM hstM hkP hkPi hy (a := b) (cell := cellB) hcell
    (fun z h => by rw [h] at hobj; cases hobj) hselP hmethM habM hkP hkPi (g := g) hg (argsL := argsL) (rest := rest) (hlen _ hsigM) hstack hdg
  rcases hK m meth c ⟨T.setVm vm₁, locs, cells, slots⟩ { g with stack := rest } (.invokevirtual index) mk (Value.ref b :: argsL).toArray X₁ hg hsize hdg hW (X₁.named hnamed) (hpre vm₁ X₁.warmed) with ⟨v, B, X', hpost, hsteps⟩ | ⟨q, B, X', hpost, hsteps⟩
  · exact Or.inl ⟨v, vm₁, B, X₁.warmed, X', hpost, fun target h => hstep₁ _ fun acts => by rw [doInvoke_state]; exact hsteps.trans h⟩
  · exact Or.inr ⟨q, vm₁, B, X₁.warmed, X', hpost, hstep₁ _ fun acts => by rw [doInvoke_state]; exact hsteps⟩
theorem vx_callS (X : Stand p l e R s m args below meth c T locs cells slots) (hexec : p.tables.exec = Jvm.exec) {own : String} {index : Nat} {y : MethodName} {bytes : ByteArray} {maxL : Nat} {ret : Option FieldType}
    (hown : s.vm.findClass own = some m.cls) (hlink : (Cond.methodLink own index y).before args s = true) (hstat : (Cond.static y).before args s = true) (hinit : (Cond.initialized y.cls).before args s = true)
    (hcode : (Cond.code y bytes maxL ret).before args s = true) (hy : y.cls ≠ "java/lang/invoke/MethodHandle" ∧ y.cls ≠ "java/lang/invoke/VarHandle")
    {W9 : Nat} {Pre : Pt → Array Value → Prop} {Post : Pt → Array Value → Option Value → Pt → Prop} {PostX : Pt → Array Value → Addr → Pt → Prop} (hK : vx_Back l R p e below s args y 3 W9 Pre Post PostX)
    {g : JFrame} (hg : g.method = m) (hsize : g.locals.size = c.maxLocals) {argsL rest : List Value} (hlen : ∀ sig, parseMethodDescriptor y.desc = some sig → argsL.length = sig.parameters.length)
    (hstack : g.stack = argsL.reverse ++ rest) (hW : 2 * g.monitorRoom + (rest.map fun v => v.category).sum ≤ W9) (hdg : decode c.code g.pc = .ok (.invokestatic index, 3))
    (hpre : ∀ vm₁, s.WarmedH vm₁ → Pre ⟨T.setVm vm₁, locs, cells, slots⟩ argsL.toArray) :
    (∃ (v : Option Value) (vm₁ : Vm) (B : Pt), s.WarmedH vm₁ ∧ Stand p l e R s m args below meth c B.U B.locs B.cells B.slots ∧ Post ⟨T.setVm vm₁, locs, cells, slots⟩ argsL.toArray v B ∧
      ∀ target, Steps p.tables e below (B.U.setTop { g with pc := g.pc + 3, stack := v.toList ++ rest }) target → Steps p.tables e below (T.setTop g) target) ∨
    (∃ (q : Addr) (vm₁ : Vm) (B : Pt), s.WarmedH vm₁ ∧ Stand p l e R s m args below meth c B.U B.locs B.cells B.slots ∧ PostX ⟨T.setVm vm₁, locs, cells, slots⟩ argsL.toArray q B ∧
      Steps p.tables e below (T.setTop g) ((B.U.setTop { g with stack := rest }).pushFrame (.throwing q))) := by
  obtain ⟨mk, hnamed⟩ := Cond.code_named hcode
  obtain ⟨methM, cM, hmethM, -, -, -, -, -, -, hsigM⟩ := Cond.code_spec hnamed hcode
  have hstatic : methM.isStatic = true := Cond.static_spec hnamed hmethM hstat
  obtain ⟨kP, hkP, -⟩ := className_of_methodNamed hnamed
  have hinitP : kP.init = .initialized := Cond.initialized_spec (findClass_of_methodNamed hnamed) hkP hinit
  obtain ⟨vm₁, X₁, hstep₁⟩ := X.invokestatic hexec hown hlink hnamed hmethM hstatic hkP hinitP hy (g := g) hg (argsL := argsL) (rest := rest) (hlen _ hsigM) hstack hdg
  rcases hK m meth c ⟨T.setVm vm₁, locs, cells, slots⟩ { g with stack := rest } (.invokestatic index) mk argsL.toArray X₁ hg hsize hdg hW (X₁.named hnamed) (hpre vm₁ X₁.warmed) with ⟨v, B, X', hpost, hsteps⟩ | ⟨q, B, X', hpost, hsteps⟩
  · exact Or.inl ⟨v, vm₁, B, X₁.warmed, X', hpost, fun target h => hstep₁ _ fun acts => by rw [doInvoke_state]; exact hsteps.trans h⟩
  · exact Or.inr ⟨q, vm₁, B, X₁.warmed, X', hpost, hstep₁ _ fun acts => by rw [doInvoke_state]; exact hsteps⟩
end Calls
theorem vx_cls {s : State} {T : State} {vm₁ : Vm} {E : String} {k : ClassId} (hW : s.WarmedH vm₁) (h : (T.setVm vm₁).vm.findClass E = some k) : s.vm.findClass E = some k := by
  have h1 : vm₁.findClass E = some k := h
  rw [hW.alike.findClass] at h1
  exact h1
/-- the method's frame g, with q thrown over it -/
def vx_W (p : Program) (l : Launch) (e : Env) (R : Room) (s : State) (m : MethodId) (args : Array Value) (below : List Frame) (meth : Method) (c : Code) (H : Heap) (locs : List Loc) (cells slots : Nat) (Q : State → Prop) (g : JFrame) (q : Addr) : Prop :=
  ∀ T : State, T.heap = H → Stand p l e R s m args below meth c T locs cells slots → ∃ t, Steps p.tables e below ((T.setTop g).pushFrame (.throwing q)) t ∧ Q t
def vx_Run (p : Program) (l : Launch) (e : Env) (R : Room) (s : State) (m : MethodId) (args : Array Value) (below : List Frame) (meth : Method) (c : Code) (H : Heap) (locs : List Loc) (cells slots mc ms : Nat) (g : JFrame) (rest : List Value) (Qa : State → Outcome → State → Prop) (XC : String → State → State → Prop) (free : Addr → Prop) : Prop :=
  ∀ T : State, T.heap = H → Stand p l e R s m args below meth c T locs cells slots →
    (∃ (v : Option Value) (st₀ t T' : State) (L : List Loc), st₀.heap = H ∧ Stand p l e R s m args below meth c T' (locs ++ L) (cells + mc) (slots + ms) ∧ (∀ q ∈ L, free q.base) ∧ T'.heap = t.heap ∧ T'.vm = t.vm ∧ Qa st₀ (.returned v) t ∧
      Goes p e below T g T' { g with pc := g.pc + 3, stack := v.toList ++ rest }) ∨
    (∃ (q : Addr) (st₀ t T' : State) (L : List Loc) (E : String) (ce : Cell), st₀.heap = H ∧ Stand p l e R s m args below meth c T' (locs ++ L) (cells + mc) (slots + ms) ∧ (∀ z ∈ L, free z.base) ∧ T'.heap = t.heap ∧ T'.vm = t.vm ∧ XC E st₀ t ∧ t.heap[q]? = some ce ∧ ce.vm = .none ∧ s.vm.findClass E = some ce.cls ∧
      Steps p.tables e below (T.setTop g) ((T'.setTop { g with stack := rest }).pushFrame (.throwing q)))
def vx_X {S : Type} (px : S → Prop) (B : String → S → State → Prop) (A : Nat → Prop) : String → State → State → Prop := fun E st t => ∃ u : S, px u ∧ B E u t ∧ va_F A st t
section Runs
variable {p : Program} {l : Launch} {e : Env} {R : Room} {s : State} {m : MethodId} {args : Array Value} {below : List Frame} {meth : Method} {c : Code} {H : Heap} {locs : List Loc} {cells slots : Nat}
variable {y : MethodName} {bytes cc : ByteArray} {maxL nL mc ms n index : Nat} {ret : Option FieldType} {ws : List Cond} {rm : Room} {Pc : Array Value → State → Prop} {Qc : Array Value → State → Outcome → State → Prop} {XC : String → State → State → Prop} {free : Addr → Prop} {Ts : List Cond} {own C : String} {b : Addr} {As rest : List Value} {g : JFrame}
theorem vx_callBack (cb : CallB R s args own index y bytes maxL ret ws rm mc ms n) (hM : vx_Met l y ws rm Pc Qc XC mc ms free) (hbl : FrameBlind Pc) : vx_Back l R p e below s args y 3 8 (PreOf R mc ms Pc) (PostOf Qc mc ms free) (vx_Post XC mc ms free) := by
  obtain ⟨hrc, hrs, hfr, hlo, hws, hcw, -, hini, -⟩ := cb
  exact vx_back (bytes := bytes) (maxL := maxL) (ret := ret) hM hbl hrc hrs hfr hlo hws hcw (fun a' U hW => word_at hW (Or.inl (by first | rfl | simp [Cond.onTables, Cond.keeps, Cond.steady])) hini)
theorem vx_runV (S : CallFix p m c cc nL s args Ts own) (hM : vx_Met l y ws rm Pc Qc XC mc ms free) (cw : CallW R s args own C index y bytes maxL ret ws rm mc ms n) (hp : PreV s H C b Pc As)
    (hg : g.method = m) (hn : As.length = n) (hsize : g.locals.size = nL) (hstack : g.stack = As.reverse ++ .ref b :: rest) (hW : 2 * g.monitorRoom + (rest.map fun v => v.category).sum ≤ 8) (hdg : decode cc g.pc = .ok (.invokevirtual index, 3)) (hf : cells + mc ≤ R.cells ∧ slots + ms ≤ R.slots) :
    vx_Run p l e R s m args below meth c H locs cells slots mc ms g rest (Qc (Value.ref b :: As).toArray) XC free := by
  have hK : vx_Back l R p e below s args y 3 8 (PreOf R mc ms Pc) (PostOf Qc mc ms free) (vx_Post XC mc ms free) := vx_callBack cw.1 hM hp.1
  obtain ⟨⟨-, -, -, -, -, -, hcode, -, hy, hlen, hl⟩, hin, hse⟩ := cw
  obtain ⟨hx, hb, hml, ho, -⟩ := S
  obtain ⟨-, ⟨cellB, hcB, hoB, hclB⟩, hPc⟩ := hp
  intro T hT X
  rcases vx_callV X hx (C := C) (bytes := bytes) (maxL := maxL) (ret := ret) ho hl hin hse hcode hy hK (by rw [hT]; exact hcB) hoB hclB hg (hsize.trans hml.symm) (argsL := As) (rest := rest) (fun sig h => hn.trans (hlen sig h)) hstack hW (by rw [hb]; exact hdg)
    (fun vm₁ hW₁ => ⟨hf.1, hf.2, hPc (T.setVm vm₁) hT hW₁⟩) with ⟨v, vm₁, ⟨U', l2, c2, s2⟩, hW₁, X', ⟨g', mk, t, L, e1, e2, hq, h1, hL, h2, h3⟩, st⟩ | ⟨q, vm₁, ⟨U', l2, c2, s2⟩, hW₁, X', ⟨g', mk, t, L, E, ce, e1, e2, hq, hce, hcv, hcl, h1, hL, h2, h3⟩, st⟩
  · dsimp only [Pt.U, Pt.locs, Pt.cells, Pt.slots] at X' e1 e2 h1 h2 h3 st
    subst h1; subst h2; subst h3
    exact Or.inl ⟨v, (T.setVm vm₁).calling g' mk (Value.ref b :: As).toArray, t, U', L, hT, X', hL, e1, e2, hq, st⟩
  · dsimp only [Pt.U, Pt.locs, Pt.cells, Pt.slots] at X' e1 e2 h1 h2 h3 st hcl
    subst h1; subst h2; subst h3
    exact Or.inr ⟨q, (T.setVm vm₁).calling g' mk (Value.ref b :: As).toArray, t, U', L, E, ce, hT, X', hL, e1, e2, hq, hce, hcv, vx_cls hW₁ hcl, st⟩
theorem vx_runS (S : CallFix p m c cc nL s args Ts own) (hM : vx_Met l y ws rm Pc Qc XC mc ms free) (cw : CallB R s args own index y bytes maxL ret ws rm mc ms n ∧ (Cond.static y).before args s = true) (hp : PreS s H Pc As)
    (hg : g.method = m) (hn : As.length = n) (hsize : g.locals.size = nL) (hstack : g.stack = As.reverse ++ rest) (hW : 2 * g.monitorRoom + (rest.map fun v => v.category).sum ≤ 8) (hdg : decode cc g.pc = .ok (.invokestatic index, 3)) (hf : cells + mc ≤ R.cells ∧ slots + ms ≤ R.slots) :
    vx_Run p l e R s m args below meth c H locs cells slots mc ms g rest (Qc As.toArray) XC free := by
  have hK : vx_Back l R p e below s args y 3 8 (PreOf R mc ms Pc) (PostOf Qc mc ms free) (vx_Post XC mc ms free) := vx_callBack cw.1 hM hp.1
  obtain ⟨⟨-, -, -, -, -, -, hcode, hini, hy, hlen, hl⟩, hstt⟩ := cw
  obtain ⟨hx, hb, hml, ho, -⟩ := S
  intro T hT X
  rcases vx_callS X hx (bytes := bytes) (maxL := maxL) (ret := ret) ho hl hstt hini hcode hy hK hg (hsize.trans hml.symm) (argsL := As) (rest := rest) (fun sig h => hn.trans (hlen sig h)) hstack hW (by rw [hb]; exact hdg)
    (fun vm₁ hW₁ => ⟨hf.1, hf.2, hp.2 (T.setVm vm₁) hT hW₁⟩) with ⟨v, vm₁, ⟨U', l2, c2, s2⟩, hW₁, X', ⟨g', mk, t, L, e1, e2, hq, h1, hL, h2, h3⟩, st⟩ | ⟨q, vm₁, ⟨U', l2, c2, s2⟩, hW₁, X', ⟨g', mk, t, L, E, ce, e1, e2, hq, hce, hcv, hcl, h1, hL, h2, h3⟩, st⟩
  · dsimp only [Pt.U, Pt.locs, Pt.cells, Pt.slots] at X' e1 e2 h1 h2 h3 st
    subst h1; subst h2; subst h3
    exact Or.inl ⟨v, (T.setVm vm₁).calling g' mk As.toArray, t, U', L, hT, X', hL, e1, e2, hq, st⟩
  · dsimp only [Pt.U, Pt.locs, Pt.cells, Pt.slots] at X' e1 e2 h1 h2 h3 st hcl
    subst h1; subst h2; subst h3
    exact Or.inr ⟨q, (T.setVm vm₁).calling g' mk As.toArray, t, U', L, E, ce, hT, X', hL, e1, e2, hq, hce, hcv, vx_cls hW₁ hcl, st⟩
end Runs
section Rows
variable {p : Program} {l : Launch} {e : Env} {R : Room} {s : State} {m : MethodId} {args : Array Value} {below : List Frame} {meth : Method} {c : Code} {H : Heap} {locs : List Loc} {cells slots : Nat} {Q : State → Prop}
variable {mc ms : Nat} {free : Addr → Prop} {A0 A1 : Nat → Prop} {H0 : Heap} {a : Array Value} {pc : Nat} {ls : Array Slot} {st0 rest : List Value}
theorem vx_keep {st₀ t T' : State} {L : List Loc} (h0 : st₀.heap = H) (e1 : T'.heap = t.heap) (hS : va_S A0 H0 H locs) (hA : ∀ q, q < H.size → A1 q → A0 q) (hf : ∀ q, free q → A0 q) (hL : ∀ q ∈ L, free q.base) (hF : va_F A1 st₀ t) :
    H.size ≤ T'.heap.size ∧ (∀ q : Nat, q < H.size → ¬ A1 q → T'.heap[q]? = H[q]?) ∧ va_S A0 H0 T'.heap (locs ++ L) := by
  obtain ⟨hz, hk⟩ := hF
  rw [h0] at hz hk
  exact ⟨by rw [e1]; exact hz, fun q h1 h2 => by rw [e1]; exact hk q h1 h2,
    ⟨Nat.le_trans hS.1 (by rw [e1]; exact hz), fun q h1 h2 => by rw [e1, hk q (Nat.lt_of_lt_of_le h1 hS.1) (fun z => h2 (hA q (Nat.lt_of_lt_of_le h1 hS.1) z))]; exact hS.2.1 q h1 h2, fun q hq => by
      rcases List.mem_append.mp hq with h | h
      · exact hS.2.2 q h
      · exact hf _ (hL q h)⟩⟩
theorem vx_calli {S SX : Type} {post : Int32 → S → Prop} {px : SX → Prop} {B : S → State → Prop} {BX : String → SX → State → Prop} {AX : Nat → Prop} (hr : vx_Run p l e R s m args below meth c H locs cells slots mc ms (F0 m pc ls st0) rest (va_Qi post B A1 a) (vx_X px BX AX) free) (hS : va_S A0 H0 H locs) (hA : ∀ q, q < H.size → A1 q → A0 q) (hf : ∀ q, free q → A0 q) (hAX : ∀ q, q < H.size → AX q → A0 q)
    (kx : ∀ (E : String) (ce : Cell) (q9 : Addr) (u : SX) (t : State) (H1 : Heap) (locs1 : List Loc), t.heap = H1 → s.vm.Alike t.vm → px u → BX E u t → H.size ≤ H1.size → (∀ q : Nat, q < H.size → ¬ AX q → H1[q]? = H[q]?) → va_S A0 H0 H1 locs1 → H1[q9]? = some ce → ce.vm = .none → s.vm.findClass E = some ce.cls → vx_W p l e R s m args below meth c H1 locs1 (cells + mc) (slots + ms) Q (F0 m pc ls rest) q9)
    (kk : ∀ (r : Int32) (u : S) (t : State) (H1 : Heap) (locs1 : List Loc), t.heap = H1 → s.vm.Alike t.vm → post r u → B u t → H.size ≤ H1.size → (∀ q : Nat, q < H.size → ¬ A1 q → H1[q]? = H[q]?) → va_S A0 H0 H1 locs1 → W p l e R s m args below meth c H1 locs1 (cells + mc) (slots + ms) Q (F0 m (pc + 3) ls (.int r :: rest))) : W p l e R s m args below meth c H locs cells slots Q (F0 m pc ls st0) := by
  intro T hT X
  rcases hr T hT X with ⟨v, st₀, t, T', L, h0, X', hL, e1, e2, ⟨⟨r, u, hv, hp, hb⟩, hF⟩, st⟩ | ⟨q, st₀, t, T', L, E, ce, h0, X', hL, e1, e2, ⟨u, hp, hb, hF⟩, hce, hcv, hcl, st⟩
  · cases hv
    obtain ⟨k1, k2, k3⟩ := vx_keep h0 e1 hS hA hf hL hF
    obtain ⟨t2, a1, b1⟩ := kk r u t T'.heap (locs ++ L) e1.symm (by rw [← e2]; exact X'.warmed.alike) hp hb k1 k2 k3 T' rfl X'
    exact ⟨t2, st t2 a1, b1⟩
  · obtain ⟨k1, k2, k3⟩ := vx_keep h0 e1 hS hAX hf hL hF
    obtain ⟨t2, a1, b1⟩ := kx E ce q u t T'.heap (locs ++ L) e1.symm (by rw [← e2]; exact X'.warmed.alike) hp hb k1 k2 k3 (by rw [e1]; exact hce) hcv hcl T' rfl X'
    exact ⟨t2, st.trans a1, b1⟩
theorem vx_calll {S SX : Type} {post : Int64 → S → Prop} {px : SX → Prop} {B : S → State → Prop} {BX : String → SX → State → Prop} {AX : Nat → Prop} (hr : vx_Run p l e R s m args below meth c H locs cells slots mc ms (F0 m pc ls st0) rest (va_Ql post B A1 a) (vx_X px BX AX) free) (hS : va_S A0 H0 H locs) (hA : ∀ q, q < H.size → A1 q → A0 q) (hf : ∀ q, free q → A0 q) (hAX : ∀ q, q < H.size → AX q → A0 q)
    (kx : ∀ (E : String) (ce : Cell) (q9 : Addr) (u : SX) (t : State) (H1 : Heap) (locs1 : List Loc), t.heap = H1 → s.vm.Alike t.vm → px u → BX E u t → H.size ≤ H1.size → (∀ q : Nat, q < H.size → ¬ AX q → H1[q]? = H[q]?) → va_S A0 H0 H1 locs1 → H1[q9]? = some ce → ce.vm = .none → s.vm.findClass E = some ce.cls → vx_W p l e R s m args below meth c H1 locs1 (cells + mc) (slots + ms) Q (F0 m pc ls rest) q9)
    (kk : ∀ (r : Int64) (u : S) (t : State) (H1 : Heap) (locs1 : List Loc), t.heap = H1 → s.vm.Alike t.vm → post r u → B u t → H.size ≤ H1.size → (∀ q : Nat, q < H.size → ¬ A1 q → H1[q]? = H[q]?) → va_S A0 H0 H1 locs1 → W p l e R s m args below meth c H1 locs1 (cells + mc) (slots + ms) Q (F0 m (pc + 3) ls (.long r :: rest))) : W p l e R s m args below meth c H locs cells slots Q (F0 m pc ls st0) := by
  intro T hT X
  rcases hr T hT X with ⟨v, st₀, t, T', L, h0, X', hL, e1, e2, ⟨⟨r, u, hv, hp, hb⟩, hF⟩, st⟩ | ⟨q, st₀, t, T', L, E, ce, h0, X', hL, e1, e2, ⟨u, hp, hb, hF⟩, hce, hcv, hcl, st⟩
  · cases hv
    obtain ⟨k1, k2, k3⟩ := vx_keep h0 e1 hS hA hf hL hF
    obtain ⟨t2, a1, b1⟩ := kk r u t T'.heap (locs ++ L) e1.symm (by rw [← e2]; exact X'.warmed.alike) hp hb k1 k2 k3 T' rfl X'
    exact ⟨t2, st t2 a1, b1⟩
  · obtain ⟨k1, k2, k3⟩ := vx_keep h0 e1 hS hAX hf hL hF
    obtain ⟨t2, a1, b1⟩ := kx E ce q u t T'.heap (locs ++ L) e1.symm (by rw [← e2]; exact X'.warmed.alike) hp hb k1 k2 k3 (by rw [e1]; exact hce) hcv hcl T' rfl X'
    exact ⟨t2, st.trans a1, b1⟩
theorem vx_callf {S SX : Type} {post : UInt32 → S → Prop} {px : SX → Prop} {B : S → State → Prop} {BX : String → SX → State → Prop} {AX : Nat → Prop} (hr : vx_Run p l e R s m args below meth c H locs cells slots mc ms (F0 m pc ls st0) rest (va_Qf post B A1 a) (vx_X px BX AX) free) (hS : va_S A0 H0 H locs) (hA : ∀ q, q < H.size → A1 q → A0 q) (hf : ∀ q, free q → A0 q) (hAX : ∀ q, q < H.size → AX q → A0 q)
    (kx : ∀ (E : String) (ce : Cell) (q9 : Addr) (u : SX) (t : State) (H1 : Heap) (locs1 : List Loc), t.heap = H1 → s.vm.Alike t.vm → px u → BX E u t → H.size ≤ H1.size → (∀ q : Nat, q < H.size → ¬ AX q → H1[q]? = H[q]?) → va_S A0 H0 H1 locs1 → H1[q9]? = some ce → ce.vm = .none → s.vm.findClass E = some ce.cls → vx_W p l e R s m args below meth c H1 locs1 (cells + mc) (slots + ms) Q (F0 m pc ls rest) q9)
    (kk : ∀ (r : UInt32) (u : S) (t : State) (H1 : Heap) (locs1 : List Loc), t.heap = H1 → s.vm.Alike t.vm → post r u → B u t → H.size ≤ H1.size → (∀ q : Nat, q < H.size → ¬ A1 q → H1[q]? = H[q]?) → va_S A0 H0 H1 locs1 → W p l e R s m args below meth c H1 locs1 (cells + mc) (slots + ms) Q (F0 m (pc + 3) ls (.float r :: rest))) : W p l e R s m args below meth c H locs cells slots Q (F0 m pc ls st0) := by
  intro T hT X
  rcases hr T hT X with ⟨v, st₀, t, T', L, h0, X', hL, e1, e2, ⟨⟨r, u, hv, hp, hb⟩, hF⟩, st⟩ | ⟨q, st₀, t, T', L, E, ce, h0, X', hL, e1, e2, ⟨u, hp, hb, hF⟩, hce, hcv, hcl, st⟩
  · cases hv
    obtain ⟨k1, k2, k3⟩ := vx_keep h0 e1 hS hA hf hL hF
    obtain ⟨t2, a1, b1⟩ := kk r u t T'.heap (locs ++ L) e1.symm (by rw [← e2]; exact X'.warmed.alike) hp hb k1 k2 k3 T' rfl X'
    exact ⟨t2, st t2 a1, b1⟩
  · obtain ⟨k1, k2, k3⟩ := vx_keep h0 e1 hS hAX hf hL hF
    obtain ⟨t2, a1, b1⟩ := kx E ce q u t T'.heap (locs ++ L) e1.symm (by rw [← e2]; exact X'.warmed.alike) hp hb k1 k2 k3 (by rw [e1]; exact hce) hcv hcl T' rfl X'
    exact ⟨t2, st.trans a1, b1⟩
theorem vx_calld {S SX : Type} {post : UInt64 → S → Prop} {px : SX → Prop} {B : S → State → Prop} {BX : String → SX → State → Prop} {AX : Nat → Prop} (hr : vx_Run p l e R s m args below meth c H locs cells slots mc ms (F0 m pc ls st0) rest (va_Qd post B A1 a) (vx_X px BX AX) free) (hS : va_S A0 H0 H locs) (hA : ∀ q, q < H.size → A1 q → A0 q) (hf : ∀ q, free q → A0 q) (hAX : ∀ q, q < H.size → AX q → A0 q)
    (kx : ∀ (E : String) (ce : Cell) (q9 : Addr) (u : SX) (t : State) (H1 : Heap) (locs1 : List Loc), t.heap = H1 → s.vm.Alike t.vm → px u → BX E u t → H.size ≤ H1.size → (∀ q : Nat, q < H.size → ¬ AX q → H1[q]? = H[q]?) → va_S A0 H0 H1 locs1 → H1[q9]? = some ce → ce.vm = .none → s.vm.findClass E = some ce.cls → vx_W p l e R s m args below meth c H1 locs1 (cells + mc) (slots + ms) Q (F0 m pc ls rest) q9)
    (kk : ∀ (r : UInt64) (u : S) (t : State) (H1 : Heap) (locs1 : List Loc), t.heap = H1 → s.vm.Alike t.vm → post r u → B u t → H.size ≤ H1.size → (∀ q : Nat, q < H.size → ¬ A1 q → H1[q]? = H[q]?) → va_S A0 H0 H1 locs1 → W p l e R s m args below meth c H1 locs1 (cells + mc) (slots + ms) Q (F0 m (pc + 3) ls (.double r :: rest))) : W p l e R s m args below meth c H locs cells slots Q (F0 m pc ls st0) := by
  intro T hT X
  rcases hr T hT X with ⟨v, st₀, t, T', L, h0, X', hL, e1, e2, ⟨⟨r, u, hv, hp, hb⟩, hF⟩, st⟩ | ⟨q, st₀, t, T', L, E, ce, h0, X', hL, e1, e2, ⟨u, hp, hb, hF⟩, hce, hcv, hcl, st⟩
  · cases hv
    obtain ⟨k1, k2, k3⟩ := vx_keep h0 e1 hS hA hf hL hF
    obtain ⟨t2, a1, b1⟩ := kk r u t T'.heap (locs ++ L) e1.symm (by rw [← e2]; exact X'.warmed.alike) hp hb k1 k2 k3 T' rfl X'
    exact ⟨t2, st t2 a1, b1⟩
  · obtain ⟨k1, k2, k3⟩ := vx_keep h0 e1 hS hAX hf hL hF
    obtain ⟨t2, a1, b1⟩ := kx E ce q u t T'.heap (locs ++ L) e1.symm (by rw [← e2]; exact X'.warmed.alike) hp hb k1 k2 k3 (by rw [e1]; exact hce) hcv hcl T' rfl X'
    exact ⟨t2, st.trans a1, b1⟩
theorem vx_callv {S SX : Type} {post : S → Prop} {px : SX → Prop} {B : S → State → Prop} {BX : String → SX → State → Prop} {AX : Nat → Prop} (hr : vx_Run p l e R s m args below meth c H locs cells slots mc ms (F0 m pc ls st0) rest (va_Qv post B A1 a) (vx_X px BX AX) free) (hS : va_S A0 H0 H locs) (hA : ∀ q, q < H.size → A1 q → A0 q) (hf : ∀ q, free q → A0 q) (hAX : ∀ q, q < H.size → AX q → A0 q)
    (kx : ∀ (E : String) (ce : Cell) (q9 : Addr) (u : SX) (t : State) (H1 : Heap) (locs1 : List Loc), t.heap = H1 → s.vm.Alike t.vm → px u → BX E u t → H.size ≤ H1.size → (∀ q : Nat, q < H.size → ¬ AX q → H1[q]? = H[q]?) → va_S A0 H0 H1 locs1 → H1[q9]? = some ce → ce.vm = .none → s.vm.findClass E = some ce.cls → vx_W p l e R s m args below meth c H1 locs1 (cells + mc) (slots + ms) Q (F0 m pc ls rest) q9)
    (kk : ∀ (u : S) (t : State) (H1 : Heap) (locs1 : List Loc), t.heap = H1 → s.vm.Alike t.vm → post u → B u t → H.size ≤ H1.size → (∀ q : Nat, q < H.size → ¬ A1 q → H1[q]? = H[q]?) → va_S A0 H0 H1 locs1 → W p l e R s m args below meth c H1 locs1 (cells + mc) (slots + ms) Q (F0 m (pc + 3) ls (rest))) : W p l e R s m args below meth c H locs cells slots Q (F0 m pc ls st0) := by
  intro T hT X
  rcases hr T hT X with ⟨v, st₀, t, T', L, h0, X', hL, e1, e2, ⟨⟨u, hv, hp, hb⟩, hF⟩, st⟩ | ⟨q, st₀, t, T', L, E, ce, h0, X', hL, e1, e2, ⟨u, hp, hb, hF⟩, hce, hcv, hcl, st⟩
  · cases hv
    obtain ⟨k1, k2, k3⟩ := vx_keep h0 e1 hS hA hf hL hF
    obtain ⟨t2, a1, b1⟩ := kk u t T'.heap (locs ++ L) e1.symm (by rw [← e2]; exact X'.warmed.alike) hp hb k1 k2 k3 T' rfl X'
    exact ⟨t2, st t2 a1, b1⟩
  · obtain ⟨k1, k2, k3⟩ := vx_keep h0 e1 hS hAX hf hL hF
    obtain ⟨t2, a1, b1⟩ := kx E ce q u t T'.heap (locs ++ L) e1.symm (by rw [← e2]; exact X'.warmed.alike) hp hb k1 k2 k3 (by rw [e1]; exact hce) hcv hcl T' rfl X'
    exact ⟨t2, st.trans a1, b1⟩
/-- caught by the row x of this method's table; the rows ahead don't take it -/
theorem vx_catch {own name : String} {E : String} {ce : Cell} {q : Addr} (hown : s.vm.findClass own = some m.cls) (pre : List ExceptionTableEntry) (x : ExceptionTableEntry) (suf : List ExceptionTableEntry) (hsplit : c.exceptionTable.toList = pre ++ x :: suf)
    (hpass : ∀ z ∈ pre, covers z pc = false ∨ (z.catchType ≠ 0 ∧ ∃ nm : String, (Cond.classLink own z.catchType nm).before args s = true ∧ va_Nc E nm s)) (hx : covers x pc = true) (h0 : x.catchType ≠ 0)
    (hlink : (Cond.classLink own x.catchType name).before args s = true) (hcast : (Cond.castable E name).before args s = true) (hcell : H[q]? = some ce) (hv : ce.vm = .none) (hcl : s.vm.findClass E = some ce.cls)
    (kk : W p l e R s m args below meth c H locs cells slots Q (F0 m x.handlerPc ls [.ref q])) : vx_W p l e R s m args below meth c H locs cells slots Q (F0 m pc ls rest) q := by
  intro T hT X
  have hpl : e.platform.magicAccessors = ({} : Platform).magicAccessors := by rw [X.admits.platform]
  obtain ⟨c3, c4, hc3, hc4, hasg⟩ := Cond.castable_spec hcast
  cases Option.some.inj (hc3.symm.trans hcl)
  obtain ⟨c5, hc5, hcl5⟩ := Cond.classLink_spec hown hlink e.platform hpl
  cases Option.some.inj (hc4.symm.trans hc5)
  obtain ⟨vm', X', st⟩ := X.thenCaughtThrough q (g := F0 m pc ls rest) rfl (Steps.refl _) (by rw [hT]; exact hcell) (by rw [hv]; rfl) (by obtain ⟨k9, h9, -⟩ := Vm.findClass_spec hcl; exact ⟨k9, h9⟩) pre x suf hsplit
    (fun z hz => by
      rcases hpass z hz with h | ⟨hz0, nm, hl1, hn1⟩
      · exact Or.inl h
      · obtain ⟨c6, hc6, hcl6⟩ := Cond.classLink_spec hown hl1 e.platform hpl
        obtain ⟨a8, b8, h1, h2, h3⟩ := hn1
        cases Option.some.inj (h1.symm.trans hcl)
        cases Option.some.inj (h2.symm.trans hc6)
        exact Or.inr ⟨hz0, _, hcl6, h3⟩) hx (Or.inr ⟨h0, c4, hcl5, hasg⟩)
  obtain ⟨t, a1, b1⟩ := kk (T.setVm vm') hT X'
  exact ⟨t, st.trans a1, b1⟩
end Rows
section Ends
variable {p : Program} {l : Launch} {e : Env} {R : Room} {s : State} {m : MethodId} {args : Array Value} {below : List Frame} {meth : Method} {c : Code} {H : Heap} {locs : List Loc} {cells slots : Nat} {Q : State → Prop}
variable {mc ms : Nat} {free : Addr → Prop} {A0 A1 : Nat → Prop} {H0 : Heap} {a : Array Value} {ls : Array Slot} {st0 rest : List Value}
variable {Qc : Array Value → State → Outcome → State → Prop} {XC : String → State → State → Prop}
/-- what a body that may throw owes at its end -/
def vx_MQ (below : List Frame) (Qc : Array Value → State → Outcome → State → Prop) (XC : String → State → State → Prop) (a : Array Value) (s : State) (mc ms : Nat) (free : Addr → Prop) : State → Prop := fun t =>
  ∃ o, t.status = .running ∧ Ended t below o ∧ vx_Q Qc XC mc ms free a s o t
theorem vx_ret {g : JFrame} {mc ms : Nat} (k : W p l e R s m args below meth c H locs cells slots (MQ below Qc args s mc ms free) g) : W p l e R s m args below meth c H locs cells slots (vx_MQ below Qc XC args s mc ms free) g := by
  intro T hT X
  obtain ⟨t, a1, o, b1, b2, b3, b4⟩ := k T hT X
  exact ⟨t, a1, o, b1, b2, Or.inl ⟨b3, b4⟩⟩
/-- not caught here: it goes on to the caller -/
theorem vx_widen {g : JFrame} {q : Addr} {k n : Nat} (h1 : cells ≤ k) (h2 : slots ≤ n) (kk : vx_W p l e R s m args below meth c H locs k n Q g q) : vx_W p l e R s m args below meth c H locs cells slots Q g q := fun T hT X => kk T hT (stand_widen X h1 h2)
theorem vx_out {pc : Nat} {E : String} {ce : Cell} {q : Addr} {mc ms : Nat} (hout : ∀ x ∈ c.exceptionTable.toList, covers x pc = false) (hlocks : meth.locks = false) (hcell : H[q]? = some ce) (hv : ce.vm = .none) (hcl : s.vm.findClass E = some ce.cls)
    (hx : ∀ t : State, t.heap = H → s.vm.Alike t.vm → XC E s t) (hf : ∀ z ∈ locs, free z.base) (hc : cells ≤ mc) (hs : slots ≤ ms) :
    vx_W p l e R s m args below meth c H locs cells slots (vx_MQ below Qc XC args s mc ms free) (F0 m pc ls rest) q := by
  intro T hT X
  obtain ⟨st1, hrun, hend, hW, hsm⟩ := X.leaveThrown q (g := F0 m pc ls rest) rfl rfl rfl hout hlocks
  have hcell9 : (T.setFrames (.throwing q :: below)).heap[q]? = some ce := by
    show T.heap[q]? = some ce
    rw [hT]; exact hcell
  exact ⟨_, st1, .threw q, hrun, hend, Or.inr ⟨q, rfl, E, ce, locs, hx _ hT hW.alike, hcell9, hv, hcl, hW, hsm.mono hc hs, hf⟩⟩
theorem vx_frame {U : State} {k n : Nat} (h : s.sameButNew ({ U with vm := s.vm } : State) locs k n) : s.heap.size ≤ U.heap.size ∧ ∀ q : Nat, q < s.heap.size → (∀ z ∈ locs, z.base ≠ q) → U.heap[q]? = s.heap[q]? := by
  obtain ⟨-, h2, -, -, -, h6⟩ := h
  refine ⟨h2, fun q hq hz => ?_⟩
  obtain ⟨c9, e1, e2, e3, e4⟩ := h6 q _ (Array.getElem?_eq_getElem hq)
  have hs : c9.slots = (s.heap[q]).slots := Array.ext_getElem? fun i => e4 i fun hm => hz _ hm rfl
  have h9 : c9 = s.heap[q] := by
    rw [hs] at e2
    exact e2
  have e5 : U.heap[q]? = some c9 := e1
  rw [e5, h9, Array.getElem?_eq_getElem hq]
/-- the words of a throw but the four that speak of the heap -/
def vx_no (w : Cond) : Bool := decide (w ≠ .isRef (.static Bundle.tN "UNASSIGNED_STACK" Bundle.steD)) && decide (w ≠ .isRef (.static Bundle.tN "SUPPRESSED_SENTINEL" Bundle.listD)) && decide (w ≠ .laysStatic Bundle.tN "UNASSIGNED_STACK" Bundle.steD) && decide (w ≠ .laysStatic Bundle.tN "SUPPRESSED_SENTINEL" Bundle.listD)
def vx_at0 (own : String) (ic : Nat) (X : String) (names : List String) : List Cond := (Bundle.ownAtoms0 own ic X names).filter vx_no
def vx_atS (own : String) (ic : Nat) (X : String) (names : List String) : List Cond := (Bundle.ownAtoms own ic X names).filter vx_no
/-- a word that the tables alone decide, or a good one -/
def vx_ot (w : Cond) : Bool := w.onTables || goodWord w
theorem vx_ot_at {args a' : Array Value} {s U : State} {w : Cond} (hW : s.WarmedH U.vm) (hvm : s.vm = U.vm) (hg : vx_ot w = true) (h : w.before args s = true) : w.before a' U = true := by
  simp only [vx_ot, Bool.or_eq_true] at hg
  rcases hg with hg | hg
  · exact va_tabs hg hvm h
  · exact word_at hW (good_of_word hg) h
/-- a list's words: the good ones out of the method's own list, the others by premises of their own -/
theorem vx_hat {args : Array Value} {s : State} {L B : List Cond} (h1 : ∀ w ∈ L.filter goodWord, w.before args s = true) (h2 : ∀ w ∈ L.filter (fun w => !goodWord w), w ∈ B) (h3 : ∀ w ∈ B, w.before args s = true) : ∀ w ∈ L, w.before args s = true := by
  intro w hw
  by_cases g : goodWord w = true
  · exact h1 w (List.mem_filter.mpr ⟨hw, g⟩)
  · refine h3 w (h2 w (List.mem_filter.mpr ⟨hw, ?_⟩))
    show (!goodWord w) = true
    cases hgw : goodWord w
    · rfl
    · exact absurd hgw g
theorem vx_c {args : Array Value} {s : State} {w : Cond} {B : List Cond} (h : w.before args s = true) (t : ∀ w ∈ B, w.before args s = true) : ∀ w' ∈ w :: B, w'.before args s = true := fun w' h' => (List.mem_cons.mp h').elim (fun e => by rw [e]; exact h) (t w')
theorem vx_n {args : Array Value} {s : State} : ∀ w ∈ ([] : List Cond), w.before args s = true := fun _ h => nomatch h
theorem vx_own {args : Array Value} {s : State} {L : List Cond} (h1 : ∀ w ∈ L.filter vx_no, w.before args s = true)
    (hU : (Cond.isRef (.static Bundle.tN "UNASSIGNED_STACK" Bundle.steD)).before args s = true) (hN : (Cond.isRef (.static Bundle.tN "SUPPRESSED_SENTINEL" Bundle.listD)).before args s = true)
    (lU : (Cond.laysStatic Bundle.tN "UNASSIGNED_STACK" Bundle.steD).before args s = true) (lN : (Cond.laysStatic Bundle.tN "SUPPRESSED_SENTINEL" Bundle.listD).before args s = true) : ∀ w ∈ L, w.before args s = true := by
  intro w hw
  by_cases e1 : w = .isRef (.static Bundle.tN "UNASSIGNED_STACK" Bundle.steD)
  · rw [e1]; exact hU
  · by_cases e2 : w = .isRef (.static Bundle.tN "SUPPRESSED_SENTINEL" Bundle.listD)
    · rw [e2]; exact hN
    · by_cases e3 : w = .laysStatic Bundle.tN "UNASSIGNED_STACK" Bundle.steD
      · rw [e3]; exact lU
      · by_cases e4 : w = .laysStatic Bundle.tN "SUPPRESSED_SENTINEL" Bundle.listD
        · rw [e4]; exact lN
        · exact h1 w (List.mem_filter.mpr ⟨hw, by unfold vx_no; rw [decide_eq_true e1, decide_eq_true e2, decide_eq_true e3, decide_eq_true e4]; rfl⟩)
/-- where a static field lies, its class's statics cell in H -/
def vx_L (C n d : String) (A : Nat → Prop) (U : State) (H : Heap) : Prop := ∃ (c : ClassId) (k : Class) (i : Nat) (f : Field) (a : Nat) (cell : Cell), U.vm.findClass C = some c ∧ U.fieldFound? C n d = some (c, k, i, f) ∧ f.isStatic = true ∧ k.statics = some a ∧ H[a]? = some cell ∧ cell.vm.isStatics = true ∧ cell.cls = c ∧ f.slot < cell.slots.size ∧ k.staticTypes[f.slot]? = some f.type ∧ ¬ A a
theorem vx_L.moved {C n d : String} {A : Nat → Prop} {u U : State} {H : Heap} (hvm : u.vm.Alike U.vm) (h : vx_L C n d A u H) : vx_L C n d A U H := by
  obtain ⟨c, k, i, f, a, cell, h1, h2, h3, h4, h5, h6, h7, h8, h9, h10⟩ := h
  obtain ⟨k', hi', he⟩ := State.fieldFound?_setVm hvm h2
  exact ⟨c, k', i, f, a, cell, by rw [hvm.findClass]; exact h1, hi', h3, by rw [he]; exact h4, h5, h6, h7, h8, by rw [he]; exact h9, h10⟩
theorem vx_L.kept {C n d : String} {A : Nat → Prop} {U : State} {H H1 : Heap} (h : vx_L C n d A U H) (hq : ∀ a : Nat, a < H.size → ¬ A a → H1[a]? = H[a]?) : vx_L C n d A U H1 := by
  obtain ⟨c, k, i, f, a, cell, h1, h2, h3, h4, h5, h6, h7, h8, h9, h10⟩ := h
  exact ⟨c, k, i, f, a, cell, h1, h2, h3, h4, by rw [hq a (Array.getElem?_eq_some_iff.mp h5).1 h10]; exact h5, h6, h7, h8, h9, h10⟩
theorem vx_L.narrow {C n d : String} {A B : Nat → Prop} {U : State} {H : Heap} (h : vx_L C n d A U H) (hAB : ∀ q, B q → A q) : vx_L C n d B U H := by
  obtain ⟨c, k, i, f, a, cell, h1, h2, h3, h4, h5, h6, h7, h8, h9, h10⟩ := h
  exact ⟨c, k, i, f, a, cell, h1, h2, h3, h4, h5, h6, h7, h8, h9, fun z => h10 (hAB _ z)⟩
theorem vx_L.word {C n d : String} {A : Nat → Prop} {s : State} {args : Array Value} (h : vx_L C n d A s s.heap) : (Cond.laysStatic C n d).before args s = true := by
  obtain ⟨c, k, i, f, a, cell, h1, h2, h3, h4, h5, h6, h7, h8, h9, -⟩ := h
  show (Cond.laysStatic C n d).holds args s none s [] = true
  exact Cond.laysStatic_of h1 h2 h3 h4 h5 h6 h7 h8 h9
/-- .. and what it holds: null or some reference -/
def vx_Zq (C n d : String) (A : Nat → Prop) (U : State) (H : Heap) : Prop := va_Zq C n d A U H ∧ vx_L C n d A U H
theorem vx_Zq.moved {C n d : String} {A : Nat → Prop} {u U : State} {H : Heap} (hvm : u.vm.Alike U.vm) (h : vx_Zq C n d A u H) : vx_Zq C n d A U H := ⟨va_Zq.moved hvm h.1, vx_L.moved hvm h.2⟩
theorem vx_Zq.kept {C n d : String} {A : Nat → Prop} {U : State} {H H1 : Heap} (h : vx_Zq C n d A U H) (hq : ∀ a : Nat, a < H.size → ¬ A a → H1[a]? = H[a]?) : vx_Zq C n d A U H1 := ⟨va_Zq.kept h.1 hq, vx_L.kept h.2 hq⟩
theorem vx_Zq.narrow {C n d : String} {A B : Nat → Prop} {U : State} {H : Heap} (h : vx_Zq C n d A U H) (hAB : ∀ q, B q → A q) : vx_Zq C n d B U H := ⟨va_Zq.narrow h.1 hAB, vx_L.narrow h.2 hAB⟩
theorem vx_Zqof {args : Array Value} {s : State} {C n d : String} {A : Nat → Prop} (hl : (Cond.laysStatic C n d).before args s = true) (hini : (Cond.initialized C).before args s = true) (h : (Cond.isRef (.static C n d)).before args s = true) (hA : ∀ a : Nat, a < s.heap.size → ¬ A a) : vx_Zq C n d A s s.heap := by
  refine ⟨va_Zqof hl hini h hA, ?_⟩
  obtain ⟨c, k, i, f, a, cell, h1, h2, h3, h4, h5, h6, h7, h8, h9⟩ := Cond.laysStatic_spec hl
  exact ⟨c, k, i, f, a, cell, h1, h2, h3, h4, h5, h6, h7, h8, h9, hA a (Array.getElem?_eq_some_iff.mp h5).1⟩
theorem vx_isRef {C n d : String} {v : Value} {A : Nat → Prop} {s : State} {args : Array Value} (h : va_Z C n d v A s s.heap) (hv : v.isRef = true) : (Cond.isRef (.static C n d)).before args s = true := by
  obtain ⟨cf, kf, fi, f, a, cell, h1, h2, h3, h4, h5, h6, h7, -⟩ := h
  have he : (Term.static C n d).eval args s none [] s = some v := by
    simp [Term.eval, State.fieldNamed?, h1, h2, h4, h5, h6, h7]
  simp only [Cond.before, Cond.holds, Cond.value, he]
  cases v <;> simp_all [Value.isRef]
theorem vx_isRefq {C n d : String} {A : Nat → Prop} {s : State} {args : Array Value} (h : va_Zq C n d A s s.heap) : (Cond.isRef (.static C n d)).before args s = true := by
  rcases h with h | ⟨t, h⟩
  · exact vx_isRef h rfl
  · exact vx_isRef h rfl
/-- the same frame, seen from here: as if the method were called anew in this heap -/
theorem vx_rebase {T : State} (X : Stand p l e R s m args below meth c T locs cells slots) {R' : Room} (hf : R'.frames ≤ R.frames) (hl : R'.locals ≤ R.locals) (hc : cells + R'.cells ≤ R.cells) (hs : slots + R'.slots ≤ R.slots) :
    Stand p l e R' ((T.setVm s.vm).setFrames (.invoking m args :: below)) m args below meth c T [] 0 0 := by
  have htop : (T.setVm s.vm).topJava?.isSome := X.here.top
  have hF : ((T.setVm s.vm).setFrames (.invoking m args :: below)).frames = .invoking m args :: below := State.frames_setFrames _ (State.cur_lt_of_top htop)
  obtain ⟨g₀, hg0⟩ := Option.isSome_iff_exists.mp htop
  obtain ⟨r, hr⟩ := State.topJava?_eq_some.mp hg0
  have hl9 : e.platform.stackLimits (T.setVm s.vm).me = e.platform.stackLimits s.me := X.limits
  have hb9 : (T.setVm s.vm).me.stackBytes = s.me.stackBytes := X.bytes
  refine ⟨X.admits, X.cas, X.clock, hF, ?_, X.hears, X.method, X.code, X.here, X.tail, X.warmed, ?_, ?_, ?_⟩
  · have h := X.room
    have hU : ((T.setVm s.vm).setFrames (.invoking m args :: below)).localsInUse = s.localsInUse := by
      rw [State.localsInUse_invoking hF (meth := meth) (c := c) X.method X.code, State.localsInUse_invoking X.frames X.method X.code]
    simp only [State.hasRoom, Bool.and_eq_true, decide_eq_true_eq] at h ⊢
    obtain ⟨⟨⟨⟨h1, h2, h3, h4, h5, h6⟩, h7⟩, h8⟩, h9⟩ := h
    rw [X.frames, List.length_cons] at h2 h3
    have q1 := X.heapSize
    have q2 := X.used
    simp only [hF, hU, List.length_cons, State.stackLimits_setFrames, State.stackBytes_setFrames, hl9, hb9]
    refine ⟨⟨⟨⟨by omega, by omega, by omega, by omega, by omega, h6⟩, ?_⟩, ?_⟩, X.book⟩
    · show T.heap.size + R'.cells ≤ e.platform.maxCells
      omega
    · show T.slotsUsed + R'.slots ≤ e.platform.maxSlots
      omega
  · rw [State.stackLimits_setFrames]; rfl
  · rw [State.stackBytes_setFrames]; rfl
  · refine ⟨?_, Nat.le_refl _, Nat.le_refl _, ?_, ?_, fun a c9 h9 => ⟨c9, h9, rfl, rfl, fun _ _ => rfl⟩⟩
    · obtain ⟨t, ht, -⟩ := State.frames_cons hr
      show T.setVm s.vm = { ((T.setVm s.vm).setFrames (.invoking m args :: below)).setFrames (T.setVm s.vm).frames with heap := T.heap, slotsUsed := T.slotsUsed }
      rw [State.setFrames_setFrames, State.setFrames_self ht]
      rfl
    · show T.slotsUsed = T.slotsUsed + ((T.heap.toList.drop T.heap.size).map (·.slots.size)).sum
      rw [List.drop_eq_nil_of_le (Nat.le_of_eq Array.length_toList)]
      rfl
    · show ((T.heap.toList.drop T.heap.size).map (·.slots.size)).sum ≤ 0
      rw [List.drop_eq_nil_of_le (Nat.le_of_eq Array.length_toList)]
      exact Nat.le_refl _
/-- 'throw new E()': new; dup; invokespecial; athrow -/
theorem vx_throw0 {cc : ByteArray} {pc : Nat} (hexec : p.tables.exec = Jvm.exec) (hb : c.code = cc) (hl : l.stackTraces = false) {own cls : String} {names : List String} {ik ic mc ms : Nat} {A : Nat → Prop}
    (hown : s.vm.findClass own = some m.cls) (hcls : Bundle.fit cls = true) (hnames : ∀ n ∈ names, Bundle.fit n = true)
    (hk : (Cond.classLink own ik cls).before args s = true) (hini : (Cond.initialized cls).before args s = true) (hat : ∀ w ∈ vx_at0 own ic cls names, w.before args s = true)
    (hgood : ∀ w ∈ Cond.classLink own ik cls :: Cond.initialized cls :: vx_at0 own ic cls names, vx_ot w = true)
    (hU : vx_Zq Bundle.tN "UNASSIGNED_STACK" Bundle.steD A s s.heap) (hN : vx_Zq Bundle.tN "SUPPRESSED_SENTINEL" Bundle.listD A s s.heap) (hS : va_S A s.heap H locs) (hsize : ls.size = c.maxLocals)
    (d0 : decode cc pc = .ok (.new ik, 3)) (d3 : decode cc (pc + 3) = .ok (.dup, 1)) (d4 : decode cc (pc + 4) = .ok (.invokespecial ic, 3)) (d7 : decode cc (pc + 7) = .ok (.athrow, 1))
    (hout : ∀ x ∈ c.exceptionTable.toList, covers x (pc + 7) = false)
    (hRframes : names.length + 3 < R.frames) (hRlocals : (rest.map fun v => v.category).sum + (13 * (names.length + 1) + 42) ≤ R.locals) (hRcells : cells + 1 ≤ R.cells) (hRslots : slots + 6 ≤ R.slots) (hlocks : meth.locks = false)
    (hx : ∀ t : State, s.vm.Alike t.vm → H.size ≤ t.heap.size → (∀ q : Nat, q < H.size → t.heap[q]? = H[q]?) → XC cls s t)
    (hf : ∀ z ∈ locs, free z.base) (hc : cells + 1 ≤ mc) (hs : slots + 6 ≤ ms) :
    W p l e R s m args below meth c H locs cells slots (vx_MQ below Qc XC args s mc ms free) (F0 m pc ls rest) := by
  intro T hT X
  have htr : e.platform.stackTraces = false := (show e.platform.stackTraces = l.stackTraces by rw [X.admits.platform]).trans hl
  have Y := vx_rebase X (R' := { frames := R.frames, locals := R.locals, cells := 1, slots := 6 }) (Nat.le_refl _) (Nat.le_refl _) hRcells hRslots
  obtain ⟨s', hA⟩ : ∃ z, z = (T.setVm s.vm).setFrames (.invoking m args :: below) := ⟨_, rfl⟩
  rw [← hA] at Y
  have hvm : s'.vm = s.vm := by rw [hA]; rfl
  have hhp : s'.heap = H := by rw [hA]; exact hT
  have hW0 : s.WarmedH s'.vm := by rw [hvm]; exact State.WarmedH.refl s
  have hat' : ∀ w ∈ vx_at0 own ic cls names, w.before args s' = true := fun w hw => vx_ot_at hW0 hvm.symm (hgood w (List.mem_cons_of_mem _ (List.mem_cons_of_mem _ hw))) (hat w hw)
  have hk' : (Cond.classLink own ik cls).before args s' = true := vx_ot_at hW0 hvm.symm (hgood _ List.mem_cons_self) hk
  have hini' : (Cond.initialized cls).before args s' = true := vx_ot_at hW0 hvm.symm (hgood _ (List.mem_cons_of_mem _ List.mem_cons_self)) hini
  have hU' : vx_Zq Bundle.tN "UNASSIGNED_STACK" Bundle.steD A s' s'.heap := by rw [hhp]; exact vx_Zq.moved hW0.alike (hU.kept hS.2.1)
  have hN' : vx_Zq Bundle.tN "SUPPRESSED_SENTINEL" Bundle.listD A s' s'.heap := by rw [hhp]; exact vx_Zq.moved hW0.alike (hN.kept hS.2.1)
  have h : ∀ w ∈ Bundle.ownAtoms0 own ic cls names, w.before args s' = true := vx_own hat' (vx_isRefq hU'.1) (vx_isRefq hN'.1) hU'.2.word hN'.2.word
  have hown' : s'.vm.findClass own = some m.cls := by rw [hvm]; exact hown
  have hins : (Cond.instantiable cls 6).before args s' = true := h _ (by simp [Bundle.ownAtoms0])
  obtain ⟨vm₁, cX, kX, hfX, hkX, -, -, X₁, st1⟩ := Y.newCold hexec (own := own) (C := cls) (index := ik) (n := 6) hown' hk' hins hini'
    (g := F0 m pc ls rest) rfl (by rw [hb]; exact d0) (Nat.le_refl _) (Nat.le_refl _)
  generalize hT1 : (T.setVm vm₁).pushCell { cls := cX, slots := kX.instanceTypes.map defaultValue, vm := .none } = T1 at X₁ st1
  have hcat : (Value.ref T.heap.size).category = 1 := rfl
  have hcellA : T1.heap[T.heap.size]? = some (freshCell cX kX) := by rw [← hT1]; exact State.heap_pushCell_size _ _
  have d3' : decode c.code (pc + 3) = .ok (.dup, 1) := by rw [hb]; exact d3
  obtain ⟨U, hsteps, hrun, hend, hW, hsame, ce, hce, hO⟩ := X₁.ctorThrow0 hexec htr (own := own) (cls := cls) (names := names) (ic := ic) hown' hcls hnames h (fun x hx => nomatch hx) hfX hkX hcellA (by rw [hhp, hT]; exact Nat.le_refl _)
    (g := { method := m, pc := pc + 4, locals := ls, stack := .ref T.heap.size :: .ref T.heap.size :: rest, locked := none }) rfl hsize rfl rfl (rest := rest) rfl
    (by rw [hb]; exact d4) (by rw [hb]; exact d7) hout hRframes (by simp only [List.map_cons, List.sum_cons, hcat]; omega) hlocks
  obtain ⟨f1, f2⟩ := vx_frame hsame
  rw [hhp] at f1 f2
  have hWs : s.WarmedH U.vm := State.WarmedH.trans hW0 hW
  have hcl : s.vm.findClass cls = some ce.cls := by
    have h9 := hO.cls
    rw [hvm] at h9
    exact h9
  have hall : s.sameButNew ({ U with vm := s.vm } : State) locs mc ms := by
    subst hA
    obtain ⟨e1, e2⟩ := hsame
    rw [State.setFrames_setFrames] at e1
    have h2 : (T.setVm s.vm).sameButNew ({ U with vm := s.vm } : State) [] (0 + 1) (0 + 6) := ⟨e1, e2⟩
    have h3 := X.same.trans h2
    rw [List.append_nil] at h3
    exact h3.mono hc hs
  refine ⟨U, ?_, .threw T.heap.size, hrun, hend, Or.inr ⟨T.heap.size, rfl, cls, ce, locs, hx U hWs.alike f1 (fun q hq => f2 q hq (fun z hz => nomatch hz)), hce, hO.vm, hcl, hWs, hall, hf⟩⟩
  refine st1 _ ?_
  show Steps p.tables e below (T1.setTop { method := m, pc := pc + 3, locals := ls, stack := .ref T.heap.size :: rest, locked := none }) _
  jvm_step X₁.here [X₁.here.top, hexec, d3', Value.category]
  exact hsteps
/-- 'throw new E("text")': new; dup; ldc; invokespecial; athrow -/
theorem vx_throwS {cc : ByteArray} {pc : Nat} (hexec : p.tables.exec = Jvm.exec) (hb : c.code = cc) (hl : l.stackTraces = false) {own cls text : String} {names : List String} {ik is ic mc ms sa : Nat} {A : Nat → Prop}
    (hown : s.vm.findClass own = some m.cls) (hcls : Bundle.fit cls = true) (hnames : ∀ n ∈ names, Bundle.fit n = true)
    (hk : (Cond.classLink own ik cls).before args s = true) (hini : (Cond.initialized cls).before args s = true) (hstr : vk_R own is text sa s) (hat : ∀ w ∈ vx_atS own ic cls names, w.before args s = true)
    (hgood : ∀ w ∈ Cond.classLink own ik cls :: Cond.initialized cls :: vx_atS own ic cls names, vx_ot w = true)
    (hU : vx_Zq Bundle.tN "UNASSIGNED_STACK" Bundle.steD A s s.heap) (hN : vx_Zq Bundle.tN "SUPPRESSED_SENTINEL" Bundle.listD A s s.heap) (hS : va_S A s.heap H locs) (hsize : ls.size = c.maxLocals)
    (d0 : decode cc pc = .ok (.new ik, 3)) (d3 : decode cc (pc + 3) = .ok (.dup, 1)) (d4 : decode cc (pc + 4) = .ok (.ldc is, 2)) (d6 : decode cc (pc + 6) = .ok (.invokespecial ic, 3)) (d9 : decode cc (pc + 9) = .ok (.athrow, 1))
    (hout : ∀ x ∈ c.exceptionTable.toList, covers x (pc + 9) = false)
    (hRframes : names.length + 3 < R.frames) (hRlocals : (rest.map fun v => v.category).sum + (13 * (names.length + 1) + 43) ≤ R.locals) (hRcells : cells + 1 ≤ R.cells) (hRslots : slots + 6 ≤ R.slots) (hlocks : meth.locks = false)
    (hx : ∀ t : State, s.vm.Alike t.vm → H.size ≤ t.heap.size → (∀ q : Nat, q < H.size → t.heap[q]? = H[q]?) → XC cls s t)
    (hf : ∀ z ∈ locs, free z.base) (hc : cells + 1 ≤ mc) (hs : slots + 6 ≤ ms) :
    W p l e R s m args below meth c H locs cells slots (vx_MQ below Qc XC args s mc ms free) (F0 m pc ls rest) := by
  intro T hT X
  have htr : e.platform.stackTraces = false := (show e.platform.stackTraces = l.stackTraces by rw [X.admits.platform]).trans hl
  have Y := vx_rebase X (R' := { frames := R.frames, locals := R.locals, cells := 1, slots := 6 }) (Nat.le_refl _) (Nat.le_refl _) hRcells hRslots
  obtain ⟨s', hA⟩ : ∃ z, z = (T.setVm s.vm).setFrames (.invoking m args :: below) := ⟨_, rfl⟩
  rw [← hA] at Y
  have hvm : s'.vm = s.vm := by rw [hA]; rfl
  have hhp : s'.heap = H := by rw [hA]; exact hT
  have hW0 : s.WarmedH s'.vm := by rw [hvm]; exact State.WarmedH.refl s
  have hat' : ∀ w ∈ vx_atS own ic cls names, w.before args s' = true := fun w hw => vx_ot_at hW0 hvm.symm (hgood w (List.mem_cons_of_mem _ (List.mem_cons_of_mem _ hw))) (hat w hw)
  have hk' : (Cond.classLink own ik cls).before args s' = true := vx_ot_at hW0 hvm.symm (hgood _ List.mem_cons_self) hk
  have hini' : (Cond.initialized cls).before args s' = true := vx_ot_at hW0 hvm.symm (hgood _ (List.mem_cons_of_mem _ List.mem_cons_self)) hini
  have hU' : vx_Zq Bundle.tN "UNASSIGNED_STACK" Bundle.steD A s' s'.heap := by rw [hhp]; exact vx_Zq.moved hW0.alike (hU.kept hS.2.1)
  have hN' : vx_Zq Bundle.tN "SUPPRESSED_SENTINEL" Bundle.listD A s' s'.heap := by rw [hhp]; exact vx_Zq.moved hW0.alike (hN.kept hS.2.1)
  have h : ∀ w ∈ Bundle.ownAtoms own ic cls names, w.before args s' = true := vx_own hat' (vx_isRefq hU'.1) (vx_isRefq hN'.1) hU'.2.word hN'.2.word
  have hown' : s'.vm.findClass own = some m.cls := by rw [hvm]; exact hown
  have hins : (Cond.instantiable cls 6).before args s' = true := h _ (by simp [Bundle.ownAtoms])
  obtain ⟨vm₁, cX, kX, hfX, hkX, -, -, X₁, st1⟩ := Y.newCold hexec (own := own) (C := cls) (index := ik) (n := 6) hown' hk' hins hini'
    (g := F0 m pc ls rest) rfl (by rw [hb]; exact d0) (Nat.le_refl _) (Nat.le_refl _)
  generalize hT1 : (T.setVm vm₁).pushCell { cls := cX, slots := kX.instanceTypes.map defaultValue, vm := .none } = T1 at X₁ st1
  have hcat : (Value.ref T.heap.size).category = 1 := rfl
  have hcellA : T1.heap[T.heap.size]? = some (freshCell cX kX) := by rw [← hT1]; exact State.heap_pushCell_size _ _
  have d3' : decode c.code (pc + 3) = .ok (.dup, 1) := by rw [hb]; exact d3
  have d4' : decode c.code (pc + 4) = .ok (.ldc is, 2) := by rw [hb]; exact d4
  have hstr' : vk_R own is text sa s' := vk_R.warm hW0 hstr
  obtain ⟨U, hsteps, hrun, hend, hW, hsame, ce, hce, hO⟩ := X₁.ctorThrowS hexec htr (own := own) (cls := cls) (names := names) (ic := ic) hown' hcls hnames h (fun x hx => nomatch hx) hfX hkX hcellA (by rw [hhp, hT]; exact Nat.le_refl _) (msg := .ref sa) rfl
    (g := { method := m, pc := pc + 6, locals := ls, stack := .ref sa :: .ref T.heap.size :: .ref T.heap.size :: rest, locked := none }) rfl hsize rfl rfl (rest := rest) rfl
    (by rw [hb]; exact d6) (by rw [hb]; exact d9) hout hRframes (by simp only [List.map_cons, List.sum_cons, hcat]; omega) hlocks
  obtain ⟨f1, f2⟩ := vx_frame hsame
  rw [hhp] at f1 f2
  have hWs : s.WarmedH U.vm := State.WarmedH.trans hW0 hW
  have hcl : s.vm.findClass cls = some ce.cls := by
    have h9 := hO.cls
    rw [hvm] at h9
    exact h9
  have hall : s.sameButNew ({ U with vm := s.vm } : State) locs mc ms := by
    subst hA
    obtain ⟨e1, e2⟩ := hsame
    rw [State.setFrames_setFrames] at e1
    have h2 : (T.setVm s.vm).sameButNew ({ U with vm := s.vm } : State) [] (0 + 1) (0 + 6) := ⟨e1, e2⟩
    have h3 := X.same.trans h2
    rw [List.append_nil] at h3
    exact h3.mono hc hs
  refine ⟨U, ?_, .threw T.heap.size, hrun, hend, Or.inr ⟨T.heap.size, rfl, cls, ce, locs, hx U hWs.alike f1 (fun q hq => f2 q hq (fun z hz => nomatch hz)), hce, hO.vm, hcl, hWs, hall, hf⟩⟩
  refine st1 _ ?_
  show Steps p.tables e below (T1.setTop { method := m, pc := pc + 3, locals := ls, stack := .ref T.heap.size :: rest, locked := none }) _
  jvm_step X₁.here [X₁.here.top, hexec, d3', Value.category]
  exact X₁.ldcString hexec (own := own) (text := text) (index := is) (a := sa) hown' hstr'.1 hstr'.2
    (g := { method := m, pc := pc + 4, locals := ls, stack := .ref T.heap.size :: .ref T.heap.size :: rest, locked := none }) rfl d4' _ hsteps
/-- 'throw new E("text")', the text by a wide index -/
theorem vx_throwSW {cc : ByteArray} {pc : Nat} (hexec : p.tables.exec = Jvm.exec) (hb : c.code = cc) (hl : l.stackTraces = false) {own cls text : String} {names : List String} {ik is ic mc ms sa : Nat} {A : Nat → Prop}
    (hown : s.vm.findClass own = some m.cls) (hcls : Bundle.fit cls = true) (hnames : ∀ n ∈ names, Bundle.fit n = true)
    (hk : (Cond.classLink own ik cls).before args s = true) (hini : (Cond.initialized cls).before args s = true) (hstr : vk_R own is text sa s) (hat : ∀ w ∈ vx_atS own ic cls names, w.before args s = true)
    (hgood : ∀ w ∈ Cond.classLink own ik cls :: Cond.initialized cls :: vx_atS own ic cls names, vx_ot w = true)
    (hU : vx_Zq Bundle.tN "UNASSIGNED_STACK" Bundle.steD A s s.heap) (hN : vx_Zq Bundle.tN "SUPPRESSED_SENTINEL" Bundle.listD A s s.heap) (hS : va_S A s.heap H locs) (hsize : ls.size = c.maxLocals)
    (d0 : decode cc pc = .ok (.new ik, 3)) (d3 : decode cc (pc + 3) = .ok (.dup, 1)) (d4 : decode cc (pc + 4) = .ok (.ldc_w is, 3)) (d7 : decode cc (pc + 7) = .ok (.invokespecial ic, 3)) (d10 : decode cc (pc + 10) = .ok (.athrow, 1))
    (hout : ∀ x ∈ c.exceptionTable.toList, covers x (pc + 10) = false)
    (hRframes : names.length + 3 < R.frames) (hRlocals : (rest.map fun v => v.category).sum + (13 * (names.length + 1) + 43) ≤ R.locals) (hRcells : cells + 1 ≤ R.cells) (hRslots : slots + 6 ≤ R.slots) (hlocks : meth.locks = false)
    (hx : ∀ t : State, s.vm.Alike t.vm → H.size ≤ t.heap.size → (∀ q : Nat, q < H.size → t.heap[q]? = H[q]?) → XC cls s t)
    (hf : ∀ z ∈ locs, free z.base) (hc : cells + 1 ≤ mc) (hs : slots + 6 ≤ ms) :
    W p l e R s m args below meth c H locs cells slots (vx_MQ below Qc XC args s mc ms free) (F0 m pc ls rest) := by
  intro T hT X
  have htr : e.platform.stackTraces = false := (show e.platform.stackTraces = l.stackTraces by rw [X.admits.platform]).trans hl
  have Y := vx_rebase X (R' := { frames := R.frames, locals := R.locals, cells := 1, slots := 6 }) (Nat.le_refl _) (Nat.le_refl _) hRcells hRslots
  obtain ⟨s', hA⟩ : ∃ z, z = (T.setVm s.vm).setFrames (.invoking m args :: below) := ⟨_, rfl⟩
  rw [← hA] at Y
  have hvm : s'.vm = s.vm := by rw [hA]; rfl
  have hhp : s'.heap = H := by rw [hA]; exact hT
  have hW0 : s.WarmedH s'.vm := by rw [hvm]; exact State.WarmedH.refl s
  have hat' : ∀ w ∈ vx_atS own ic cls names, w.before args s' = true := fun w hw => vx_ot_at hW0 hvm.symm (hgood w (List.mem_cons_of_mem _ (List.mem_cons_of_mem _ hw))) (hat w hw)
  have hk' : (Cond.classLink own ik cls).before args s' = true := vx_ot_at hW0 hvm.symm (hgood _ List.mem_cons_self) hk
  have hini' : (Cond.initialized cls).before args s' = true := vx_ot_at hW0 hvm.symm (hgood _ (List.mem_cons_of_mem _ List.mem_cons_self)) hini
  have hU' : vx_Zq Bundle.tN "UNASSIGNED_STACK" Bundle.steD A s' s'.heap := by rw [hhp]; exact vx_Zq.moved hW0.alike (hU.kept hS.2.1)
  have hN' : vx_Zq Bundle.tN "SUPPRESSED_SENTINEL" Bundle.listD A s' s'.heap := by rw [hhp]; exact vx_Zq.moved hW0.alike (hN.kept hS.2.1)
  have h : ∀ w ∈ Bundle.ownAtoms own ic cls names, w.before args s' = true := vx_own hat' (vx_isRefq hU'.1) (vx_isRefq hN'.1) hU'.2.word hN'.2.word
  have hown' : s'.vm.findClass own = some m.cls := by rw [hvm]; exact hown
  have hins : (Cond.instantiable cls 6).before args s' = true := h _ (by simp [Bundle.ownAtoms])
  obtain ⟨vm₁, cX, kX, hfX, hkX, -, -, X₁, st1⟩ := Y.newCold hexec (own := own) (C := cls) (index := ik) (n := 6) hown' hk' hins hini'
    (g := F0 m pc ls rest) rfl (by rw [hb]; exact d0) (Nat.le_refl _) (Nat.le_refl _)
  generalize hT1 : (T.setVm vm₁).pushCell { cls := cX, slots := kX.instanceTypes.map defaultValue, vm := .none } = T1 at X₁ st1
  have hcat : (Value.ref T.heap.size).category = 1 := rfl
  have hcellA : T1.heap[T.heap.size]? = some (freshCell cX kX) := by rw [← hT1]; exact State.heap_pushCell_size _ _
  have d3' : decode c.code (pc + 3) = .ok (.dup, 1) := by rw [hb]; exact d3
  have d4' : decode c.code (pc + 4) = .ok (.ldc_w is, 3) := by rw [hb]; exact d4
  have hstr' : vk_R own is text sa s' := vk_R.warm hW0 hstr
  obtain ⟨U, hsteps, hrun, hend, hW, hsame, ce, hce, hO⟩ := X₁.ctorThrowS hexec htr (own := own) (cls := cls) (names := names) (ic := ic) hown' hcls hnames h (fun x hx => nomatch hx) hfX hkX hcellA (by rw [hhp, hT]; exact Nat.le_refl _) (msg := .ref sa) rfl
    (g := { method := m, pc := pc + 7, locals := ls, stack := .ref sa :: .ref T.heap.size :: .ref T.heap.size :: rest, locked := none }) rfl hsize rfl rfl (rest := rest) rfl
    (by rw [hb]; exact d7) (by rw [hb]; exact d10) hout hRframes (by simp only [List.map_cons, List.sum_cons, hcat]; omega) hlocks
  obtain ⟨f1, f2⟩ := vx_frame hsame
  rw [hhp] at f1 f2
  have hWs : s.WarmedH U.vm := State.WarmedH.trans hW0 hW
  have hcl : s.vm.findClass cls = some ce.cls := by
    have h9 := hO.cls
    rw [hvm] at h9
    exact h9
  have hall : s.sameButNew ({ U with vm := s.vm } : State) locs mc ms := by
    subst hA
    obtain ⟨e1, e2⟩ := hsame
    rw [State.setFrames_setFrames] at e1
    have h2 : (T.setVm s.vm).sameButNew ({ U with vm := s.vm } : State) [] (0 + 1) (0 + 6) := ⟨e1, e2⟩
    have h3 := X.same.trans h2
    rw [List.append_nil] at h3
    exact h3.mono hc hs
  refine ⟨U, ?_, .threw T.heap.size, hrun, hend, Or.inr ⟨T.heap.size, rfl, cls, ce, locs, hx U hWs.alike f1 (fun q hq => f2 q hq (fun z hz => nomatch hz)), hce, hO.vm, hcl, hWs, hall, hf⟩⟩
  refine st1 _ ?_
  show Steps p.tables e below (T1.setTop { method := m, pc := pc + 3, locals := ls, stack := .ref T.heap.size :: rest, locked := none }) _
  jvm_step X₁.here [X₁.here.top, hexec, d3', Value.category]
  exact X₁.ldcStringW hexec (own := own) (text := text) (index := is) (a := sa) hown' hstr'.1 hstr'.2
    (g := { method := m, pc := pc + 4, locals := ls, stack := .ref T.heap.size :: .ref T.heap.size :: rest, locked := none }) rfl d4' _ hsteps
end Ends
section Bodies
variable {l : Launch}
theorem vx_ofW {y : MethodName} {ws ws' : List Cond} {rm : Room} {Pc : Array Value → State → Prop} {Qc : Array Value → State → Outcome → State → Prop} {XC : String → State → State → Prop} {mc ms : Nat} {free : Addr → Prop} {cc : ByteArray} {maxL : Nat} {ret : Option FieldType}
    (hy : plainName y.cls = true) (hw : ws = Cond.code y cc maxL ret :: ws')
    (body : ∀ p e s m args below meth c s₁, BodyLoose p l y (headSpec ws rm) cc maxL ret e s m args below meth c s₁ → c.maxLocals = maxL → (∀ x ∈ c.exceptionTable.toList, False) → Pc args s →
      W p l e (headSpec ws rm).room s m args below meth c s.heap [] 0 0 (vx_MQ below Qc XC args s mc ms free) (entryFrame m args maxL)) : vx_Met l y ws rm Pc Qc XC mc ms free := by
  refine MetFree.of_bodyS (code := cc) (maxLocals := maxL) (ret := ret) hy ?_ ?_
  · intro args s m h hn
    obtain ⟨meth, c, h1, h2, h3, h4, h5, h6, -, -⟩ := Cond.code_spec hn (atoms_spec (ws := ws) h _ (by rw [hw]; exact List.mem_cons_self))
    exact ⟨meth, c, h1, h2, h3, h4, h5, h6⟩
  · intro p e s m args below meth c s₁ B hml hP _
    have hh0 : s₁.heap = s.heap := by rw [B.state]; rfl
    have ht : ∀ x ∈ c.exceptionTable.toList, False := by
      obtain ⟨meth9, c9, h1, h2, -, -, -, -, h7, -⟩ := Cond.code_spec B.named (atoms_spec (ws := ws) B.pre _ (by rw [hw]; exact List.mem_cons_self))
      cases Option.some.inj (h1.symm.trans B.method)
      cases Option.some.inj (h2.symm.trans (Stand.of_body B).code)
      intro x hx
      rw [Array.isEmpty_iff.mp h7] at hx
      cases hx
    obtain ⟨t, a1, o, b1, b2, b3⟩ := body p e s m args below meth c s₁ B hml ht hP s₁ hh0 (Stand.of_body B)
    exact ⟨t, o, a1, b1, b2, b3⟩
/-- the table of a body with handlers -/
theorem vx_table {p : Program} {x y : MethodName} {S : Spec} {cc bytes : ByteArray} {maxL maxL' : Nat} {ret ret' : Option FieldType} {e : Env} {s s₁ : State} {m : MethodId} {args : Array Value} {below : List Frame} {meth : Method} {c : Code} {hh : List (Nat × Nat × Nat × Nat)}
    (B : BodyLoose p l y S cc maxL ret e s m args below meth c s₁) (h : (Cond.codeWith y bytes maxL' ret' hh).before args s = true) : c.exceptionTable.toList = tableOf hh := by
  obtain ⟨m9, meth9, c9, hn9, h1, h2, -, -, h6, -⟩ := Cond.codeWith_spec h
  cases Option.some.inj (hn9.symm.trans B.named)
  cases Option.some.inj (h1.symm.trans B.method)
  cases Option.some.inj (h2.symm.trans (Stand.of_body B).code)
  rw [← h6, table_eq]
end Bodies
end VXA
/-! ===== END ===== -/
/-! ===== BEGIN a static call of a method with an exception table ===== -/
section VXS
variable {p : Program} {l : Launch} {e : Env} {R : Room} {s : State} {m : MethodId} {args : Array Value} {below : List Frame} {meth : Method} {c : Code} {T : State} {H : Heap} {locs : List Loc} {cells slots : Nat}
abbrev vx_CSW (R : Room) (s : State) (args : Array Value) (own : String) (index : Nat) (y : MethodName) (bytes : ByteArray) (maxL : Nat) (ret : Option FieldType) (hh : List (Nat × Nat × Nat × Nat)) (ws : List Cond) (rm : Room) (mc ms n : Nat) : Prop :=
  (rm.cells = mc ∧ rm.slots = ms ∧ rm.frames + 1 ≤ R.frames ∧ 8 + (maxL + 11) + rm.locals ≤ R.locals ∧ (∀ w ∈ ws, ∀ (a' : Array Value) (U : State), s.WarmedH U.vm → w.before a' U = true) ∧ Cond.codeWith y bytes maxL ret hh ∈ ws) ∧
  (Cond.codeWith y bytes maxL ret hh).before args s = true ∧ (Cond.initialized y.cls).before args s = true ∧ (y.cls ≠ "java/lang/invoke/MethodHandle" ∧ y.cls ≠ "java/lang/invoke/VarHandle") ∧
  (∀ sig, parseMethodDescriptor y.desc = some sig → n = sig.parameters.length) ∧ (Cond.methodLink own index y).before args s = true ∧ (Cond.static y).before args s = true
theorem vx_cwSW {own : String} {index maxL mc ms : Nat} {y : MethodName} {bytes : ByteArray} {ret : Option FieldType} {hh : List (Nat × Nat × Nat × Nat)} {Ts ws ws' : List Cond} {rm : Room} (n : Nat) (ht : ∀ w ∈ Ts, w.before args s = true) (hT : GoodIn Ts (va_wsS own index y ws)) (hw : ws = Cond.codeWith y bytes maxL ret hh :: ws') (hrc : rm.cells = mc) (hrs : rm.slots = ms)
    (hd : y.cls ≠ "java/lang/invoke/MethodHandle" ∧ y.cls ≠ "java/lang/invoke/VarHandle" ∧ (parseMethodDescriptor y.desc).map (fun d => d.parameters.length) = some n) (hR : rm.frames + 1 ≤ R.frames ∧ 8 + (maxL + 11) + rm.locals ≤ R.locals) :
    vx_CSW R s args own index y bytes maxL ret hh ws rm mc ms n := by
  have ok : ∀ w ∈ va_wsS own index y ws, w.before args s = true := fun w h => ht w (hT w h).1
  have hG : GoodIn Ts ws := fun w h => hT w (by unfold va_wsS; exact List.mem_append_right _ h)
  have hc : Cond.codeWith y bytes maxL ret hh ∈ ws := by rw [hw]; exact List.mem_cons_self
  refine ⟨⟨hrc, hrs, hR.1, hR.2, pay_in ht hG, hc⟩, ht _ (hG _ hc).1, ok _ (by simp [va_wsS]), ⟨hd.1, hd.2.1⟩, fun sig h => ?_, ok _ (by simp [va_wsS]), ok _ (by simp [va_wsS])⟩
  have h2 := hd.2.2
  rw [h] at h2
  exact (Option.some.inj h2).symm
theorem vx_callSW (X : Stand p l e R s m args below meth c T locs cells slots) (hexec : p.tables.exec = Jvm.exec) {own : String} {index : Nat} {y : MethodName} {bytes : ByteArray} {maxL : Nat} {ret : Option FieldType} {hh : List (Nat × Nat × Nat × Nat)}
    (hown : s.vm.findClass own = some m.cls) (hlink : (Cond.methodLink own index y).before args s = true) (hstat : (Cond.static y).before args s = true) (hinit : (Cond.initialized y.cls).before args s = true)
    (hcode : (Cond.codeWith y bytes maxL ret hh).before args s = true) (hy : y.cls ≠ "java/lang/invoke/MethodHandle" ∧ y.cls ≠ "java/lang/invoke/VarHandle")
    {W9 : Nat} {Pre : Pt → Array Value → Prop} {Post : Pt → Array Value → Option Value → Pt → Prop} (hK : Back l R p e below s args y 3 W9 Pre Post)
    {g : JFrame} (hg : g.method = m) (hsize : g.locals.size = c.maxLocals) {argsL rest : List Value} (hlen : ∀ sig, parseMethodDescriptor y.desc = some sig → argsL.length = sig.parameters.length)
    (hstack : g.stack = argsL.reverse ++ rest) (hW : 2 * g.monitorRoom + (rest.map fun v => v.category).sum ≤ W9) (hdg : decode c.code g.pc = .ok (.invokestatic index, 3))
    (hpre : ∀ vm₁, s.WarmedH vm₁ → Pre ⟨T.setVm vm₁, locs, cells, slots⟩ argsL.toArray) :
    ∃ (v : Option Value) (vm₁ : Vm) (B : Pt), s.WarmedH vm₁ ∧ Stand p l e R s m args below meth c B.U B.locs B.cells B.slots ∧ Post ⟨T.setVm vm₁, locs, cells, slots⟩ argsL.toArray v B ∧
      ∀ target, Steps p.tables e below (B.U.setTop { g with pc := g.pc + 3, stack := v.toList ++ rest }) target → Steps p.tables e below (T.setTop g) target := by
  obtain ⟨mk, methM, cM, hnamed, hmethM, -, -, -, -, -, -, hsigM⟩ := Cond.codeWith_spec hcode
  have hstatic : methM.isStatic = true := Cond.static_spec hnamed hmethM hstat
  obtain ⟨kP, hkP, -⟩ := className_of_methodNamed hnamed
  have hinitP : kP.init = .initialized := Cond.initialized_spec (findClass_of_methodNamed hnamed) hkP hinit
  obtain ⟨vm₁, X₁, hstep₁⟩ := X.invokestatic hexec hown hlink hnamed hmethM hstatic hkP hinitP hy (g := g) hg (argsL := argsL) (rest := rest) (hlen _ hsigM) hstack hdg
  obtain ⟨v, B, X', hpost, hsteps⟩ := hK m meth c ⟨T.setVm vm₁, locs, cells, slots⟩ { g with stack := rest } (.invokestatic index) mk argsL.toArray X₁ hg hsize hdg hW (X₁.named hnamed) (hpre vm₁ X₁.warmed)
  exact ⟨v, vm₁, B, X₁.warmed, X', hpost, fun target h => hstep₁ _ fun acts => by rw [doInvoke_state]; exact hsteps.trans h⟩
theorem vx_runSW {y : MethodName} {bytes cc : ByteArray} {maxL nL mc ms n index : Nat} {ret : Option FieldType} {hh : List (Nat × Nat × Nat × Nat)} {ws : List Cond} {rm : Room} {Pc : Array Value → State → Prop} {Qc : Array Value → State → Outcome → State → Prop} {free : Addr → Prop} {Ts : List Cond} {own : String} {As rest : List Value} {g : JFrame}
    (S : CallFix p m c cc nL s args Ts own) (hM : Met l y ws rm Pc Qc mc ms free) (cw : vx_CSW R s args own index y bytes maxL ret hh ws rm mc ms n) (hp : PreS s H Pc As)
    (hg : g.method = m) (hn : As.length = n) (hsize : g.locals.size = nL) (hstack : g.stack = As.reverse ++ rest) (hW : 2 * g.monitorRoom + (rest.map fun v => v.category).sum ≤ 8) (hdg : decode cc g.pc = .ok (.invokestatic index, 3)) (hf : cells + mc ≤ R.cells ∧ slots + ms ≤ R.slots) :
    va_Run p l e R s m args below meth c H locs cells slots mc ms g rest (Qc As.toArray) (free) := by
  obtain ⟨⟨hrc, hrs, hfr, hlo, hws, hcw⟩, hcode, hini, hy, hlen, hl, hstt⟩ := cw
  have hK : Back l R p e below s args y 3 8 (PreOf R mc ms Pc) (PostOf Qc mc ms free) := va_backW (hh := hh) (bytes := bytes) (maxL := maxL) (ret := ret) hM hp.1 hrc hrs hfr hlo hws hcw (fun a' U hW => word_at hW (Or.inl (by first | rfl | simp [Cond.onTables, Cond.keeps, Cond.steady])) hini)
  obtain ⟨hx, hb, hml, ho, -⟩ := S
  intro T hT X
  obtain ⟨v, vm₁, ⟨U', l2, c2, s2⟩, hW₁, X', ⟨g', mk, t, L, e1, e2, hq, h1, hL, h2, h3⟩, st⟩ := vx_callSW X hx (hh := hh) (bytes := bytes) (maxL := maxL) (ret := ret) ho hl hstt hini hcode hy hK hg (hsize.trans hml.symm) (argsL := As) (rest := rest) (fun sig h => hn.trans (hlen sig h)) hstack hW (by rw [hb]; exact hdg)
    (fun vm₁ hW₁ => ⟨hf.1, hf.2, hp.2 (T.setVm vm₁) hT hW₁⟩)
  dsimp only [Pt.U, Pt.locs, Pt.cells, Pt.slots] at X' e1 e2 h1 h2 h3 st
  subst h1; subst h2; subst h3
  exact ⟨v, (T.setVm vm₁).calling g' mk As.toArray, t, U', L, hT, X', hL, e1, e2, hq, st⟩
/-- not caught here, past rows that name other classes: it goes on to the caller -/
theorem vx_outP {p : Program} {l : Launch} {e : Env} {R : Room} {s : State} {m : MethodId} {args : Array Value} {below : List Frame} {meth : Method} {c : Code} {H : Heap} {locs : List Loc} {cells slots : Nat} {free : Addr → Prop} {ls : Array Slot} {rest : List Value} {Qc : Array Value → State → Outcome → State → Prop} {XC : String → State → State → Prop}
    {pc : Nat} {own E : String} {ce : Cell} {q : Addr} {mc ms : Nat} (hown : s.vm.findClass own = some m.cls) (hlocks : meth.locks = false)
    (hpass : ∀ z ∈ c.exceptionTable.toList, covers z pc = false ∨ (z.catchType ≠ 0 ∧ ∃ nm : String, (Cond.classLink own z.catchType nm).before args s = true ∧ va_Nc E nm s)) (hcell : H[q]? = some ce) (hv : ce.vm = .none) (hcl : s.vm.findClass E = some ce.cls)
    (hx : ∀ t : State, t.heap = H → s.vm.Alike t.vm → XC E s t) (hf : ∀ z ∈ locs, free z.base) (hc : cells ≤ mc) (hs : slots ≤ ms) :
    vx_W p l e R s m args below meth c H locs cells slots (vx_MQ below Qc XC args s mc ms free) (F0 m pc ls rest) q := by
  intro T hT X
  have hpl : e.platform.magicAccessors = ({} : Platform).magicAccessors := by rw [X.admits.platform]
  obtain ⟨vm', hW', X', st⟩ := X.outThrough hlocks q (g := F0 m pc ls rest) rfl rfl rfl (cell := ce) (by rw [hT]; exact hcell) (by rw [hv]; rfl)
    (by obtain ⟨k9, h9, -⟩ := Vm.findClass_spec hcl; exact ⟨k9, h9⟩) (fun z hz => by
      rcases hpass z hz with h | ⟨hz0, nm, hl1, hn1⟩
      · exact Or.inl h
      · obtain ⟨c6, hc6, hcl6⟩ := Cond.classLink_spec hown hl1 e.platform hpl
        obtain ⟨a8, b8, h1, h2, h3⟩ := hn1
        cases Option.some.inj (h1.symm.trans hcl)
        cases Option.some.inj (h2.symm.trans hc6)
        exact Or.inr ⟨hz0, _, hcl6, h3⟩)
  obtain ⟨g₀, hfr⟩ := X'.frames_eq
  have hcell9 : ((T.setVm vm').setFrames (.throwing q :: below)).heap[q]? = some ce := by
    show T.heap[q]? = some ce
    rw [hT]; exact hcell
  have hend : Ended ((T.setVm vm').setFrames (.throwing q :: below)) below (.threw q) := State.frames_setFrames _ (State.cur_lt_of_frames hfr)
  refine ⟨(T.setVm vm').setFrames (.throwing q :: below), ?_, .threw q, X'.here.running, hend, Or.inr ⟨q, rfl, E, ce, locs, hx _ hT (X'.ends _).1.alike, hcell9, hv, hcl, (X'.ends _).1, (X'.ends _).2.mono hc hs, hf⟩⟩
  rw [X.pushThrowing_eq]
  exact st
/-- a thing of a world lies in the heap -/
theorem vx_lt {D : va_G} {cl : List vw_C} {ws : va_W} {H1 : Heap} (h : va_P D cl ws H1) {k : Nat} {q : Nat × va_E} (hk : ws[k]? = some q) : q.1 < H1.size := (h k q hk).lt
end VXS
/-! ===== END ===== -/
/-! ===== BEGIN methods with a table of their own: called by a name, returning or throwing ===== -/
section VXH
/-! vx_backW, vx_callVX, vx_callSX, vx_callVW, vx_runVW, vx_runVX, vx_runSX, vx_ofWH follow the same proofs as their sisters above (Free/Laws.lean, Shelf42/LK1.lean); vx_outP calls Shelf42/NT130.lean (outThrough). -/
section
variable {l : Launch} {R : Room} {p : Program} {e : Env} {below : List Frame} {s : State} {sargs : Array Value} {y : MethodName} {len W9 : Nat}
theorem vx_backW {ws : List Cond} {rm : Room} {Pc : Array Value → State → Prop} {Qc : Array Value → State → Outcome → State → Prop} {XC : String → State → State → Prop} {mc ms : Nat} {free : Addr → Prop} {bytes : ByteArray} {maxL : Nat} {ret : Option FieldType} {hh : List (Nat × Nat × Nat × Nat)}
    (hM : vx_Met l y ws rm Pc Qc XC mc ms free) (hblind : FrameBlind Pc) (hrc : rm.cells = mc) (hrs : rm.slots = ms)
    (hframes : rm.frames + 1 ≤ R.frames) (hlocals : W9 + (maxL + 11) + rm.locals ≤ R.locals)
    (hws : ∀ w ∈ ws, ∀ a' U, s.WarmedH U.vm → w.before a' U = true) (hcode : Cond.codeWith y bytes maxL ret hh ∈ ws) (hinit : ∀ a' U, s.WarmedH U.vm → (Cond.initialized y.cls).before a' U = true) :
    vx_Back l R p e below s sargs y len W9 (PreOf R mc ms Pc) (PostOf Qc mc ms free) (vx_Post XC mc ms free) := by
  intro m meth c A g ig mk a X hg hsize hdg hW hn hp
  have h1 : (headSpec ws rm).pre.before a A.U = true := atoms_intro fun w hw => hws w hw _ _ X.warmed
  have h2 : (Cond.codeWith y bytes maxL ret hh).before a A.U = true := hws _ hcode _ _ X.warmed
  have h3 : (Cond.initialized y.cls).before a A.U = true := hinit _ _ X.warmed
  have h4 : A.cells + (headSpec ws rm).room.cells ≤ R.cells := by rw [show (headSpec ws rm).room.cells = mc from hrc]; exact hp.1
  have h5 : A.slots + (headSpec ws rm).room.slots ≤ R.slots := by rw [show (headSpec ws rm).room.slots = ms from hrs]; exact hp.2.1
  have hPc : Pc a (A.U.calling g mk a) := hblind _ _ _ _ hp.2.2
  obtain ⟨U, Ls, c0, s0⟩ := A
  dsimp only [Pt.U, Pt.locs, Pt.cells, Pt.slots] at h1 h2 h3 h4 h5 X hn hPc ⊢
  obtain ⟨m9, methY, cY, hn9, hmY, hcY, -, hlY, -⟩ := Cond.codeWith_spec h2
  cases Option.some.inj (hn9.symm.trans hn)
  obtain ⟨kY, hkY, -⟩ := className_of_methodNamed hn
  have hinitY : kY.init = .initialized := Cond.initialized_spec (findClass_of_methodNamed hn) hkY h3
  have h : At U g.method c below := by rw [hg]; exact X.here
  have hlocals9 : W9 + (maxL + 11) + (headSpec ws rm).room.locals ≤ R.locals := hlocals
  have happ : (headSpec ws rm).appliesLoose y e.platform (U.calling g mk a) = true :=
    Spec.appliesLoose_calling (g := g) h hdg hn hkY hinitY
      (X.room_calling (g := g) (R' := (headSpec ws rm).room) hsize hmY hcY hframes (by rw [hlY]; omega) h4 h5) h1
  obtain ⟨mid, hmid⟩ := h.above
  have hfr : (U.setTop g).frames = (.java g :: mid) ++ below := by rw [State.frames_setTop' g h.top, hmid]; rfl
  obtain ⟨o, s₂, hsteps, -, hend, hq⟩ := Steps.callFree hM p X.admits X.cas X.clock (acts := []) hfr happ hPc trivial
  have hq' : vx_Q Qc XC mc ms free a (U.calling g mk a) o s₂ := hq
  rw [State.frames_setTop' g h.top] at hend
  obtain ⟨g₀, hg0⟩ := Option.isSome_iff_exists.mp h.top
  obtain ⟨r, hr⟩ := State.topJava?_eq_some.mp hg0
  have hr' : (({ U with heap := s₂.heap, slotsUsed := s₂.slotsUsed } : State).setVm s₂.vm).frames = .java g₀ :: r := hr
  rcases hq' with ⟨hqc, L, hfe, hL⟩ | ⟨q, rfl, E, ce, L, hx, hce, hcv, hcl, hW₂, hsm, hL⟩
  · obtain ⟨⟨v, rfl⟩, hW₂, e2, q2, q3, q4, q5, q6⟩ := id hfe
    have e3 : s₂ = ({ (U.calling g mk a).setFrames s₂.frames with heap := s₂.heap, slotsUsed := s₂.slotsUsed } : State).setVm s₂.vm := by
      have : s₂ = ({ s₂ with vm := (U.calling g mk a).vm } : State).setVm s₂.vm := rfl
      rw [e2] at this
      exact this
    obtain ⟨c₂, i₂, len₂, hc₂, hd₂, hf₂⟩ := hend
    have hW' : U.WarmedH s₂.vm := hW₂
    have hcc : c₂ = c := by
      have h1 : s₂.code? g.method = U.code? g.method := by
        rw [State.code?_eq, State.code?_eq, hW'.alike.method?]
      exact Option.some.inj (hc₂.symm.trans (h1.trans h.code))
    subst hcc
    have hlen : len₂ = len := by rw [hdg] at hd₂; cases hd₂; rfl
    subst hlen
    have hs₂ : s₂ = (({ U with heap := s₂.heap, slotsUsed := s₂.slotsUsed } : State).setVm s₂.vm).setTop { g with pc := g.pc + len₂, stack := v.toList ++ g.stack } := by
      refine e3.trans ?_
      rw [hf₂, State.calling_eq h.top, State.setFrames_setFrames, State.setTop_of_frames _ hr', hr]
      rfl
    have hsame : U.sameButNew ({ U with heap := s₂.heap, slotsUsed := s₂.slotsUsed } : State) L mc ms := by
      refine ⟨?_, q2, q3, q4, q5, q6⟩
      obtain ⟨t, ht, -⟩ := State.frames_cons hr
      show ({ U with heap := s₂.heap, slotsUsed := s₂.slotsUsed } : State) = { U.setFrames U.frames with heap := s₂.heap, slotsUsed := s₂.slotsUsed }
      rw [State.setFrames_self ht]
    subst hg
    refine Or.inl ⟨v, ⟨(({ U with heap := s₂.heap, slotsUsed := s₂.slotsUsed } : State).setVm s₂.vm), Ls ++ L, c0 + mc, s0 + ms⟩,
      ⟨X.admits, X.cas, X.clock, X.frames, X.room, X.hears, X.method, X.code, (X.here.setHeapUsed s₂.heap s₂.slotsUsed).setVm hW'.alike, X.tail, State.WarmedH.trans X.warmed hW', X.limits, X.bytes, X.same.trans (hsame.setVm s.vm)⟩,
      ⟨g, mk, s₂, L, rfl, rfl, hqc, rfl, hL, rfl, rfl⟩, ?_⟩
    show Steps p.tables e below _ ((({ U with heap := s₂.heap, slotsUsed := s₂.slotsUsed } : State).setVm s₂.vm).setTop { g with pc := g.pc + len₂, stack := v.toList ++ g.stack })
    rw [← hs₂]
    exact hsteps
  · obtain ⟨e2, q2, q3, q4, q5, q6⟩ := id hsm
    have e3 : s₂ = ({ (U.calling g mk a).setFrames s₂.frames with heap := s₂.heap, slotsUsed := s₂.slotsUsed } : State).setVm s₂.vm := by
      have : s₂ = ({ s₂ with vm := (U.calling g mk a).vm } : State).setVm s₂.vm := rfl
      rw [e2] at this
      exact this
    have hf₂ : s₂.frames = .throwing q :: .java g :: U.frames.tail := hend
    have hW' : U.WarmedH s₂.vm := hW₂
    have hs₂ : s₂ = ((({ U with heap := s₂.heap, slotsUsed := s₂.slotsUsed } : State).setVm s₂.vm).setTop g).pushFrame (.throwing q) := by
      refine e3.trans ?_
      rw [hf₂, State.calling_eq h.top, State.setFrames_setFrames, State.pushFrame, State.frames_setTop _ hr', State.setTop_of_frames _ hr', State.setFrames_setFrames, hr]
      rfl
    have hsame : U.sameButNew ({ U with heap := s₂.heap, slotsUsed := s₂.slotsUsed } : State) L mc ms := by
      refine ⟨?_, q2, q3, q4, q5, q6⟩
      obtain ⟨t, ht, -⟩ := State.frames_cons hr
      show ({ U with heap := s₂.heap, slotsUsed := s₂.slotsUsed } : State) = { U.setFrames U.frames with heap := s₂.heap, slotsUsed := s₂.slotsUsed }
      rw [State.setFrames_self ht]
    subst hg
    refine Or.inr ⟨q, ⟨(({ U with heap := s₂.heap, slotsUsed := s₂.slotsUsed } : State).setVm s₂.vm), Ls ++ L, c0 + mc, s0 + ms⟩,
      ⟨X.admits, X.cas, X.clock, X.frames, X.room, X.hears, X.method, X.code, (X.here.setHeapUsed s₂.heap s₂.slotsUsed).setVm hW'.alike, X.tail, State.WarmedH.trans X.warmed hW', X.limits, X.bytes, X.same.trans (hsame.setVm s.vm)⟩,
      ⟨g, mk, s₂, L, E, ce, rfl, rfl, hx, hce, hcv, hcl, rfl, hL, rfl, rfl⟩, ?_⟩
    show Steps p.tables e below _ (((({ U with heap := s₂.heap, slotsUsed := s₂.slotsUsed } : State).setVm s₂.vm).setTop g).pushFrame (.throwing q))
    rw [← hs₂]
    exact hsteps
end
variable {p : Program} {l : Launch} {e : Env} {R : Room} {s : State} {m : MethodId} {args : Array Value} {below : List Frame} {meth : Method} {c : Code} {T : State} {H : Heap} {locs : List Loc} {cells slots : Nat}
theorem vx_callVX (X : Stand p l e R s m args below meth c T locs cells slots) (hexec : p.tables.exec = Jvm.exec) {own C : String} {index : Nat} {y : MethodName} {bytes : ByteArray} {maxL : Nat} {ret : Option FieldType} {hh : List (Nat × Nat × Nat × Nat)}
    (hown : s.vm.findClass own = some m.cls) (hlink : (Cond.methodLink own index y).before args s = true) (hinst : (Cond.instanceMethod y).before args s = true) (hsel : (Cond.selects C y y).before args s = true)
    (hcode : (Cond.codeWith y bytes maxL ret hh).before args s = true) (hy : y.cls ≠ "java/lang/invoke/MethodHandle" ∧ y.cls ≠ "java/lang/invoke/VarHandle")
    {W9 : Nat} {Pre : Pt → Array Value → Prop} {Post : Pt → Array Value → Option Value → Pt → Prop} {PostX : Pt → Array Value → Addr → Pt → Prop} (hK : vx_Back l R p e below s args y 3 W9 Pre Post PostX)
    {b : Addr} {cellB : Cell} (hcell : T.heap[b]? = some cellB) (hobj : cellB.vm.isStatics = false) (hcls : s.vm.findClass C = some cellB.cls)
    {g : JFrame} (hg : g.method = m) (hsize : g.locals.size = c.maxLocals) {argsL rest : List Value} (hlen : ∀ sig, parseMethodDescriptor y.desc = some sig → argsL.length = sig.parameters.length)
    (hstack : g.stack = argsL.reverse ++ .ref b :: rest) (hW : 2 * g.monitorRoom + (rest.map fun v => v.category).sum ≤ W9) (hdg : decode c.code g.pc = .ok (.invokevirtual index, 3))
    (hpre : ∀ vm₁, s.WarmedH vm₁ → Pre ⟨T.setVm vm₁, locs, cells, slots⟩ (Value.ref b :: argsL).toArray) :
    (∃ (v : Option Value) (vm₁ : Vm) (B : Pt), s.WarmedH vm₁ ∧ Stand p l e R s m args below meth c B.U B.locs B.cells B.slots ∧ Post ⟨T.setVm vm₁, locs, cells, slots⟩ (Value.ref b :: argsL).toArray v B ∧
      ∀ target, Steps p.tables e below (B.U.setTop { g with pc := g.pc + 3, stack := v.toList ++ rest }) target → Steps p.tables e below (T.setTop g) target) ∨
    (∃ (q : Addr) (vm₁ : Vm) (B : Pt), s.WarmedH vm₁ ∧ Stand p l e R s m args below meth c B.U B.locs B.cells B.slots ∧ PostX ⟨T.setVm vm₁, locs, cells, slots⟩ (Value.ref b :: argsL).toArray q B ∧
      Steps p.tables e below (T.setTop g) ((B.U.setTop { g with stack := rest }).pushFrame (.throwing q))) := by
  obtain ⟨mk, methM, hnamed, hmethM, hstM, habM⟩ := Cond.instanceMethod_spec hinst
  obtain ⟨m8, methM', cM, hn8, hmethM', -, -, -, -, -, -, hsigM⟩ := Cond.codeWith_spec hcode
  cases Option.some.inj (hn8.symm.trans hnamed)
  cases hmethM.symm.trans hmethM'
  obtain ⟨c2, r2, m2, q1, q2, q3, q4, kP, hkP, hkPi⟩ := Cond.selects_spec hsel
  cases hcls.symm.trans q1
  cases (State.methodFound?_of_named hnamed hy).symm.trans q2
  cases hnamed.symm.trans q3
  have hselP : selectMethod e.platform s.vm cellB.cls mk = .method mk := by rw [Launch.admits_selectMethod X.admits]; exact q4
  obtain ⟨vm₁, X₁, hstep₁⟩ := X.invokevirtual hexec hown hlink hnamed hmethM hstM hkP hkPi hy (a := b) (cell := cellB) hcell
    (fun z h => by rw [h] at hobj; cases hobj) hselP hmethM habM hkP hkPi (g := g) hg (argsL := argsL) (rest := rest) (hlen _ hsigM) hstack hdg
  rcases hK m meth c ⟨T.setVm vm₁, locs, cells, slots⟩ { g with stack := rest } (.invokevirtual index) mk (Value.ref b :: argsL).toArray X₁ hg hsize hdg hW (X₁.named hnamed) (hpre vm₁ X₁.warmed) with ⟨v, B, X', hpost, hsteps⟩ | ⟨q, B, X', hpost, hsteps⟩
  · exact Or.inl ⟨v, vm₁, B, X₁.warmed, X', hpost, fun target h => hstep₁ _ fun acts => by rw [doInvoke_state]; exact hsteps.trans h⟩
  · exact Or.inr ⟨q, vm₁, B, X₁.warmed, X', hpost, hstep₁ _ fun acts => by rw [doInvoke_state]; exact hsteps⟩
theorem vx_callSX (X : Stand p l e R s m args below meth c T locs cells slots) (hexec : p.tables.exec = Jvm.exec) {own : String} {index : Nat} {y : MethodName} {bytes : ByteArray} {maxL : Nat} {ret : Option FieldType} {hh : List (Nat × Nat × Nat × Nat)}
    (hown : s.vm.findClass own = some m.cls) (hlink : (Cond.methodLink own index y).before args s = true) (hstat : (Cond.static y).before args s = true) (hinit : (Cond.initialized y.cls).before args s = true)
    (hcode : (Cond.codeWith y bytes maxL ret hh).before args s = true) (hy : y.cls ≠ "java/lang/invoke/MethodHandle" ∧ y.cls ≠ "java/lang/invoke/VarHandle")
    {W9 : Nat} {Pre : Pt → Array Value → Prop} {Post : Pt → Array Value → Option Value → Pt → Prop} {PostX : Pt → Array Value → Addr → Pt → Prop} (hK : vx_Back l R p e below s args y 3 W9 Pre Post PostX)
    {g : JFrame} (hg : g.method = m) (hsize : g.locals.size = c.maxLocals) {argsL rest : List Value} (hlen : ∀ sig, parseMethodDescriptor y.desc = some sig → argsL.length = sig.parameters.length)
    (hstack : g.stack = argsL.reverse ++ rest) (hW : 2 * g.monitorRoom + (rest.map fun v => v.category).sum ≤ W9) (hdg : decode c.code g.pc = .ok (.invokestatic index, 3))
    (hpre : ∀ vm₁, s.WarmedH vm₁ → Pre ⟨T.setVm vm₁, locs, cells, slots⟩ argsL.toArray) :
    (∃ (v : Option Value) (vm₁ : Vm) (B : Pt), s.WarmedH vm₁ ∧ Stand p l e R s m args below meth c B.U B.locs B.cells B.slots ∧ Post ⟨T.setVm vm₁, locs, cells, slots⟩ argsL.toArray v B ∧
      ∀ target, Steps p.tables e below (B.U.setTop { g with pc := g.pc + 3, stack := v.toList ++ rest }) target → Steps p.tables e below (T.setTop g) target) ∨
    (∃ (q : Addr) (vm₁ : Vm) (B : Pt), s.WarmedH vm₁ ∧ Stand p l e R s m args below meth c B.U B.locs B.cells B.slots ∧ PostX ⟨T.setVm vm₁, locs, cells, slots⟩ argsL.toArray q B ∧
      Steps p.tables e below (T.setTop g) ((B.U.setTop { g with stack := rest }).pushFrame (.throwing q))) := by
  obtain ⟨mk, methM, cM, hnamed, hmethM, -, -, -, -, -, -, hsigM⟩ := Cond.codeWith_spec hcode
  have hstatic : methM.isStatic = true := Cond.static_spec hnamed hmethM hstat
  obtain ⟨kP, hkP, -⟩ := className_of_methodNamed hnamed
  have hinitP : kP.init = .initialized := Cond.initialized_spec (findClass_of_methodNamed hnamed) hkP hinit
  obtain ⟨vm₁, X₁, hstep₁⟩ := X.invokestatic hexec hown hlink hnamed hmethM hstatic hkP hinitP hy (g := g) hg (argsL := argsL) (rest := rest) (hlen _ hsigM) hstack hdg
  rcases hK m meth c ⟨T.setVm vm₁, locs, cells, slots⟩ { g with stack := rest } (.invokestatic index) mk argsL.toArray X₁ hg hsize hdg hW (X₁.named hnamed) (hpre vm₁ X₁.warmed) with ⟨v, B, X', hpost, hsteps⟩ | ⟨q, B, X', hpost, hsteps⟩
  · exact Or.inl ⟨v, vm₁, B, X₁.warmed, X', hpost, fun target h => hstep₁ _ fun acts => by rw [doInvoke_state]; exact hsteps.trans h⟩
  · exact Or.inr ⟨q, vm₁, B, X₁.warmed, X', hpost, hstep₁ _ fun acts => by rw [doInvoke_state]; exact hsteps⟩
theorem vx_callVW (X : Stand p l e R s m args below meth c T locs cells slots) (hexec : p.tables.exec = Jvm.exec) {own C : String} {index : Nat} {y : MethodName} {bytes : ByteArray} {maxL : Nat} {ret : Option FieldType} {hh : List (Nat × Nat × Nat × Nat)}
    (hown : s.vm.findClass own = some m.cls) (hlink : (Cond.methodLink own index y).before args s = true) (hinst : (Cond.instanceMethod y).before args s = true) (hsel : (Cond.selects C y y).before args s = true)
    (hcode : (Cond.codeWith y bytes maxL ret hh).before args s = true) (hy : y.cls ≠ "java/lang/invoke/MethodHandle" ∧ y.cls ≠ "java/lang/invoke/VarHandle")
    {W9 : Nat} {Pre : Pt → Array Value → Prop} {Post : Pt → Array Value → Option Value → Pt → Prop} (hK : Back l R p e below s args y 3 W9 Pre Post)
    {b : Addr} {cellB : Cell} (hcell : T.heap[b]? = some cellB) (hobj : cellB.vm.isStatics = false) (hcls : s.vm.findClass C = some cellB.cls)
    {g : JFrame} (hg : g.method = m) (hsize : g.locals.size = c.maxLocals) {argsL rest : List Value} (hlen : ∀ sig, parseMethodDescriptor y.desc = some sig → argsL.length = sig.parameters.length)
    (hstack : g.stack = argsL.reverse ++ .ref b :: rest) (hW : 2 * g.monitorRoom + (rest.map fun v => v.category).sum ≤ W9) (hdg : decode c.code g.pc = .ok (.invokevirtual index, 3))
    (hpre : ∀ vm₁, s.WarmedH vm₁ → Pre ⟨T.setVm vm₁, locs, cells, slots⟩ (Value.ref b :: argsL).toArray) :
    ∃ (v : Option Value) (vm₁ : Vm) (B : Pt), s.WarmedH vm₁ ∧ Stand p l e R s m args below meth c B.U B.locs B.cells B.slots ∧ Post ⟨T.setVm vm₁, locs, cells, slots⟩ (Value.ref b :: argsL).toArray v B ∧
      ∀ target, Steps p.tables e below (B.U.setTop { g with pc := g.pc + 3, stack := v.toList ++ rest }) target → Steps p.tables e below (T.setTop g) target := by
  obtain ⟨mk, methM, hnamed, hmethM, hstM, habM⟩ := Cond.instanceMethod_spec hinst
  obtain ⟨m8, methM', cM, hn8, hmethM', -, -, -, -, -, -, hsigM⟩ := Cond.codeWith_spec hcode
  cases Option.some.inj (hn8.symm.trans hnamed)
  cases hmethM.symm.trans hmethM'
  obtain ⟨c2, r2, m2, q1, q2, q3, q4, kP, hkP, hkPi⟩ := Cond.selects_spec hsel
  cases hcls.symm.trans q1
  cases (State.methodFound?_of_named hnamed hy).symm.trans q2
  cases hnamed.symm.trans q3
  have hselP : selectMethod e.platform s.vm cellB.cls mk = .method mk := by rw [Launch.admits_selectMethod X.admits]; exact q4
  obtain ⟨vm₁, X₁, hstep₁⟩ := X.invokevirtual hexec hown hlink hnamed hmethM hstM hkP hkPi hy (a := b) (cell := cellB) hcell
    (fun z h => by rw [h] at hobj; cases hobj) hselP hmethM habM hkP hkPi (g := g) hg (argsL := argsL) (rest := rest) (hlen _ hsigM) hstack hdg
  obtain ⟨v, B, X', hpost, hsteps⟩ := hK m meth c ⟨T.setVm vm₁, locs, cells, slots⟩ { g with stack := rest } (.invokevirtual index) mk (Value.ref b :: argsL).toArray X₁ hg hsize hdg hW (X₁.named hnamed) (hpre vm₁ X₁.warmed)
  exact ⟨v, vm₁, B, X₁.warmed, X', hpost, fun target h => hstep₁ _ fun acts => by rw [doInvoke_state]; exact hsteps.trans h⟩
abbrev vx_CVW (R : Room) (s : State) (args : Array Value) (own C : String) (index : Nat) (y : MethodName) (bytes : ByteArray) (maxL : Nat) (ret : Option FieldType) (hh : List (Nat × Nat × Nat × Nat)) (ws : List Cond) (rm : Room) (mc ms n : Nat) : Prop :=
  (rm.cells = mc ∧ rm.slots = ms ∧ rm.frames + 1 ≤ R.frames ∧ 8 + (maxL + 11) + rm.locals ≤ R.locals ∧ (∀ w ∈ ws, ∀ (a' : Array Value) (U : State), s.WarmedH U.vm → w.before a' U = true) ∧ Cond.codeWith y bytes maxL ret hh ∈ ws) ∧
  (Cond.codeWith y bytes maxL ret hh).before args s = true ∧ (Cond.initialized y.cls).before args s = true ∧ (y.cls ≠ "java/lang/invoke/MethodHandle" ∧ y.cls ≠ "java/lang/invoke/VarHandle") ∧
  (∀ sig, parseMethodDescriptor y.desc = some sig → n = sig.parameters.length) ∧ (Cond.methodLink own index y).before args s = true ∧ (Cond.instanceMethod y).before args s = true ∧ (Cond.selects C y y).before args s = true
theorem vx_cwVW {own C : String} {index maxL mc ms : Nat} {y : MethodName} {bytes : ByteArray} {ret : Option FieldType} {hh : List (Nat × Nat × Nat × Nat)} {Ts ws ws' : List Cond} {rm : Room} (n : Nat) (ht : ∀ w ∈ Ts, w.before args s = true) (hT : GoodIn Ts (wsV own index C y ws)) (hw : ws = Cond.codeWith y bytes maxL ret hh :: ws') (hrc : rm.cells = mc) (hrs : rm.slots = ms)
    (hd : y.cls = C ∧ y.cls ≠ "java/lang/invoke/MethodHandle" ∧ y.cls ≠ "java/lang/invoke/VarHandle" ∧ (parseMethodDescriptor y.desc).map (fun d => d.parameters.length) = some n) (hR : rm.frames + 1 ≤ R.frames ∧ 8 + (maxL + 11) + rm.locals ≤ R.locals) :
    vx_CVW R s args own C index y bytes maxL ret hh ws rm mc ms n := by
  obtain ⟨hC, hd⟩ := hd
  subst hC
  have ok : ∀ w ∈ wsV own index y.cls y ws, w.before args s = true := fun w h => ht w (hT w h).1
  have hG : GoodIn Ts ws := fun w h => hT w (by unfold wsV; exact List.mem_append_right _ h)
  have hc : Cond.codeWith y bytes maxL ret hh ∈ ws := by rw [hw]; exact List.mem_cons_self
  refine ⟨⟨hrc, hrs, hR.1, hR.2, pay_in ht hG, hc⟩, ht _ (hG _ hc).1, ok _ (by simp [wsV]), ⟨hd.1, hd.2.1⟩, fun sig h => ?_, ok _ (by simp [wsV]), ok _ (by simp [wsV]), ok _ (by simp [wsV])⟩
  have h2 := hd.2.2
  rw [h] at h2
  exact (Option.some.inj h2).symm
theorem vx_runVW {y : MethodName} {bytes cc : ByteArray} {maxL nL mc ms n index : Nat} {ret : Option FieldType} {hh : List (Nat × Nat × Nat × Nat)} {ws : List Cond} {rm : Room} {Pc : Array Value → State → Prop} {Qc : Array Value → State → Outcome → State → Prop} {free : Addr → Prop} {Ts : List Cond} {own C : String} {b : Addr} {As rest : List Value} {g : JFrame}
    (S : CallFix p m c cc nL s args Ts own) (hM : Met l y ws rm Pc Qc mc ms free) (cw : vx_CVW R s args own C index y bytes maxL ret hh ws rm mc ms n) (hp : PreV s H C b Pc As)
    (hg : g.method = m) (hn : As.length = n) (hsize : g.locals.size = nL) (hstack : g.stack = As.reverse ++ .ref b :: rest) (hW : 2 * g.monitorRoom + (rest.map fun v => v.category).sum ≤ 8) (hdg : decode cc g.pc = .ok (.invokevirtual index, 3)) (hf : cells + mc ≤ R.cells ∧ slots + ms ≤ R.slots) :
    va_Run p l e R s m args below meth c H locs cells slots mc ms g rest (Qc (Value.ref b :: As).toArray) free := by
  obtain ⟨⟨hrc, hrs, hfr, hlo, hws, hcw⟩, hcode, hini, hy, hlen, hl, hin, hse⟩ := cw
  have hK : Back l R p e below s args y 3 8 (PreOf R mc ms Pc) (PostOf Qc mc ms free) := va_backW (hh := hh) (bytes := bytes) (maxL := maxL) (ret := ret) hM hp.1 hrc hrs hfr hlo hws hcw (fun a' U hW => word_at hW (Or.inl (by first | rfl | simp [Cond.onTables, Cond.keeps, Cond.steady])) hini)
  obtain ⟨hx, hb, hml, ho, -⟩ := S
  obtain ⟨-, ⟨cellB, hcB, hoB, hclB⟩, hPc⟩ := hp
  intro T hT X
  obtain ⟨v, vm₁, ⟨U', l2, c2, s2⟩, hW₁, X', ⟨g', mk, t, L, e1, e2, hq, h1, hL, h2, h3⟩, st⟩ := vx_callVW X hx (C := C) (hh := hh) (bytes := bytes) (maxL := maxL) (ret := ret) ho hl hin hse hcode hy hK (by rw [hT]; exact hcB) hoB hclB hg (hsize.trans hml.symm) (argsL := As) (rest := rest) (fun sig h => hn.trans (hlen sig h)) hstack hW (by rw [hb]; exact hdg)
    (fun vm₁ hW₁ => ⟨hf.1, hf.2, hPc (T.setVm vm₁) hT hW₁⟩)
  dsimp only [Pt.U, Pt.locs, Pt.cells, Pt.slots] at X' e1 e2 h1 h2 h3 st
  subst h1; subst h2; subst h3
  exact ⟨v, (T.setVm vm₁).calling g' mk (Value.ref b :: As).toArray, t, U', L, hT, X', hL, e1, e2, hq, st⟩
section
variable {y : MethodName} {bytes cc : ByteArray} {maxL nL mc ms n index : Nat} {ret : Option FieldType} {ws : List Cond} {rm : Room} {Pc : Array Value → State → Prop} {Qc : Array Value → State → Outcome → State → Prop} {XC : String → State → State → Prop} {free : Addr → Prop} {Ts : List Cond} {own C : String} {b : Addr} {As rest : List Value} {g : JFrame}
theorem vx_runVX {hh : List (Nat × Nat × Nat × Nat)} (S : CallFix p m c cc nL s args Ts own) (hM : vx_Met l y ws rm Pc Qc XC mc ms free) (cw : vx_CVW R s args own C index y bytes maxL ret hh ws rm mc ms n) (hp : PreV s H C b Pc As)
    (hg : g.method = m) (hn : As.length = n) (hsize : g.locals.size = nL) (hstack : g.stack = As.reverse ++ .ref b :: rest) (hW : 2 * g.monitorRoom + (rest.map fun v => v.category).sum ≤ 8) (hdg : decode cc g.pc = .ok (.invokevirtual index, 3)) (hf : cells + mc ≤ R.cells ∧ slots + ms ≤ R.slots) :
    vx_Run p l e R s m args below meth c H locs cells slots mc ms g rest (Qc (Value.ref b :: As).toArray) XC free := by
  obtain ⟨⟨hrc, hrs, hfr, hlo, hws, hcw⟩, hcode, hini, hy, hlen, hl, hin, hse⟩ := cw
  have hK : vx_Back l R p e below s args y 3 8 (PreOf R mc ms Pc) (PostOf Qc mc ms free) (vx_Post XC mc ms free) := vx_backW (hh := hh) (bytes := bytes) (maxL := maxL) (ret := ret) hM hp.1 hrc hrs hfr hlo hws hcw (fun a' U hW => word_at hW (Or.inl (by first | rfl | simp [Cond.onTables, Cond.keeps, Cond.steady])) hini)
  obtain ⟨hx, hb, hml, ho, -⟩ := S
  obtain ⟨-, ⟨cellB, hcB, hoB, hclB⟩, hPc⟩ := hp
  intro T hT X
  rcases vx_callVX X hx (C := C) (hh := hh) (bytes := bytes) (maxL := maxL) (ret := ret) ho hl hin hse hcode hy hK (by rw [hT]; exact hcB) hoB hclB hg (hsize.trans hml.symm) (argsL := As) (rest := rest) (fun sig h => hn.trans (hlen sig h)) hstack hW (by rw [hb]; exact hdg)
    (fun vm₁ hW₁ => ⟨hf.1, hf.2, hPc (T.setVm vm₁) hT hW₁⟩) with ⟨v, vm₁, ⟨U', l2, c2, s2⟩, hW₁, X', ⟨g', mk, t, L, e1, e2, hq, h1, hL, h2, h3⟩, st⟩ | ⟨q, vm₁, ⟨U', l2, c2, s2⟩, hW₁, X', ⟨g', mk, t, L, E, ce, e1, e2, hq, hce, hcv, hcl, h1, hL, h2, h3⟩, st⟩
  · dsimp only [Pt.U, Pt.locs, Pt.cells, Pt.slots] at X' e1 e2 h1 h2 h3 st
    subst h1; subst h2; subst h3
    exact Or.inl ⟨v, (T.setVm vm₁).calling g' mk (Value.ref b :: As).toArray, t, U', L, hT, X', hL, e1, e2, hq, st⟩
  · dsimp only [Pt.U, Pt.locs, Pt.cells, Pt.slots] at X' e1 e2 h1 h2 h3 st hcl
    subst h1; subst h2; subst h3
    exact Or.inr ⟨q, (T.setVm vm₁).calling g' mk (Value.ref b :: As).toArray, t, U', L, E, ce, hT, X', hL, e1, e2, hq, hce, hcv, vx_cls hW₁ hcl, st⟩
theorem vx_runSX {hh : List (Nat × Nat × Nat × Nat)} (S : CallFix p m c cc nL s args Ts own) (hM : vx_Met l y ws rm Pc Qc XC mc ms free) (cw : vx_CSW R s args own index y bytes maxL ret hh ws rm mc ms n) (hp : PreS s H Pc As)
    (hg : g.method = m) (hn : As.length = n) (hsize : g.locals.size = nL) (hstack : g.stack = As.reverse ++ rest) (hW : 2 * g.monitorRoom + (rest.map fun v => v.category).sum ≤ 8) (hdg : decode cc g.pc = .ok (.invokestatic index, 3)) (hf : cells + mc ≤ R.cells ∧ slots + ms ≤ R.slots) :
    vx_Run p l e R s m args below meth c H locs cells slots mc ms g rest (Qc As.toArray) XC free := by
  obtain ⟨⟨hrc, hrs, hfr, hlo, hws, hcw⟩, hcode, hini, hy, hlen, hl, hstt⟩ := cw
  have hK : vx_Back l R p e below s args y 3 8 (PreOf R mc ms Pc) (PostOf Qc mc ms free) (vx_Post XC mc ms free) := vx_backW (hh := hh) (bytes := bytes) (maxL := maxL) (ret := ret) hM hp.1 hrc hrs hfr hlo hws hcw (fun a' U hW => word_at hW (Or.inl (by first | rfl | simp [Cond.onTables, Cond.keeps, Cond.steady])) hini)
  obtain ⟨hx, hb, hml, ho, -⟩ := S
  intro T hT X
  rcases vx_callSX X hx (hh := hh) (bytes := bytes) (maxL := maxL) (ret := ret) ho hl hstt hini hcode hy hK hg (hsize.trans hml.symm) (argsL := As) (rest := rest) (fun sig h => hn.trans (hlen sig h)) hstack hW (by rw [hb]; exact hdg)
    (fun vm₁ hW₁ => ⟨hf.1, hf.2, hp.2 (T.setVm vm₁) hT hW₁⟩) with ⟨v, vm₁, ⟨U', l2, c2, s2⟩, hW₁, X', ⟨g', mk, t, L, e1, e2, hq, h1, hL, h2, h3⟩, st⟩ | ⟨q, vm₁, ⟨U', l2, c2, s2⟩, hW₁, X', ⟨g', mk, t, L, E, ce, e1, e2, hq, hce, hcv, hcl, h1, hL, h2, h3⟩, st⟩
  · dsimp only [Pt.U, Pt.locs, Pt.cells, Pt.slots] at X' e1 e2 h1 h2 h3 st
    subst h1; subst h2; subst h3
    exact Or.inl ⟨v, (T.setVm vm₁).calling g' mk As.toArray, t, U', L, hT, X', hL, e1, e2, hq, st⟩
  · dsimp only [Pt.U, Pt.locs, Pt.cells, Pt.slots] at X' e1 e2 h1 h2 h3 st hcl
    subst h1; subst h2; subst h3
    exact Or.inr ⟨q, (T.setVm vm₁).calling g' mk As.toArray, t, U', L, E, ce, hT, X', hL, e1, e2, hq, hce, hcv, vx_cls hW₁ hcl, st⟩
end
end VXH
theorem vx_ofWH {l : Launch} {y : MethodName} {ws ws' : List Cond} {rm : Room} {Pc : Array Value → State → Prop} {Qc : Array Value → State → Outcome → State → Prop} {XC : String → State → State → Prop} {mc ms : Nat} {free : Addr → Prop} {cc : ByteArray} {maxL : Nat} {ret : Option FieldType} {hh : List (Nat × Nat × Nat × Nat)}
    (hy : plainName y.cls = true) (hw : ws = Cond.codeWith y cc maxL ret hh :: ws')
    (body : ∀ p e s m args below meth c s₁, BodyLoose p l y (headSpec ws rm) cc maxL ret e s m args below meth c s₁ → c.maxLocals = maxL → Pc args s →
      W p l e (headSpec ws rm).room s m args below meth c s.heap [] 0 0 (vx_MQ below Qc XC args s mc ms free) (entryFrame m args maxL)) : vx_Met l y ws rm Pc Qc XC mc ms free := by
  refine MetFree.of_bodyS (code := cc) (maxLocals := maxL) (ret := ret) hy ?_ ?_
  · intro args s m h hn
    obtain ⟨m9, meth, c, hn9, h1, h2, h3, h4, -, h5, h6, -⟩ := Cond.codeWith_spec (atoms_spec (ws := ws) h _ (by rw [hw]; exact List.mem_cons_self))
    cases hn.symm.trans hn9
    exact ⟨meth, c, h1, h2, h3, h4, h5, h6⟩
  · intro p e s m args below meth c s₁ B hml hP _
    have hh0 : s₁.heap = s.heap := by rw [B.state]; rfl
    obtain ⟨t, a1, o, b1, b2, b3⟩ := body p e s m args below meth c s₁ B hml hP s₁ hh0 (Stand.of_body B)
    exact ⟨t, o, a1, b1, b2, b3⟩
/-! ===== END ===== -/
end
section

/-! ===== BEGIN printed: names, fields, word lists, decode rows ===== -/
def RX0 : String := "TaperOffice$Household"
def TX0 : u_T := fun k => match k with
  | 0 => ("TaperOffice$Household", "values", "[[I", true)
  | 1 => ("TaperOffice$Household", "since", "[[I", true)
  | 2 => ("TaperOffice$Household", "changes", "I", false)
  | 3 => ("TaperOffice$Household", "firstMonth", "I", true)
  | 4 => ("TaperOffice$Household", "assessments", "[I", true)
  | 5 => ("TaperOffice$Household", "payments", "[I", true)
  | 6 => ("TaperOffice$Household", "debt", "I", false)
  | 7 => ("TaperOffice$Household", "takenBack", "I", false)
  | _ => ("TaperOffice$Household", "disputes", "Z", false)
def tyX0 : Nat → FieldType := fun k => match k with
  | 0 => .array (.array .int)
  | 1 => .array (.array .int)
  | 2 => .int
  | 3 => .int
  | 4 => .array .int
  | 5 => .array .int
  | 6 => .int
  | 7 => .int
  | _ => .boolean
abbrev wsX00 : List Cond := u_ws RX0 TX0 9
theorem nmX0 : ∀ a, a < 9 → ∀ b, b < 9 → a ≠ b → (TX0 a).2.1 ≠ (TX0 b).2.1 := by decide +kernel
theorem tyX0_ok : ∀ k, k < 9 → parseFieldDescriptor (TX0 k).2.2.1 = some (tyX0 k) := by decide +kernel
abbrev cX0_init : ByteArray := prog_2_method_1_code
def yX0_init : MethodName := ⟨RX0, "<init>", "(I)V"⟩
abbrev cX0_change : ByteArray := prog_2_method_2_code
def yX0_change : MethodName := ⟨RX0, "change", "(III)V"⟩
abbrev cX0_needIn : ByteArray := prog_2_method_3_code
def yX0_needIn : MethodName := ⟨RX0, "needIn", "(I)I"⟩
abbrev cX0_taperIn : ByteArray := prog_2_method_4_code
def yX0_taperIn : MethodName := ⟨RX0, "taperIn", "(I)I"⟩
abbrev cX0_tariffIn : ByteArray := prog_2_method_5_code
def yX0_tariffIn : MethodName := ⟨RX0, "tariffIn", "(I)I"⟩
abbrev cX0_dueIn : ByteArray := prog_2_method_6_code
def yX0_dueIn : MethodName := ⟨RX0, "dueIn", "(I)I"⟩
abbrev cX0_unassessedBefore : ByteArray := prog_2_method_7_code
def yX0_unassessedBefore : MethodName := ⟨RX0, "unassessedBefore", "(I)I"⟩
abbrev cX0_owedAfter : ByteArray := prog_2_method_8_code
def yX0_owedAfter : MethodName := ⟨RX0, "owedAfter", "(I)I"⟩
abbrev cX0_arrearsOf : ByteArray := prog_2_method_9_code
def yX0_arrearsOf : MethodName := ⟨RX0, "arrearsOf", "(I)I"⟩
abbrev cX0_recoverableIn : ByteArray := prog_2_method_10_code
def yX0_recoverableIn : MethodName := ⟨RX0, "recoverableIn", "(II)I"⟩
abbrev cX0_paymentIn : ByteArray := prog_2_method_11_code
def yX0_paymentIn : MethodName := ⟨RX0, "paymentIn", "(I)I"⟩
abbrev cX0_settle : ByteArray := prog_2_method_12_code
def yX0_settle : MethodName := ⟨RX0, "settle", "(I)I"⟩
abbrev cX0_lowerDebt : ByteArray := prog_2_method_13_code
def yX0_lowerDebt : MethodName := ⟨RX0, "lowerDebt", "(I)V"⟩
def RX1 : String := "TaperOffice"
def TX1 : u_T := fun k => match k with
  | 0 => ("TaperOffice", "rows", "[LTaperOffice$Household;", true)
  | 1 => ("TaperOffice", "added", "I", false)
  | _ => ("TaperOffice", "current", "I", false)
def tyX1 : Nat → FieldType := fun k => match k with
  | 0 => .array (.object "TaperOffice$Household")
  | 1 => .int
  | _ => .int
abbrev wsX10 : List Cond := u_ws RX1 TX1 3
theorem nmX1 : ∀ a, a < 3 → ∀ b, b < 3 → a ≠ b → (TX1 a).2.1 ≠ (TX1 b).2.1 := by decide +kernel
theorem tyX1_ok : ∀ k, k < 3 → parseFieldDescriptor (TX1 k).2.2.1 = some (tyX1 k) := by decide +kernel
abbrev cX1_init : ByteArray := prog_1_method_1_code
def yX1_init : MethodName := ⟨RX1, "<init>", "()V"⟩
abbrev cX1_add : ByteArray := prog_1_method_2_code
def yX1_add : MethodName := ⟨RX1, "add", "()I"⟩
abbrev cX1_tell : ByteArray := prog_1_method_3_code
def yX1_tell : MethodName := ⟨RX1, "tell", "(IIII)I"⟩
abbrev cX1_dispute : ByteArray := prog_1_method_4_code
def yX1_dispute : MethodName := ⟨RX1, "dispute", "(IZ)Z"⟩
abbrev cX1_payBack : ByteArray := prog_1_method_5_code
def yX1_payBack : MethodName := ⟨RX1, "payBack", "(II)I"⟩
abbrev cX1_households : ByteArray := prog_1_method_6_code
def yX1_households : MethodName := ⟨RX1, "households", "()I"⟩
abbrev cX1_close : ByteArray := prog_1_method_7_code
def yX1_close : MethodName := ⟨RX1, "close", "()I"⟩
abbrev cX1_month : ByteArray := prog_1_method_8_code
def yX1_month : MethodName := ⟨RX1, "month", "()I"⟩
abbrev cX1_fact : ByteArray := prog_1_method_9_code
def yX1_fact : MethodName := ⟨RX1, "fact", "(III)I"⟩
abbrev cX1_need : ByteArray := prog_1_method_10_code
def yX1_need : MethodName := ⟨RX1, "need", "(II)I"⟩
abbrev cX1_taper : ByteArray := prog_1_method_11_code
def yX1_taper : MethodName := ⟨RX1, "taper", "(II)I"⟩
abbrev cX1_tariff : ByteArray := prog_1_method_12_code
def yX1_tariff : MethodName := ⟨RX1, "tariff", "(II)I"⟩
abbrev cX1_due : ByteArray := prog_1_method_13_code
def yX1_due : MethodName := ⟨RX1, "due", "(II)I"⟩
abbrev cX1_unassessed : ByteArray := prog_1_method_14_code
def yX1_unassessed : MethodName := ⟨RX1, "unassessed", "(I)I"⟩
abbrev cX1_wouldPay : ByteArray := prog_1_method_15_code
def yX1_wouldPay : MethodName := ⟨RX1, "wouldPay", "(I)I"⟩
abbrev cX1_assessed : ByteArray := prog_1_method_16_code
def yX1_assessed : MethodName := ⟨RX1, "assessed", "(II)I"⟩
abbrev cX1_paid : ByteArray := prog_1_method_17_code
def yX1_paid : MethodName := ⟨RX1, "paid", "(II)I"⟩
abbrev cX1_debt : ByteArray := prog_1_method_18_code
def yX1_debt : MethodName := ⟨RX1, "debt", "(I)I"⟩
abbrev cX1_recovered : ByteArray := prog_1_method_19_code
def yX1_recovered : MethodName := ⟨RX1, "recovered", "(I)I"⟩
abbrev cX1_existing : ByteArray := prog_1_method_20_code
def yX1_existing : MethodName := ⟨RX1, "existing", "(I)LTaperOffice$Household;"⟩
abbrev cX1_checkMonth : ByteArray := prog_1_method_21_code
def yX1_checkMonth : MethodName := ⟨RX1, "checkMonth", "(I)V"⟩
abbrev cX1_checkFact : ByteArray := prog_1_method_22_code
def yX1_checkFact : MethodName := ⟨RX1, "checkFact", "(I)V"⟩
abbrev cX1_monthCountedFrom : ByteArray := prog_1_method_23_code
def yX1_monthCountedFrom : MethodName := ⟨RX1, "monthCountedFrom", "(I)I"⟩
def RX2 : String := "TaperOfficeModel"
def TX2 : u_T := fun k => match k with
  | 0 => ("TaperOfficeModel", "thrown", "I", false)
  | 1 => ("TaperOfficeModel", "current", "I", false)
  | 2 => ("TaperOfficeModel", "homes", "I", false)
  | 3 => ("TaperOfficeModel", "added", "[I", true)
  | 4 => ("TaperOfficeModel", "changes", "[I", true)
  | 5 => ("TaperOfficeModel", "fact", "[I", true)
  | 6 => ("TaperOfficeModel", "from", "[I", true)
  | 7 => ("TaperOfficeModel", "value", "[I", true)
  | 8 => ("TaperOfficeModel", "assessed", "[I", true)
  | 9 => ("TaperOfficeModel", "paid", "[I", true)
  | 10 => ("TaperOfficeModel", "debt", "[I", true)
  | 11 => ("TaperOfficeModel", "recovered", "[I", true)
  | 12 => ("TaperOfficeModel", "disputes", "[Z", true)
  | 13 => ("TaperOfficeModel", "debtThen", "I", false)
  | 14 => ("TaperOfficeModel", "taken", "I", false)
  | _ => ("TaperOfficeModel", "pay", "I", false)
def tyX2 : Nat → FieldType := fun k => match k with
  | 0 => .int
  | 1 => .int
  | 2 => .int
  | 3 => .array .int
  | 4 => .array .int
  | 5 => .array .int
  | 6 => .array .int
  | 7 => .array .int
  | 8 => .array .int
  | 9 => .array .int
  | 10 => .array .int
  | 11 => .array .int
  | 12 => .array .boolean
  | 13 => .int
  | 14 => .int
  | _ => .int
abbrev wsX20 : List Cond := u_ws RX2 TX2 16
theorem nmX2 : ∀ a, a < 16 → ∀ b, b < 16 → a ≠ b → (TX2 a).2.1 ≠ (TX2 b).2.1 := by decide +kernel
theorem tyX2_ok : ∀ k, k < 16 → parseFieldDescriptor (TX2 k).2.2.1 = some (tyX2 k) := by decide +kernel
abbrev cX2_init : ByteArray := prog_4_method_1_code
def yX2_init : MethodName := ⟨RX2, "<init>", "()V"⟩
abbrev cX2_thrown : ByteArray := prog_4_method_2_code
def yX2_thrown : MethodName := ⟨RX2, "thrown", "()I"⟩
abbrev cX2_fails : ByteArray := prog_4_method_3_code
def yX2_fails : MethodName := ⟨RX2, "fails", "(I)I"⟩
abbrev cX2_in : ByteArray := prog_4_method_4_code
def yX2_in : MethodName := ⟨RX2, "in", "(III)Z"⟩
abbrev cX2_isHome : ByteArray := prog_4_method_5_code
def yX2_isHome : MethodName := ⟨RX2, "isHome", "(I)Z"⟩
abbrev cX2_isAsked : ByteArray := prog_4_method_6_code
def yX2_isAsked : MethodName := ⟨RX2, "isAsked", "(II)Z"⟩
abbrev cX2_lowest : ByteArray := prog_4_method_7_code
def yX2_lowest : MethodName := ⟨RX2, "lowest", "(I)I"⟩
abbrev cX2_greatest : ByteArray := prog_4_method_8_code
def yX2_greatest : MethodName := ⟨RX2, "greatest", "(I)I"⟩
abbrev cX2_factOf : ByteArray := prog_4_method_9_code
def yX2_factOf : MethodName := ⟨RX2, "factOf", "(III)I"⟩
abbrev cX2_needOf : ByteArray := prog_4_method_10_code
def yX2_needOf : MethodName := ⟨RX2, "needOf", "(II)I"⟩
abbrev cX2_taperOf : ByteArray := prog_4_method_11_code
def yX2_taperOf : MethodName := ⟨RX2, "taperOf", "(II)I"⟩
abbrev cX2_tariffOf : ByteArray := prog_4_method_12_code
def yX2_tariffOf : MethodName := ⟨RX2, "tariffOf", "(II)I"⟩
abbrev cX2_dueOf : ByteArray := prog_4_method_13_code
def yX2_dueOf : MethodName := ⟨RX2, "dueOf", "(II)I"⟩
abbrev cX2_openOf : ByteArray := prog_4_method_14_code
def yX2_openOf : MethodName := ⟨RX2, "openOf", "(I)I"⟩
abbrev cX2_least : ByteArray := prog_4_method_15_code
def yX2_least : MethodName := ⟨RX2, "least", "(II)I"⟩
abbrev cX2_reckons : ByteArray := prog_4_method_16_code
def yX2_reckons : MethodName := ⟨RX2, "reckons", "(I)V"⟩
abbrev cX2_add : ByteArray := prog_4_method_17_code
def yX2_add : MethodName := ⟨RX2, "add", "()I"⟩
abbrev cX2_tell : ByteArray := prog_4_method_18_code
def yX2_tell : MethodName := ⟨RX2, "tell", "(IIII)I"⟩
abbrev cX2_dispute : ByteArray := prog_4_method_19_code
def yX2_dispute : MethodName := ⟨RX2, "dispute", "(IZ)Z"⟩
abbrev cX2_payBack : ByteArray := prog_4_method_20_code
def yX2_payBack : MethodName := ⟨RX2, "payBack", "(II)I"⟩
abbrev cX2_households : ByteArray := prog_4_method_21_code
def yX2_households : MethodName := ⟨RX2, "households", "()I"⟩
abbrev cX2_close : ByteArray := prog_4_method_22_code
def yX2_close : MethodName := ⟨RX2, "close", "()I"⟩
abbrev cX2_month : ByteArray := prog_4_method_23_code
def yX2_month : MethodName := ⟨RX2, "month", "()I"⟩
abbrev cX2_fact : ByteArray := prog_4_method_24_code
def yX2_fact : MethodName := ⟨RX2, "fact", "(III)I"⟩
abbrev cX2_need : ByteArray := prog_4_method_25_code
def yX2_need : MethodName := ⟨RX2, "need", "(II)I"⟩
abbrev cX2_taper : ByteArray := prog_4_method_26_code
def yX2_taper : MethodName := ⟨RX2, "taper", "(II)I"⟩
abbrev cX2_tariff : ByteArray := prog_4_method_27_code
def yX2_tariff : MethodName := ⟨RX2, "tariff", "(II)I"⟩
abbrev cX2_due : ByteArray := prog_4_method_28_code
def yX2_due : MethodName := ⟨RX2, "due", "(II)I"⟩
abbrev cX2_unassessed : ByteArray := prog_4_method_29_code
def yX2_unassessed : MethodName := ⟨RX2, "unassessed", "(I)I"⟩
abbrev cX2_wouldPay : ByteArray := prog_4_method_30_code
def yX2_wouldPay : MethodName := ⟨RX2, "wouldPay", "(I)I"⟩
abbrev cX2_assessed : ByteArray := prog_4_method_31_code
def yX2_assessed : MethodName := ⟨RX2, "assessed", "(II)I"⟩
abbrev cX2_paid : ByteArray := prog_4_method_32_code
def yX2_paid : MethodName := ⟨RX2, "paid", "(II)I"⟩
abbrev cX2_debt : ByteArray := prog_4_method_33_code
def yX2_debt : MethodName := ⟨RX2, "debt", "(I)I"⟩
abbrev cX2_recovered : ByteArray := prog_4_method_34_code
def yX2_recovered : MethodName := ⟨RX2, "recovered", "(I)I"⟩
def RJ9 : String := "java/lang/Math"
def TJ9 : u_T := fun k => match k with
  | _ => ("", "", "", false)
def tyJ9 : Nat → FieldType := fun k => match k with
  | _ => .int
abbrev wsJ90 : List Cond := u_ws RJ9 TJ9 0
theorem nmJ9 : ∀ a, a < 0 → ∀ b, b < 0 → a ≠ b → (TJ9 a).2.1 ≠ (TJ9 b).2.1 := by decide +kernel
theorem tyJ9_ok : ∀ k, k < 0 → parseFieldDescriptor (TJ9 k).2.2.1 = some (tyJ9 k) := by decide +kernel
abbrev cJ9_max_7cf53 : ByteArray := prog_9_method_65_code
def yJ9_max_7cf53 : MethodName := ⟨RJ9, "max", "(II)I"⟩
abbrev cJ9_min_7cf53 : ByteArray := prog_9_method_69_code
def yJ9_min_7cf53 : MethodName := ⟨RJ9, "min", "(II)I"⟩
def RJ0 : String := "java/lang/String"
def TJ0 : u_T := fun k => match k with
  | _ => ("", "", "", false)
def tyJ0 : Nat → FieldType := fun k => match k with
  | _ => .int
abbrev wsJ00 : List Cond := u_ws RJ0 TJ0 0
theorem nmJ0 : ∀ a, a < 0 → ∀ b, b < 0 → a ≠ b → (TJ0 a).2.1 ≠ (TJ0 b).2.1 := by decide +kernel
theorem tyJ0_ok : ∀ k, k < 0 → parseFieldDescriptor (TJ0 k).2.2.1 = some (tyJ0 k) := by decide +kernel
def RL : String := "TaperOfficeLaw"
abbrev cL_add : ByteArray := method_3_code
def yL_add : MethodName := ⟨RL, "add", "(LTaperOffice;[J)I"⟩
abbrev cL_tell : ByteArray := method_4_code
def yL_tell : MethodName := ⟨RL, "tell", "(LTaperOffice;IIII[J)I"⟩
abbrev cL_dispute : ByteArray := method_5_code
def yL_dispute : MethodName := ⟨RL, "dispute", "(LTaperOffice;IZ[J)I"⟩
abbrev cL_payBack : ByteArray := method_6_code
def yL_payBack : MethodName := ⟨RL, "payBack", "(LTaperOffice;II[J)I"⟩
abbrev cL_close : ByteArray := method_7_code
def yL_close : MethodName := ⟨RL, "close", "(LTaperOffice;[J)I"⟩
abbrev cL_fact : ByteArray := method_8_code
def yL_fact : MethodName := ⟨RL, "fact", "(LTaperOffice;III[J)I"⟩
abbrev cL_need : ByteArray := method_9_code
def yL_need : MethodName := ⟨RL, "need", "(LTaperOffice;II[J)I"⟩
abbrev cL_taper : ByteArray := method_10_code
def yL_taper : MethodName := ⟨RL, "taper", "(LTaperOffice;II[J)I"⟩
abbrev cL_tariff : ByteArray := method_11_code
def yL_tariff : MethodName := ⟨RL, "tariff", "(LTaperOffice;II[J)I"⟩
abbrev cL_due : ByteArray := method_12_code
def yL_due : MethodName := ⟨RL, "due", "(LTaperOffice;II[J)I"⟩
abbrev cL_unassessed : ByteArray := method_13_code
def yL_unassessed : MethodName := ⟨RL, "unassessed", "(LTaperOffice;I[J)I"⟩
abbrev cL_wouldPay : ByteArray := method_14_code
def yL_wouldPay : MethodName := ⟨RL, "wouldPay", "(LTaperOffice;I[J)I"⟩
abbrev cL_assessed : ByteArray := method_15_code
def yL_assessed : MethodName := ⟨RL, "assessed", "(LTaperOffice;II[J)I"⟩
abbrev cL_paid : ByteArray := method_16_code
def yL_paid : MethodName := ⟨RL, "paid", "(LTaperOffice;II[J)I"⟩
abbrev cL_debt : ByteArray := method_17_code
def yL_debt : MethodName := ⟨RL, "debt", "(LTaperOffice;I[J)I"⟩
abbrev cL_recovered : ByteArray := method_18_code
def yL_recovered : MethodName := ⟨RL, "recovered", "(LTaperOffice;I[J)I"⟩
abbrev cL_law : ByteArray := code
def yL_law : MethodName := ⟨RL, "law", "([I)Z"⟩
def wsX0_init : List Cond := .code yX0_init cX0_init 3 none :: ([.methodLink RX0 3 objectInit, .instanceMethod objectInit, .code objectInit ⟨#[0xb1]⟩ 1 none, .fieldLink RX0 9 "TaperOffice$Household" "firstMonth" "I", .classLink RX0 15 "[[I", .arrayClass .int, .fieldLink RX0 17 "TaperOffice$Household" "values" "[[I", .fieldLink RX0 20 "TaperOffice$Household" "since" "[[I", .fieldLink RX0 23 "TaperOffice$Household" "assessments" "[I", .fieldLink RX0 27 "TaperOffice$Household" "payments" "[I"] ++ wsX00)
def wsX0_change : List Cond := .code yX0_change cX0_change 5 none :: ([.fieldLink RX0 30 "TaperOffice$Household" "changes" "I", .fieldLink RX0 20 "TaperOffice$Household" "since" "[[I", .fieldLink RX0 17 "TaperOffice$Household" "values" "[[I"] ++ wsX00)
def wsX0_needIn : List Cond := .code yX0_needIn cX0_needIn 3 (some .int) :: ([.fieldLink RX0 17 "TaperOffice$Household" "values" "[[I", .constant RX0 33 (60000), .methodLink RX0 34 Lib.Math.min.name, .static Lib.Math.min.name, .initialized "java/lang/Math", .code Lib.Math.min.name Lib.Math.min.code 2 (some .int)] ++ wsX00)
def wsX0_taperIn : List Cond := .code yX0_taperIn cX0_taperIn 3 (some .int) :: ([.fieldLink RX0 17 "TaperOffice$Household" "values" "[[I", .methodLink RX0 40 Lib.Math.max.name, .static Lib.Math.max.name, .initialized "java/lang/Math", .code Lib.Math.max.name Lib.Math.max.code 2 (some .int)] ++ wsX00)
def wsX0_tariffIn : List Cond := .code yX0_tariffIn cX0_tariffIn 4 (some .int) :: ([.fieldLink RX0 17 "TaperOffice$Household" "values" "[[I", .constant RX0 43 (600000), .methodLink RX0 40 Lib.Math.max.name, .static Lib.Math.max.name, .initialized "java/lang/Math", .code Lib.Math.max.name Lib.Math.max.code 2 (some .int)] ++ wsX00)
def wsX0_dueIn : List Cond := .code yX0_dueIn cX0_dueIn 3 (some .int) :: ([.fieldLink RX0 17 "TaperOffice$Household" "values" "[[I", .constant RX0 44 (1600000), .methodLink RX0 45 yX0_needIn, .instanceMethod yX0_needIn, .selects RX0 yX0_needIn yX0_needIn, .initialized RX0, .code yX0_needIn cX0_needIn 3 (some .int), .constant RX0 33 (60000), .methodLink RX0 34 Lib.Math.min.name, .static Lib.Math.min.name, .initialized "java/lang/Math", .code Lib.Math.min.name Lib.Math.min.code 2 (some .int), .methodLink RX0 49 yX0_taperIn, .instanceMethod yX0_taperIn, .selects RX0 yX0_taperIn yX0_taperIn, .code yX0_taperIn cX0_taperIn 3 (some .int), .methodLink RX0 40 Lib.Math.max.name, .static Lib.Math.max.name, .code Lib.Math.max.name Lib.Math.max.code 2 (some .int), .methodLink RX0 52 yX0_tariffIn, .instanceMethod yX0_tariffIn, .selects RX0 yX0_tariffIn yX0_tariffIn, .code yX0_tariffIn cX0_tariffIn 4 (some .int), .constant RX0 43 (600000)] ++ wsX00)
def wsX0_unassessedBefore_r1 : List Cond := [Cond.fieldLink RX0 9 "TaperOffice$Household" "firstMonth" "I", Cond.fieldLink RX0 23 "TaperOffice$Household" "assessments" "[I", Cond.methodLink RX0 55 yX0_dueIn, Cond.instanceMethod yX0_dueIn, Cond.selects RX0 yX0_dueIn yX0_dueIn, Cond.initialized RX0, Cond.code yX0_dueIn cX0_dueIn 3 (some .int), Cond.fieldLink RX0 17 "TaperOffice$Household" "values" "[[I", Cond.constant RX0 44 (1600000), Cond.methodLink RX0 45 yX0_needIn, Cond.instanceMethod yX0_needIn, Cond.selects RX0 yX0_needIn yX0_needIn, Cond.code yX0_needIn cX0_needIn 3 (some .int), Cond.constant RX0 33 (60000), Cond.methodLink RX0 34 Lib.Math.min.name, Cond.static Lib.Math.min.name, Cond.initialized "java/lang/Math", Cond.code Lib.Math.min.name Lib.Math.min.code 2 (some .int), Cond.methodLink RX0 49 yX0_taperIn, Cond.instanceMethod yX0_taperIn, Cond.selects RX0 yX0_taperIn yX0_taperIn, Cond.code yX0_taperIn cX0_taperIn 3 (some .int), Cond.methodLink RX0 40 Lib.Math.max.name, Cond.static Lib.Math.max.name]
def wsX0_unassessedBefore_r2 : List Cond := [Cond.code Lib.Math.max.name Lib.Math.max.code 2 (some .int), Cond.methodLink RX0 52 yX0_tariffIn, Cond.instanceMethod yX0_tariffIn, Cond.selects RX0 yX0_tariffIn yX0_tariffIn, Cond.code yX0_tariffIn cX0_tariffIn 4 (some .int), Cond.constant RX0 43 (600000)]
def wsX0_unassessedBefore : List Cond := .code yX0_unassessedBefore cX0_unassessedBefore 4 (some .int) :: ((wsX0_unassessedBefore_r1 ++ wsX0_unassessedBefore_r2) ++ wsX00)
def wsX0_owedAfter : List Cond := .code yX0_owedAfter cX0_owedAfter 2 (some .int) :: ([.fieldLink RX0 58 "TaperOffice$Household" "debt" "I", .methodLink RX0 40 Lib.Math.max.name, .static Lib.Math.max.name, .initialized "java/lang/Math", .code Lib.Math.max.name Lib.Math.max.code 2 (some .int)] ++ wsX00)
def wsX0_arrearsOf : List Cond := .code yX0_arrearsOf cX0_arrearsOf 2 (some .int) :: ([.fieldLink RX0 58 "TaperOffice$Household" "debt" "I", .methodLink RX0 40 Lib.Math.max.name, .static Lib.Math.max.name, .initialized "java/lang/Math", .code Lib.Math.max.name Lib.Math.max.code 2 (some .int)] ++ wsX00)
def wsX0_recoverableIn_r1 : List Cond := [Cond.fieldLink RX0 61 "TaperOffice$Household" "disputes" "Z", Cond.fieldLink RX0 17 "TaperOffice$Household" "values" "[[I", Cond.methodLink RX0 40 Lib.Math.max.name, Cond.static Lib.Math.max.name, Cond.initialized "java/lang/Math", Cond.code Lib.Math.max.name Lib.Math.max.code 2 (some .int), Cond.methodLink RX0 34 Lib.Math.min.name, Cond.static Lib.Math.min.name, Cond.code Lib.Math.min.name Lib.Math.min.code 2 (some .int), Cond.methodLink RX0 55 yX0_dueIn, Cond.instanceMethod yX0_dueIn, Cond.selects RX0 yX0_dueIn yX0_dueIn, Cond.initialized RX0, Cond.code yX0_dueIn cX0_dueIn 3 (some .int), Cond.constant RX0 44 (1600000), Cond.methodLink RX0 45 yX0_needIn, Cond.instanceMethod yX0_needIn, Cond.selects RX0 yX0_needIn yX0_needIn, Cond.code yX0_needIn cX0_needIn 3 (some .int), Cond.constant RX0 33 (60000), Cond.methodLink RX0 49 yX0_taperIn, Cond.instanceMethod yX0_taperIn, Cond.selects RX0 yX0_taperIn yX0_taperIn, Cond.code yX0_taperIn cX0_taperIn 3 (some .int)]
def wsX0_recoverableIn_r2 : List Cond := [Cond.methodLink RX0 52 yX0_tariffIn, Cond.instanceMethod yX0_tariffIn, Cond.selects RX0 yX0_tariffIn yX0_tariffIn, Cond.code yX0_tariffIn cX0_tariffIn 4 (some .int), Cond.constant RX0 43 (600000)]
def wsX0_recoverableIn : List Cond := .code yX0_recoverableIn cX0_recoverableIn 6 (some .int) :: ((wsX0_recoverableIn_r1 ++ wsX0_recoverableIn_r2) ++ wsX00)
def wsX0_paymentIn_r1 : List Cond := [Cond.methodLink RX0 65 yX0_unassessedBefore, Cond.instanceMethod yX0_unassessedBefore, Cond.selects RX0 yX0_unassessedBefore yX0_unassessedBefore, Cond.initialized RX0, Cond.code yX0_unassessedBefore cX0_unassessedBefore 4 (some .int), Cond.fieldLink RX0 9 "TaperOffice$Household" "firstMonth" "I", Cond.fieldLink RX0 23 "TaperOffice$Household" "assessments" "[I", Cond.methodLink RX0 55 yX0_dueIn, Cond.instanceMethod yX0_dueIn, Cond.selects RX0 yX0_dueIn yX0_dueIn, Cond.code yX0_dueIn cX0_dueIn 3 (some .int), Cond.fieldLink RX0 17 "TaperOffice$Household" "values" "[[I", Cond.constant RX0 44 (1600000), Cond.methodLink RX0 45 yX0_needIn, Cond.instanceMethod yX0_needIn, Cond.selects RX0 yX0_needIn yX0_needIn, Cond.code yX0_needIn cX0_needIn 3 (some .int), Cond.constant RX0 33 (60000), Cond.methodLink RX0 34 Lib.Math.min.name, Cond.static Lib.Math.min.name, Cond.initialized "java/lang/Math", Cond.code Lib.Math.min.name Lib.Math.min.code 2 (some .int), Cond.methodLink RX0 49 yX0_taperIn, Cond.instanceMethod yX0_taperIn]
def wsX0_paymentIn_r2 : List Cond := [Cond.selects RX0 yX0_taperIn yX0_taperIn, Cond.code yX0_taperIn cX0_taperIn 3 (some .int), Cond.methodLink RX0 40 Lib.Math.max.name, Cond.static Lib.Math.max.name, Cond.code Lib.Math.max.name Lib.Math.max.code 2 (some .int), Cond.methodLink RX0 52 yX0_tariffIn, Cond.instanceMethod yX0_tariffIn, Cond.selects RX0 yX0_tariffIn yX0_tariffIn, Cond.code yX0_tariffIn cX0_tariffIn 4 (some .int), Cond.constant RX0 43 (600000), Cond.methodLink RX0 68 yX0_owedAfter, Cond.instanceMethod yX0_owedAfter, Cond.selects RX0 yX0_owedAfter yX0_owedAfter, Cond.code yX0_owedAfter cX0_owedAfter 2 (some .int), Cond.fieldLink RX0 58 "TaperOffice$Household" "debt" "I", Cond.methodLink RX0 71 yX0_recoverableIn, Cond.instanceMethod yX0_recoverableIn, Cond.selects RX0 yX0_recoverableIn yX0_recoverableIn, Cond.code yX0_recoverableIn cX0_recoverableIn 6 (some .int), Cond.fieldLink RX0 61 "TaperOffice$Household" "disputes" "Z", Cond.methodLink RX0 74 yX0_arrearsOf, Cond.instanceMethod yX0_arrearsOf, Cond.selects RX0 yX0_arrearsOf yX0_arrearsOf, Cond.code yX0_arrearsOf cX0_arrearsOf 2 (some .int)]
def wsX0_paymentIn : List Cond := .code yX0_paymentIn cX0_paymentIn 4 (some .int) :: ((wsX0_paymentIn_r1 ++ wsX0_paymentIn_r2) ++ wsX00)
def wsX0_lowerDebt : List Cond := .code yX0_lowerDebt cX0_lowerDebt 2 none :: ([.fieldLink RX0 58 "TaperOffice$Household" "debt" "I", .fieldLink RX0 84 "TaperOffice$Household" "takenBack" "I"] ++ wsX00)
def wsX0_settle_r1 : List Cond := [Cond.fieldLink RX0 58 "TaperOffice$Household" "debt" "I", Cond.fieldLink RX0 9 "TaperOffice$Household" "firstMonth" "I", Cond.fieldLink RX0 23 "TaperOffice$Household" "assessments" "[I", Cond.fieldLink RX0 27 "TaperOffice$Household" "payments" "[I", Cond.methodLink RX0 77 yX0_paymentIn, Cond.instanceMethod yX0_paymentIn, Cond.selects RX0 yX0_paymentIn yX0_paymentIn, Cond.initialized RX0, Cond.code yX0_paymentIn cX0_paymentIn 4 (some .int), Cond.methodLink RX0 65 yX0_unassessedBefore, Cond.instanceMethod yX0_unassessedBefore, Cond.selects RX0 yX0_unassessedBefore yX0_unassessedBefore, Cond.code yX0_unassessedBefore cX0_unassessedBefore 4 (some .int), Cond.methodLink RX0 55 yX0_dueIn, Cond.instanceMethod yX0_dueIn, Cond.selects RX0 yX0_dueIn yX0_dueIn, Cond.code yX0_dueIn cX0_dueIn 3 (some .int), Cond.fieldLink RX0 17 "TaperOffice$Household" "values" "[[I", Cond.constant RX0 44 (1600000), Cond.methodLink RX0 45 yX0_needIn, Cond.instanceMethod yX0_needIn, Cond.selects RX0 yX0_needIn yX0_needIn, Cond.code yX0_needIn cX0_needIn 3 (some .int), Cond.constant RX0 33 (60000)]
def wsX0_settle_r2 : List Cond := [Cond.methodLink RX0 34 Lib.Math.min.name, Cond.static Lib.Math.min.name, Cond.initialized "java/lang/Math", Cond.code Lib.Math.min.name Lib.Math.min.code 2 (some .int), Cond.methodLink RX0 49 yX0_taperIn, Cond.instanceMethod yX0_taperIn, Cond.selects RX0 yX0_taperIn yX0_taperIn, Cond.code yX0_taperIn cX0_taperIn 3 (some .int), Cond.methodLink RX0 40 Lib.Math.max.name, Cond.static Lib.Math.max.name, Cond.code Lib.Math.max.name Lib.Math.max.code 2 (some .int), Cond.methodLink RX0 52 yX0_tariffIn, Cond.instanceMethod yX0_tariffIn, Cond.selects RX0 yX0_tariffIn yX0_tariffIn, Cond.code yX0_tariffIn cX0_tariffIn 4 (some .int), Cond.constant RX0 43 (600000), Cond.methodLink RX0 68 yX0_owedAfter, Cond.instanceMethod yX0_owedAfter, Cond.selects RX0 yX0_owedAfter yX0_owedAfter, Cond.code yX0_owedAfter cX0_owedAfter 2 (some .int), Cond.methodLink RX0 71 yX0_recoverableIn, Cond.instanceMethod yX0_recoverableIn, Cond.selects RX0 yX0_recoverableIn yX0_recoverableIn, Cond.code yX0_recoverableIn cX0_recoverableIn 6 (some .int)]
def wsX0_settle_r3 : List Cond := [Cond.fieldLink RX0 61 "TaperOffice$Household" "disputes" "Z", Cond.methodLink RX0 74 yX0_arrearsOf, Cond.instanceMethod yX0_arrearsOf, Cond.selects RX0 yX0_arrearsOf yX0_arrearsOf, Cond.code yX0_arrearsOf cX0_arrearsOf 2 (some .int), Cond.methodLink RX0 80 yX0_lowerDebt, Cond.instanceMethod yX0_lowerDebt, Cond.selects RX0 yX0_lowerDebt yX0_lowerDebt, Cond.code yX0_lowerDebt cX0_lowerDebt 2 none, Cond.fieldLink RX0 84 "TaperOffice$Household" "takenBack" "I"]
def wsX0_settle : List Cond := .code yX0_settle cX0_settle 4 (some .int) :: ((wsX0_settle_r1 ++ (wsX0_settle_r2 ++ wsX0_settle_r3)) ++ wsX00)
def wsX1_init : List Cond := .code yX1_init cX1_init 1 none :: ([.methodLink RX1 1 objectInit, .instanceMethod objectInit, .code objectInit ⟨#[0xb1]⟩ 1 none, .classLink RX1 9 RX0, .fieldLink RX1 11 "TaperOffice" "rows" "[LTaperOffice$Household;", .fieldLink RX1 15 "TaperOffice" "added" "I", .fieldLink RX1 19 "TaperOffice" "current" "I"] ++ wsX10)
def wsX1_add : List Cond := .code yX1_add cX1_add 2 (some .int) :: ([.classLink RX1 22 "java/lang/IllegalStateException", .initialized "java/lang/IllegalStateException", .fieldLink RX1 15 "TaperOffice" "added" "I", .fieldLink RX1 11 "TaperOffice" "rows" "[LTaperOffice$Household;", .fieldLink RX1 19 "TaperOffice" "current" "I", .classLink RX1 9 RX0, .instantiable RX0 9, .initialized RX0, .instanceMethod yX0_init, .code yX0_init cX0_init 3 none, .methodLink RX0 3 objectInit, .instanceMethod objectInit, .code objectInit ⟨#[0xb1]⟩ 1 none, .fieldLink RX0 9 "TaperOffice$Household" "firstMonth" "I", .classLink RX0 15 "[[I", .arrayClass .int, .fieldLink RX0 17 "TaperOffice$Household" "values" "[[I", .fieldLink RX0 20 "TaperOffice$Household" "since" "[[I", .fieldLink RX0 23 "TaperOffice$Household" "assessments" "[I", .fieldLink RX0 27 "TaperOffice$Household" "payments" "[I"] ++ wsX10 ++ wsX00 ++ (vx_atS RX1 26 "java/lang/IllegalStateException" ["java/lang/RuntimeException", "java/lang/Exception"]).filter goodWord)
def wsX1_existing : List Cond := .code yX1_existing cX1_existing 3 (some (.object "TaperOffice$Household")) :: ([.classLink RX1 120 "java/lang/IndexOutOfBoundsException", .initialized "java/lang/IndexOutOfBoundsException", .fieldLink RX1 11 "TaperOffice" "rows" "[LTaperOffice$Household;"] ++ wsX10 ++ (vx_atS RX1 124 "java/lang/IndexOutOfBoundsException" ["java/lang/RuntimeException", "java/lang/Exception"]).filter goodWord)
def wsX1_checkFact : List Cond := .code yX1_checkFact cX1_checkFact 1 none :: ([.classLink RX1 41 "java/lang/IllegalArgumentException", .initialized "java/lang/IllegalArgumentException"] ++ (vx_atS RX1 45 "java/lang/IllegalArgumentException" ["java/lang/RuntimeException", "java/lang/Exception"]).filter goodWord)
def wsX1_monthCountedFrom : List Cond := .code yX1_monthCountedFrom cX1_monthCountedFrom 2 (some .int) :: ([])
def wsX1_tell_r1 : List Cond := [Cond.classLink RX1 41 "java/lang/IllegalArgumentException", Cond.initialized "java/lang/IllegalArgumentException", Cond.classLink RX1 22 "java/lang/IllegalStateException", Cond.initialized "java/lang/IllegalStateException", Cond.fieldLink RX1 46 "TaperOffice" "LEAST_VALUES" "[I", Cond.fieldLink RX1 50 "TaperOffice" "MOST_VALUES" "[I", Cond.methodLink RX1 34 yX1_existing, Cond.instanceMethod yX1_existing, Cond.selects RX1 yX1_existing yX1_existing, Cond.initialized RX1, Cond.code yX1_existing cX1_existing 3 (some (.object "TaperOffice$Household")), Cond.classLink RX1 120 "java/lang/IndexOutOfBoundsException", Cond.initialized "java/lang/IndexOutOfBoundsException", Cond.fieldLink RX1 11 "TaperOffice" "rows" "[LTaperOffice$Household;", Cond.methodLink RX1 38 yX1_checkFact, Cond.static yX1_checkFact, Cond.code yX1_checkFact cX1_checkFact 1 none, Cond.methodLink RX1 60 yX1_monthCountedFrom, Cond.static yX1_monthCountedFrom, Cond.code yX1_monthCountedFrom cX1_monthCountedFrom 2 (some .int), Cond.instanceMethod yX0_change, Cond.initialized RX0, Cond.selects RX0 yX0_change yX0_change, Cond.code yX0_change cX0_change 5 none]
def wsX1_tell_r2 : List Cond := [Cond.fieldLink RX0 30 "TaperOffice$Household" "changes" "I", Cond.fieldLink RX0 20 "TaperOffice$Household" "since" "[[I", Cond.fieldLink RX0 17 "TaperOffice$Household" "values" "[[I"]
def wsX1_tell : List Cond := .code yX1_tell cX1_tell 7 (some .int) :: ((wsX1_tell_r1 ++ wsX1_tell_r2) ++ wsX00 ++ wsX10 ++ (vx_atS RX1 45 "java/lang/IllegalArgumentException" ["java/lang/RuntimeException", "java/lang/Exception"]).filter goodWord ++ (vx_atS RX1 26 "java/lang/IllegalStateException" ["java/lang/RuntimeException", "java/lang/Exception"]).filter goodWord ++ (vx_atS RX1 124 "java/lang/IndexOutOfBoundsException" ["java/lang/RuntimeException", "java/lang/Exception"]).filter goodWord)
def wsX1_dispute : List Cond := .code yX1_dispute cX1_dispute 5 (some .boolean) :: ([.methodLink RX1 34 yX1_existing, .instanceMethod yX1_existing, .selects RX1 yX1_existing yX1_existing, .initialized RX1, .code yX1_existing cX1_existing 3 (some (.object "TaperOffice$Household")), .classLink RX1 120 "java/lang/IndexOutOfBoundsException", .initialized "java/lang/IndexOutOfBoundsException", .fieldLink RX1 11 "TaperOffice" "rows" "[LTaperOffice$Household;"] ++ wsX00 ++ wsX10 ++ (vx_atS RX1 124 "java/lang/IndexOutOfBoundsException" ["java/lang/RuntimeException", "java/lang/Exception"]).filter goodWord)
def wsX1_payBack : List Cond := .code yX1_payBack cX1_payBack 4 (some .int) :: ([.classLink RX1 41 "java/lang/IllegalArgumentException", .initialized "java/lang/IllegalArgumentException", .classLink RX1 22 "java/lang/IllegalStateException", .initialized "java/lang/IllegalStateException", .constant RX1 72 (1000000), .methodLink RX1 34 yX1_existing, .instanceMethod yX1_existing, .selects RX1 yX1_existing yX1_existing, .initialized RX1, .code yX1_existing cX1_existing 3 (some (.object "TaperOffice$Household")), .classLink RX1 120 "java/lang/IndexOutOfBoundsException", .initialized "java/lang/IndexOutOfBoundsException", .fieldLink RX1 11 "TaperOffice" "rows" "[LTaperOffice$Household;", .instanceMethod yX0_lowerDebt, .initialized RX0, .selects RX0 yX0_lowerDebt yX0_lowerDebt, .code yX0_lowerDebt cX0_lowerDebt 2 none, .fieldLink RX0 58 "TaperOffice$Household" "debt" "I", .fieldLink RX0 84 "TaperOffice$Household" "takenBack" "I"] ++ wsX00 ++ wsX10 ++ (vx_atS RX1 45 "java/lang/IllegalArgumentException" ["java/lang/RuntimeException", "java/lang/Exception"]).filter goodWord ++ (vx_atS RX1 26 "java/lang/IllegalStateException" ["java/lang/RuntimeException", "java/lang/Exception"]).filter goodWord ++ (vx_atS RX1 124 "java/lang/IndexOutOfBoundsException" ["java/lang/RuntimeException", "java/lang/Exception"]).filter goodWord)
def wsX1_households : List Cond := .code yX1_households cX1_households 1 (some .int) :: ([.fieldLink RX1 15 "TaperOffice" "added" "I"] ++ wsX10)
def wsX1_close_r1 : List Cond := [Cond.classLink RX1 22 "java/lang/IllegalStateException", Cond.initialized "java/lang/IllegalStateException", Cond.fieldLink RX1 19 "TaperOffice" "current" "I", Cond.fieldLink RX1 11 "TaperOffice" "rows" "[LTaperOffice$Household;", Cond.instanceMethod yX0_settle, Cond.initialized RX0, Cond.selects RX0 yX0_settle yX0_settle, Cond.code yX0_settle cX0_settle 4 (some .int), Cond.fieldLink RX0 58 "TaperOffice$Household" "debt" "I", Cond.fieldLink RX0 9 "TaperOffice$Household" "firstMonth" "I", Cond.fieldLink RX0 23 "TaperOffice$Household" "assessments" "[I", Cond.fieldLink RX0 27 "TaperOffice$Household" "payments" "[I", Cond.methodLink RX0 77 yX0_paymentIn, Cond.instanceMethod yX0_paymentIn, Cond.selects RX0 yX0_paymentIn yX0_paymentIn, Cond.code yX0_paymentIn cX0_paymentIn 4 (some .int), Cond.methodLink RX0 65 yX0_unassessedBefore, Cond.instanceMethod yX0_unassessedBefore, Cond.selects RX0 yX0_unassessedBefore yX0_unassessedBefore, Cond.code yX0_unassessedBefore cX0_unassessedBefore 4 (some .int), Cond.methodLink RX0 55 yX0_dueIn, Cond.instanceMethod yX0_dueIn, Cond.selects RX0 yX0_dueIn yX0_dueIn, Cond.code yX0_dueIn cX0_dueIn 3 (some .int)]
def wsX1_close_r2 : List Cond := [Cond.fieldLink RX0 17 "TaperOffice$Household" "values" "[[I", Cond.constant RX0 44 (1600000), Cond.methodLink RX0 45 yX0_needIn, Cond.instanceMethod yX0_needIn, Cond.selects RX0 yX0_needIn yX0_needIn, Cond.code yX0_needIn cX0_needIn 3 (some .int), Cond.constant RX0 33 (60000), Cond.methodLink RX0 34 Lib.Math.min.name, Cond.static Lib.Math.min.name, Cond.initialized "java/lang/Math", Cond.code Lib.Math.min.name Lib.Math.min.code 2 (some .int), Cond.methodLink RX0 49 yX0_taperIn, Cond.instanceMethod yX0_taperIn, Cond.selects RX0 yX0_taperIn yX0_taperIn, Cond.code yX0_taperIn cX0_taperIn 3 (some .int), Cond.methodLink RX0 40 Lib.Math.max.name, Cond.static Lib.Math.max.name, Cond.code Lib.Math.max.name Lib.Math.max.code 2 (some .int), Cond.methodLink RX0 52 yX0_tariffIn, Cond.instanceMethod yX0_tariffIn, Cond.selects RX0 yX0_tariffIn yX0_tariffIn, Cond.code yX0_tariffIn cX0_tariffIn 4 (some .int), Cond.constant RX0 43 (600000), Cond.methodLink RX0 68 yX0_owedAfter]
def wsX1_close_r3 : List Cond := [Cond.instanceMethod yX0_owedAfter, Cond.selects RX0 yX0_owedAfter yX0_owedAfter, Cond.code yX0_owedAfter cX0_owedAfter 2 (some .int), Cond.methodLink RX0 71 yX0_recoverableIn, Cond.instanceMethod yX0_recoverableIn, Cond.selects RX0 yX0_recoverableIn yX0_recoverableIn, Cond.code yX0_recoverableIn cX0_recoverableIn 6 (some .int), Cond.fieldLink RX0 61 "TaperOffice$Household" "disputes" "Z", Cond.methodLink RX0 74 yX0_arrearsOf, Cond.instanceMethod yX0_arrearsOf, Cond.selects RX0 yX0_arrearsOf yX0_arrearsOf, Cond.code yX0_arrearsOf cX0_arrearsOf 2 (some .int), Cond.methodLink RX0 80 yX0_lowerDebt, Cond.instanceMethod yX0_lowerDebt, Cond.selects RX0 yX0_lowerDebt yX0_lowerDebt, Cond.code yX0_lowerDebt cX0_lowerDebt 2 none, Cond.fieldLink RX0 84 "TaperOffice$Household" "takenBack" "I"]
def wsX1_close : List Cond := .code yX1_close cX1_close 6 (some .int) :: ((wsX1_close_r1 ++ (wsX1_close_r2 ++ wsX1_close_r3)) ++ wsX10 ++ wsX00 ++ (vx_atS RX1 26 "java/lang/IllegalStateException" ["java/lang/RuntimeException", "java/lang/Exception"]).filter goodWord)
def wsX1_month : List Cond := .code yX1_month cX1_month 1 (some .int) :: ([.fieldLink RX1 19 "TaperOffice" "current" "I"] ++ wsX10)
def wsX1_checkMonth : List Cond := .code yX1_checkMonth cX1_checkMonth 1 none :: ([.classLink RX1 120 "java/lang/IndexOutOfBoundsException", .initialized "java/lang/IndexOutOfBoundsException"] ++ (vx_atS RX1 124 "java/lang/IndexOutOfBoundsException" ["java/lang/RuntimeException", "java/lang/Exception"]).filter goodWord)
def wsX1_fact : List Cond := .code yX1_fact cX1_fact 5 (some .int) :: ([.methodLink RX1 34 yX1_existing, .instanceMethod yX1_existing, .selects RX1 yX1_existing yX1_existing, .initialized RX1, .code yX1_existing cX1_existing 3 (some (.object "TaperOffice$Household")), .classLink RX1 120 "java/lang/IndexOutOfBoundsException", .initialized "java/lang/IndexOutOfBoundsException", .fieldLink RX1 11 "TaperOffice" "rows" "[LTaperOffice$Household;", .methodLink RX1 86 yX1_checkMonth, .static yX1_checkMonth, .code yX1_checkMonth cX1_checkMonth 1 none, .methodLink RX1 38 yX1_checkFact, .static yX1_checkFact, .code yX1_checkFact cX1_checkFact 1 none, .classLink RX1 41 "java/lang/IllegalArgumentException", .initialized "java/lang/IllegalArgumentException"] ++ wsX00 ++ wsX10 ++ (vx_atS RX1 124 "java/lang/IndexOutOfBoundsException" ["java/lang/RuntimeException", "java/lang/Exception"]).filter goodWord ++ (vx_atS RX1 45 "java/lang/IllegalArgumentException" ["java/lang/RuntimeException", "java/lang/Exception"]).filter goodWord)
def wsX1_need : List Cond := .code yX1_need cX1_need 4 (some .int) :: ([.methodLink RX1 34 yX1_existing, .instanceMethod yX1_existing, .selects RX1 yX1_existing yX1_existing, .initialized RX1, .code yX1_existing cX1_existing 3 (some (.object "TaperOffice$Household")), .classLink RX1 120 "java/lang/IndexOutOfBoundsException", .initialized "java/lang/IndexOutOfBoundsException", .fieldLink RX1 11 "TaperOffice" "rows" "[LTaperOffice$Household;", .methodLink RX1 86 yX1_checkMonth, .static yX1_checkMonth, .code yX1_checkMonth cX1_checkMonth 1 none, .instanceMethod yX0_needIn, .initialized RX0, .selects RX0 yX0_needIn yX0_needIn, .code yX0_needIn cX0_needIn 3 (some .int), .fieldLink RX0 17 "TaperOffice$Household" "values" "[[I", .constant RX0 33 (60000), .methodLink RX0 34 Lib.Math.min.name, .static Lib.Math.min.name, .initialized "java/lang/Math", .code Lib.Math.min.name Lib.Math.min.code 2 (some .int)] ++ wsX10 ++ wsX00 ++ (vx_atS RX1 124 "java/lang/IndexOutOfBoundsException" ["java/lang/RuntimeException", "java/lang/Exception"]).filter goodWord)
def wsX1_taper : List Cond := .code yX1_taper cX1_taper 4 (some .int) :: ([.methodLink RX1 34 yX1_existing, .instanceMethod yX1_existing, .selects RX1 yX1_existing yX1_existing, .initialized RX1, .code yX1_existing cX1_existing 3 (some (.object "TaperOffice$Household")), .classLink RX1 120 "java/lang/IndexOutOfBoundsException", .initialized "java/lang/IndexOutOfBoundsException", .fieldLink RX1 11 "TaperOffice" "rows" "[LTaperOffice$Household;", .methodLink RX1 86 yX1_checkMonth, .static yX1_checkMonth, .code yX1_checkMonth cX1_checkMonth 1 none, .instanceMethod yX0_taperIn, .initialized RX0, .selects RX0 yX0_taperIn yX0_taperIn, .code yX0_taperIn cX0_taperIn 3 (some .int), .fieldLink RX0 17 "TaperOffice$Household" "values" "[[I", .methodLink RX0 40 Lib.Math.max.name, .static Lib.Math.max.name, .initialized "java/lang/Math", .code Lib.Math.max.name Lib.Math.max.code 2 (some .int)] ++ wsX10 ++ wsX00 ++ (vx_atS RX1 124 "java/lang/IndexOutOfBoundsException" ["java/lang/RuntimeException", "java/lang/Exception"]).filter goodWord)
def wsX1_tariff : List Cond := .code yX1_tariff cX1_tariff 4 (some .int) :: ([.methodLink RX1 34 yX1_existing, .instanceMethod yX1_existing, .selects RX1 yX1_existing yX1_existing, .initialized RX1, .code yX1_existing cX1_existing 3 (some (.object "TaperOffice$Household")), .classLink RX1 120 "java/lang/IndexOutOfBoundsException", .initialized "java/lang/IndexOutOfBoundsException", .fieldLink RX1 11 "TaperOffice" "rows" "[LTaperOffice$Household;", .methodLink RX1 86 yX1_checkMonth, .static yX1_checkMonth, .code yX1_checkMonth cX1_checkMonth 1 none, .instanceMethod yX0_tariffIn, .initialized RX0, .selects RX0 yX0_tariffIn yX0_tariffIn, .code yX0_tariffIn cX0_tariffIn 4 (some .int), .fieldLink RX0 17 "TaperOffice$Household" "values" "[[I", .constant RX0 43 (600000), .methodLink RX0 40 Lib.Math.max.name, .static Lib.Math.max.name, .initialized "java/lang/Math", .code Lib.Math.max.name Lib.Math.max.code 2 (some .int)] ++ wsX10 ++ wsX00 ++ (vx_atS RX1 124 "java/lang/IndexOutOfBoundsException" ["java/lang/RuntimeException", "java/lang/Exception"]).filter goodWord)
def wsX1_due_r1 : List Cond := [Cond.methodLink RX1 34 yX1_existing, Cond.instanceMethod yX1_existing, Cond.selects RX1 yX1_existing yX1_existing, Cond.initialized RX1, Cond.code yX1_existing cX1_existing 3 (some (.object "TaperOffice$Household")), Cond.classLink RX1 120 "java/lang/IndexOutOfBoundsException", Cond.initialized "java/lang/IndexOutOfBoundsException", Cond.fieldLink RX1 11 "TaperOffice" "rows" "[LTaperOffice$Household;", Cond.methodLink RX1 86 yX1_checkMonth, Cond.static yX1_checkMonth, Cond.code yX1_checkMonth cX1_checkMonth 1 none, Cond.instanceMethod yX0_dueIn, Cond.initialized RX0, Cond.selects RX0 yX0_dueIn yX0_dueIn, Cond.code yX0_dueIn cX0_dueIn 3 (some .int), Cond.fieldLink RX0 17 "TaperOffice$Household" "values" "[[I", Cond.constant RX0 44 (1600000), Cond.methodLink RX0 45 yX0_needIn, Cond.instanceMethod yX0_needIn, Cond.selects RX0 yX0_needIn yX0_needIn, Cond.code yX0_needIn cX0_needIn 3 (some .int), Cond.constant RX0 33 (60000), Cond.methodLink RX0 34 Lib.Math.min.name, Cond.static Lib.Math.min.name]
def wsX1_due_r2 : List Cond := [Cond.initialized "java/lang/Math", Cond.code Lib.Math.min.name Lib.Math.min.code 2 (some .int), Cond.methodLink RX0 49 yX0_taperIn, Cond.instanceMethod yX0_taperIn, Cond.selects RX0 yX0_taperIn yX0_taperIn, Cond.code yX0_taperIn cX0_taperIn 3 (some .int), Cond.methodLink RX0 40 Lib.Math.max.name, Cond.static Lib.Math.max.name, Cond.code Lib.Math.max.name Lib.Math.max.code 2 (some .int), Cond.methodLink RX0 52 yX0_tariffIn, Cond.instanceMethod yX0_tariffIn, Cond.selects RX0 yX0_tariffIn yX0_tariffIn, Cond.code yX0_tariffIn cX0_tariffIn 4 (some .int), Cond.constant RX0 43 (600000)]
def wsX1_due : List Cond := .code yX1_due cX1_due 4 (some .int) :: ((wsX1_due_r1 ++ wsX1_due_r2) ++ wsX10 ++ wsX00 ++ (vx_atS RX1 124 "java/lang/IndexOutOfBoundsException" ["java/lang/RuntimeException", "java/lang/Exception"]).filter goodWord)
def wsX1_unassessed_r1 : List Cond := [Cond.fieldLink RX1 19 "TaperOffice" "current" "I", Cond.methodLink RX1 34 yX1_existing, Cond.instanceMethod yX1_existing, Cond.selects RX1 yX1_existing yX1_existing, Cond.initialized RX1, Cond.code yX1_existing cX1_existing 3 (some (.object "TaperOffice$Household")), Cond.classLink RX1 120 "java/lang/IndexOutOfBoundsException", Cond.initialized "java/lang/IndexOutOfBoundsException", Cond.fieldLink RX1 11 "TaperOffice" "rows" "[LTaperOffice$Household;", Cond.instanceMethod yX0_unassessedBefore, Cond.initialized RX0, Cond.selects RX0 yX0_unassessedBefore yX0_unassessedBefore, Cond.code yX0_unassessedBefore cX0_unassessedBefore 4 (some .int), Cond.fieldLink RX0 9 "TaperOffice$Household" "firstMonth" "I", Cond.fieldLink RX0 23 "TaperOffice$Household" "assessments" "[I", Cond.methodLink RX0 55 yX0_dueIn, Cond.instanceMethod yX0_dueIn, Cond.selects RX0 yX0_dueIn yX0_dueIn, Cond.code yX0_dueIn cX0_dueIn 3 (some .int), Cond.fieldLink RX0 17 "TaperOffice$Household" "values" "[[I", Cond.constant RX0 44 (1600000), Cond.methodLink RX0 45 yX0_needIn, Cond.instanceMethod yX0_needIn, Cond.selects RX0 yX0_needIn yX0_needIn]
def wsX1_unassessed_r2 : List Cond := [Cond.code yX0_needIn cX0_needIn 3 (some .int), Cond.constant RX0 33 (60000), Cond.methodLink RX0 34 Lib.Math.min.name, Cond.static Lib.Math.min.name, Cond.initialized "java/lang/Math", Cond.code Lib.Math.min.name Lib.Math.min.code 2 (some .int), Cond.methodLink RX0 49 yX0_taperIn, Cond.instanceMethod yX0_taperIn, Cond.selects RX0 yX0_taperIn yX0_taperIn, Cond.code yX0_taperIn cX0_taperIn 3 (some .int), Cond.methodLink RX0 40 Lib.Math.max.name, Cond.static Lib.Math.max.name, Cond.code Lib.Math.max.name Lib.Math.max.code 2 (some .int), Cond.methodLink RX0 52 yX0_tariffIn, Cond.instanceMethod yX0_tariffIn, Cond.selects RX0 yX0_tariffIn yX0_tariffIn, Cond.code yX0_tariffIn cX0_tariffIn 4 (some .int), Cond.constant RX0 43 (600000)]
def wsX1_unassessed : List Cond := .code yX1_unassessed cX1_unassessed 2 (some .int) :: ((wsX1_unassessed_r1 ++ wsX1_unassessed_r2) ++ wsX10 ++ wsX00 ++ (vx_atS RX1 124 "java/lang/IndexOutOfBoundsException" ["java/lang/RuntimeException", "java/lang/Exception"]).filter goodWord)
def wsX1_wouldPay_r1 : List Cond := [Cond.fieldLink RX1 19 "TaperOffice" "current" "I", Cond.methodLink RX1 34 yX1_existing, Cond.instanceMethod yX1_existing, Cond.selects RX1 yX1_existing yX1_existing, Cond.initialized RX1, Cond.code yX1_existing cX1_existing 3 (some (.object "TaperOffice$Household")), Cond.classLink RX1 120 "java/lang/IndexOutOfBoundsException", Cond.initialized "java/lang/IndexOutOfBoundsException", Cond.fieldLink RX1 11 "TaperOffice" "rows" "[LTaperOffice$Household;", Cond.instanceMethod yX0_paymentIn, Cond.initialized RX0, Cond.selects RX0 yX0_paymentIn yX0_paymentIn, Cond.code yX0_paymentIn cX0_paymentIn 4 (some .int), Cond.methodLink RX0 65 yX0_unassessedBefore, Cond.instanceMethod yX0_unassessedBefore, Cond.selects RX0 yX0_unassessedBefore yX0_unassessedBefore, Cond.code yX0_unassessedBefore cX0_unassessedBefore 4 (some .int), Cond.fieldLink RX0 9 "TaperOffice$Household" "firstMonth" "I", Cond.fieldLink RX0 23 "TaperOffice$Household" "assessments" "[I", Cond.methodLink RX0 55 yX0_dueIn, Cond.instanceMethod yX0_dueIn, Cond.selects RX0 yX0_dueIn yX0_dueIn, Cond.code yX0_dueIn cX0_dueIn 3 (some .int), Cond.fieldLink RX0 17 "TaperOffice$Household" "values" "[[I"]
def wsX1_wouldPay_r2 : List Cond := [Cond.constant RX0 44 (1600000), Cond.methodLink RX0 45 yX0_needIn, Cond.instanceMethod yX0_needIn, Cond.selects RX0 yX0_needIn yX0_needIn, Cond.code yX0_needIn cX0_needIn 3 (some .int), Cond.constant RX0 33 (60000), Cond.methodLink RX0 34 Lib.Math.min.name, Cond.static Lib.Math.min.name, Cond.initialized "java/lang/Math", Cond.code Lib.Math.min.name Lib.Math.min.code 2 (some .int), Cond.methodLink RX0 49 yX0_taperIn, Cond.instanceMethod yX0_taperIn, Cond.selects RX0 yX0_taperIn yX0_taperIn, Cond.code yX0_taperIn cX0_taperIn 3 (some .int), Cond.methodLink RX0 40 Lib.Math.max.name, Cond.static Lib.Math.max.name, Cond.code Lib.Math.max.name Lib.Math.max.code 2 (some .int), Cond.methodLink RX0 52 yX0_tariffIn, Cond.instanceMethod yX0_tariffIn, Cond.selects RX0 yX0_tariffIn yX0_tariffIn, Cond.code yX0_tariffIn cX0_tariffIn 4 (some .int), Cond.constant RX0 43 (600000), Cond.methodLink RX0 68 yX0_owedAfter, Cond.instanceMethod yX0_owedAfter]
def wsX1_wouldPay_r3 : List Cond := [Cond.selects RX0 yX0_owedAfter yX0_owedAfter, Cond.code yX0_owedAfter cX0_owedAfter 2 (some .int), Cond.fieldLink RX0 58 "TaperOffice$Household" "debt" "I", Cond.methodLink RX0 71 yX0_recoverableIn, Cond.instanceMethod yX0_recoverableIn, Cond.selects RX0 yX0_recoverableIn yX0_recoverableIn, Cond.code yX0_recoverableIn cX0_recoverableIn 6 (some .int), Cond.fieldLink RX0 61 "TaperOffice$Household" "disputes" "Z", Cond.methodLink RX0 74 yX0_arrearsOf, Cond.instanceMethod yX0_arrearsOf, Cond.selects RX0 yX0_arrearsOf yX0_arrearsOf, Cond.code yX0_arrearsOf cX0_arrearsOf 2 (some .int)]
def wsX1_wouldPay : List Cond := .code yX1_wouldPay cX1_wouldPay 3 (some .int) :: ((wsX1_wouldPay_r1 ++ (wsX1_wouldPay_r2 ++ wsX1_wouldPay_r3)) ++ wsX10 ++ wsX00 ++ (vx_atS RX1 124 "java/lang/IndexOutOfBoundsException" ["java/lang/RuntimeException", "java/lang/Exception"]).filter goodWord)
def wsX1_assessed : List Cond := .code yX1_assessed cX1_assessed 4 (some .int) :: ([.methodLink RX1 34 yX1_existing, .instanceMethod yX1_existing, .selects RX1 yX1_existing yX1_existing, .initialized RX1, .code yX1_existing cX1_existing 3 (some (.object "TaperOffice$Household")), .classLink RX1 120 "java/lang/IndexOutOfBoundsException", .initialized "java/lang/IndexOutOfBoundsException", .fieldLink RX1 11 "TaperOffice" "rows" "[LTaperOffice$Household;", .methodLink RX1 86 yX1_checkMonth, .static yX1_checkMonth, .code yX1_checkMonth cX1_checkMonth 1 none] ++ wsX00 ++ wsX10 ++ (vx_atS RX1 124 "java/lang/IndexOutOfBoundsException" ["java/lang/RuntimeException", "java/lang/Exception"]).filter goodWord)
def wsX1_paid : List Cond := .code yX1_paid cX1_paid 4 (some .int) :: ([.methodLink RX1 34 yX1_existing, .instanceMethod yX1_existing, .selects RX1 yX1_existing yX1_existing, .initialized RX1, .code yX1_existing cX1_existing 3 (some (.object "TaperOffice$Household")), .classLink RX1 120 "java/lang/IndexOutOfBoundsException", .initialized "java/lang/IndexOutOfBoundsException", .fieldLink RX1 11 "TaperOffice" "rows" "[LTaperOffice$Household;", .methodLink RX1 86 yX1_checkMonth, .static yX1_checkMonth, .code yX1_checkMonth cX1_checkMonth 1 none] ++ wsX00 ++ wsX10 ++ (vx_atS RX1 124 "java/lang/IndexOutOfBoundsException" ["java/lang/RuntimeException", "java/lang/Exception"]).filter goodWord)
def wsX1_debt : List Cond := .code yX1_debt cX1_debt 2 (some .int) :: ([.methodLink RX1 34 yX1_existing, .instanceMethod yX1_existing, .selects RX1 yX1_existing yX1_existing, .initialized RX1, .code yX1_existing cX1_existing 3 (some (.object "TaperOffice$Household")), .classLink RX1 120 "java/lang/IndexOutOfBoundsException", .initialized "java/lang/IndexOutOfBoundsException", .fieldLink RX1 11 "TaperOffice" "rows" "[LTaperOffice$Household;"] ++ wsX00 ++ wsX10 ++ (vx_atS RX1 124 "java/lang/IndexOutOfBoundsException" ["java/lang/RuntimeException", "java/lang/Exception"]).filter goodWord)
def wsX1_recovered : List Cond := .code yX1_recovered cX1_recovered 2 (some .int) :: ([.methodLink RX1 34 yX1_existing, .instanceMethod yX1_existing, .selects RX1 yX1_existing yX1_existing, .initialized RX1, .code yX1_existing cX1_existing 3 (some (.object "TaperOffice$Household")), .classLink RX1 120 "java/lang/IndexOutOfBoundsException", .initialized "java/lang/IndexOutOfBoundsException", .fieldLink RX1 11 "TaperOffice" "rows" "[LTaperOffice$Household;"] ++ wsX00 ++ wsX10 ++ (vx_atS RX1 124 "java/lang/IndexOutOfBoundsException" ["java/lang/RuntimeException", "java/lang/Exception"]).filter goodWord)
def wsX2_init : List Cond := .code yX2_init cX2_init 1 none :: ([.methodLink RX2 1 objectInit, .instanceMethod objectInit, .code objectInit ⟨#[0xb1]⟩ 1 none, .arrayClass .int, .fieldLink RX2 7 "TaperOfficeModel" "added" "[I", .fieldLink RX2 13 "TaperOfficeModel" "changes" "[I", .fieldLink RX2 16 "TaperOfficeModel" "fact" "[I", .fieldLink RX2 19 "TaperOfficeModel" "from" "[I", .fieldLink RX2 22 "TaperOfficeModel" "value" "[I", .fieldLink RX2 25 "TaperOfficeModel" "assessed" "[I", .fieldLink RX2 28 "TaperOfficeModel" "paid" "[I", .fieldLink RX2 31 "TaperOfficeModel" "debt" "[I", .fieldLink RX2 34 "TaperOfficeModel" "recovered" "[I", .arrayClass .boolean, .fieldLink RX2 37 "TaperOfficeModel" "disputes" "[Z"] ++ wsX20)
def wsX2_thrown : List Cond := .code yX2_thrown cX2_thrown 1 (some .int) :: ([.fieldLink RX2 41 "TaperOfficeModel" "thrown" "I"] ++ wsX20)
def wsX2_fails : List Cond := .code yX2_fails cX2_fails 2 (some .int) :: ([.fieldLink RX2 41 "TaperOfficeModel" "thrown" "I"] ++ wsX20)
def wsX2_in : List Cond := .code yX2_in cX2_in 3 (some .boolean) :: ([])
def wsX2_isHome : List Cond := .code yX2_isHome cX2_isHome 2 (some .boolean) :: ([.fieldLink RX2 45 "TaperOfficeModel" "homes" "I", .methodLink RX2 48 yX2_in, .static yX2_in, .initialized RX2, .code yX2_in cX2_in 3 (some .boolean)] ++ wsX20)
def wsX2_isAsked : List Cond := .code yX2_isAsked cX2_isAsked 3 (some .boolean) :: ([.fieldLink RX2 41 "TaperOfficeModel" "thrown" "I", .methodLink RX2 52 yX2_isHome, .instanceMethod yX2_isHome, .selects RX2 yX2_isHome yX2_isHome, .initialized RX2, .code yX2_isHome cX2_isHome 2 (some .boolean), .fieldLink RX2 45 "TaperOfficeModel" "homes" "I", .methodLink RX2 48 yX2_in, .static yX2_in, .code yX2_in cX2_in 3 (some .boolean)] ++ wsX20)
def wsX2_lowest : List Cond := .code yX2_lowest cX2_lowest 1 (some .int) :: ([])
def wsX2_greatest : List Cond := .code yX2_greatest cX2_greatest 1 (some .int) :: ([.constant RX2 56 (10000000), .constant RX2 57 (1000000)])
def wsX2_factOf : List Cond := .code yX2_factOf cX2_factOf 8 (some .int) :: ([.fieldLink RX2 13 "TaperOfficeModel" "changes" "[I", .fieldLink RX2 16 "TaperOfficeModel" "fact" "[I", .fieldLink RX2 19 "TaperOfficeModel" "from" "[I", .fieldLink RX2 22 "TaperOfficeModel" "value" "[I", .methodLink RX2 58 yX2_lowest, .static yX2_lowest, .initialized RX2, .code yX2_lowest cX2_lowest 1 (some .int)] ++ wsX20)
def wsX2_needOf : List Cond := .code yX2_needOf cX2_needOf 4 (some .int) :: ([.constant RX2 66 (60000), .methodLink RX2 62 yX2_factOf, .instanceMethod yX2_factOf, .selects RX2 yX2_factOf yX2_factOf, .initialized RX2, .code yX2_factOf cX2_factOf 8 (some .int), .fieldLink RX2 13 "TaperOfficeModel" "changes" "[I", .fieldLink RX2 16 "TaperOfficeModel" "fact" "[I", .fieldLink RX2 19 "TaperOfficeModel" "from" "[I", .fieldLink RX2 22 "TaperOfficeModel" "value" "[I", .methodLink RX2 58 yX2_lowest, .static yX2_lowest, .code yX2_lowest cX2_lowest 1 (some .int)] ++ wsX20)
def wsX2_taperOf : List Cond := .code yX2_taperOf cX2_taperOf 4 (some .int) :: ([.methodLink RX2 62 yX2_factOf, .instanceMethod yX2_factOf, .selects RX2 yX2_factOf yX2_factOf, .initialized RX2, .code yX2_factOf cX2_factOf 8 (some .int), .fieldLink RX2 13 "TaperOfficeModel" "changes" "[I", .fieldLink RX2 16 "TaperOfficeModel" "fact" "[I", .fieldLink RX2 19 "TaperOfficeModel" "from" "[I", .fieldLink RX2 22 "TaperOfficeModel" "value" "[I", .methodLink RX2 58 yX2_lowest, .static yX2_lowest, .code yX2_lowest cX2_lowest 1 (some .int)] ++ wsX20)
def wsX2_tariffOf : List Cond := .code yX2_tariffOf cX2_tariffOf 4 (some .int) :: ([.constant RX2 67 (600000), .methodLink RX2 62 yX2_factOf, .instanceMethod yX2_factOf, .selects RX2 yX2_factOf yX2_factOf, .initialized RX2, .code yX2_factOf cX2_factOf 8 (some .int), .fieldLink RX2 13 "TaperOfficeModel" "changes" "[I", .fieldLink RX2 16 "TaperOfficeModel" "fact" "[I", .fieldLink RX2 19 "TaperOfficeModel" "from" "[I", .fieldLink RX2 22 "TaperOfficeModel" "value" "[I", .methodLink RX2 58 yX2_lowest, .static yX2_lowest, .code yX2_lowest cX2_lowest 1 (some .int)] ++ wsX20)
def wsX2_dueOf_r1 : List Cond := [Cond.constant RX2 78 (1600000), Cond.methodLink RX2 68 yX2_needOf, Cond.instanceMethod yX2_needOf, Cond.selects RX2 yX2_needOf yX2_needOf, Cond.initialized RX2, Cond.code yX2_needOf cX2_needOf 4 (some .int), Cond.constant RX2 66 (60000), Cond.methodLink RX2 62 yX2_factOf, Cond.instanceMethod yX2_factOf, Cond.selects RX2 yX2_factOf yX2_factOf, Cond.code yX2_factOf cX2_factOf 8 (some .int), Cond.fieldLink RX2 13 "TaperOfficeModel" "changes" "[I", Cond.fieldLink RX2 16 "TaperOfficeModel" "fact" "[I", Cond.fieldLink RX2 19 "TaperOfficeModel" "from" "[I", Cond.fieldLink RX2 22 "TaperOfficeModel" "value" "[I", Cond.methodLink RX2 58 yX2_lowest, Cond.static yX2_lowest, Cond.code yX2_lowest cX2_lowest 1 (some .int), Cond.methodLink RX2 72 yX2_taperOf, Cond.instanceMethod yX2_taperOf, Cond.selects RX2 yX2_taperOf yX2_taperOf, Cond.code yX2_taperOf cX2_taperOf 4 (some .int), Cond.methodLink RX2 75 yX2_tariffOf, Cond.instanceMethod yX2_tariffOf]
def wsX2_dueOf_r2 : List Cond := [Cond.selects RX2 yX2_tariffOf yX2_tariffOf, Cond.code yX2_tariffOf cX2_tariffOf 4 (some .int), Cond.constant RX2 67 (600000)]
def wsX2_dueOf : List Cond := .code yX2_dueOf cX2_dueOf 4 (some .int) :: ((wsX2_dueOf_r1 ++ wsX2_dueOf_r2) ++ wsX20)
def wsX2_openOf_r1 : List Cond := [Cond.fieldLink RX2 7 "TaperOfficeModel" "added" "[I", Cond.fieldLink RX2 79 "TaperOfficeModel" "current" "I", Cond.fieldLink RX2 25 "TaperOfficeModel" "assessed" "[I", Cond.methodLink RX2 82 yX2_dueOf, Cond.instanceMethod yX2_dueOf, Cond.selects RX2 yX2_dueOf yX2_dueOf, Cond.initialized RX2, Cond.code yX2_dueOf cX2_dueOf 4 (some .int), Cond.constant RX2 78 (1600000), Cond.methodLink RX2 68 yX2_needOf, Cond.instanceMethod yX2_needOf, Cond.selects RX2 yX2_needOf yX2_needOf, Cond.code yX2_needOf cX2_needOf 4 (some .int), Cond.constant RX2 66 (60000), Cond.methodLink RX2 62 yX2_factOf, Cond.instanceMethod yX2_factOf, Cond.selects RX2 yX2_factOf yX2_factOf, Cond.code yX2_factOf cX2_factOf 8 (some .int), Cond.fieldLink RX2 13 "TaperOfficeModel" "changes" "[I", Cond.fieldLink RX2 16 "TaperOfficeModel" "fact" "[I", Cond.fieldLink RX2 19 "TaperOfficeModel" "from" "[I", Cond.fieldLink RX2 22 "TaperOfficeModel" "value" "[I", Cond.methodLink RX2 58 yX2_lowest, Cond.static yX2_lowest]
def wsX2_openOf_r2 : List Cond := [Cond.code yX2_lowest cX2_lowest 1 (some .int), Cond.methodLink RX2 72 yX2_taperOf, Cond.instanceMethod yX2_taperOf, Cond.selects RX2 yX2_taperOf yX2_taperOf, Cond.code yX2_taperOf cX2_taperOf 4 (some .int), Cond.methodLink RX2 75 yX2_tariffOf, Cond.instanceMethod yX2_tariffOf, Cond.selects RX2 yX2_tariffOf yX2_tariffOf, Cond.code yX2_tariffOf cX2_tariffOf 4 (some .int), Cond.constant RX2 67 (600000)]
def wsX2_openOf : List Cond := .code yX2_openOf cX2_openOf 4 (some .int) :: ((wsX2_openOf_r1 ++ wsX2_openOf_r2) ++ wsX20)
def wsX2_least : List Cond := .code yX2_least cX2_least 2 (some .int) :: ([])
def wsX2_reckons_r1 : List Cond := [Cond.fieldLink RX2 31 "TaperOfficeModel" "debt" "[I", Cond.fieldLink RX2 79 "TaperOfficeModel" "current" "I", Cond.fieldLink RX2 91 "TaperOfficeModel" "debtThen" "I", Cond.fieldLink RX2 37 "TaperOfficeModel" "disputes" "[Z", Cond.fieldLink RX2 94 "TaperOfficeModel" "taken" "I", Cond.fieldLink RX2 97 "TaperOfficeModel" "pay" "I", Cond.methodLink RX2 85 yX2_openOf, Cond.instanceMethod yX2_openOf, Cond.selects RX2 yX2_openOf yX2_openOf, Cond.initialized RX2, Cond.code yX2_openOf cX2_openOf 4 (some .int), Cond.fieldLink RX2 7 "TaperOfficeModel" "added" "[I", Cond.fieldLink RX2 25 "TaperOfficeModel" "assessed" "[I", Cond.methodLink RX2 82 yX2_dueOf, Cond.instanceMethod yX2_dueOf, Cond.selects RX2 yX2_dueOf yX2_dueOf, Cond.code yX2_dueOf cX2_dueOf 4 (some .int), Cond.constant RX2 78 (1600000), Cond.methodLink RX2 68 yX2_needOf, Cond.instanceMethod yX2_needOf, Cond.selects RX2 yX2_needOf yX2_needOf, Cond.code yX2_needOf cX2_needOf 4 (some .int), Cond.constant RX2 66 (60000), Cond.methodLink RX2 62 yX2_factOf]
def wsX2_reckons_r2 : List Cond := [Cond.instanceMethod yX2_factOf, Cond.selects RX2 yX2_factOf yX2_factOf, Cond.code yX2_factOf cX2_factOf 8 (some .int), Cond.fieldLink RX2 13 "TaperOfficeModel" "changes" "[I", Cond.fieldLink RX2 16 "TaperOfficeModel" "fact" "[I", Cond.fieldLink RX2 19 "TaperOfficeModel" "from" "[I", Cond.fieldLink RX2 22 "TaperOfficeModel" "value" "[I", Cond.methodLink RX2 58 yX2_lowest, Cond.static yX2_lowest, Cond.code yX2_lowest cX2_lowest 1 (some .int), Cond.methodLink RX2 72 yX2_taperOf, Cond.instanceMethod yX2_taperOf, Cond.selects RX2 yX2_taperOf yX2_taperOf, Cond.code yX2_taperOf cX2_taperOf 4 (some .int), Cond.methodLink RX2 75 yX2_tariffOf, Cond.instanceMethod yX2_tariffOf, Cond.selects RX2 yX2_tariffOf yX2_tariffOf, Cond.code yX2_tariffOf cX2_tariffOf 4 (some .int), Cond.constant RX2 67 (600000), Cond.methodLink RX2 88 yX2_least, Cond.static yX2_least, Cond.code yX2_least cX2_least 2 (some .int)]
def wsX2_reckons : List Cond := .code yX2_reckons cX2_reckons 7 none :: ((wsX2_reckons_r1 ++ wsX2_reckons_r2) ++ wsX20)
def wsX2_add : List Cond := .code yX2_add cX2_add 1 (some .int) :: ([.fieldLink RX2 41 "TaperOfficeModel" "thrown" "I", .fieldLink RX2 45 "TaperOfficeModel" "homes" "I", .fieldLink RX2 79 "TaperOfficeModel" "current" "I", .fieldLink RX2 7 "TaperOfficeModel" "added" "[I", .methodLink RX2 100 yX2_fails, .instanceMethod yX2_fails, .selects RX2 yX2_fails yX2_fails, .initialized RX2, .code yX2_fails cX2_fails 2 (some .int)] ++ wsX20)
def wsX2_tell_r1 : List Cond := [Cond.fieldLink RX2 41 "TaperOfficeModel" "thrown" "I", Cond.fieldLink RX2 13 "TaperOfficeModel" "changes" "[I", Cond.fieldLink RX2 16 "TaperOfficeModel" "fact" "[I", Cond.fieldLink RX2 19 "TaperOfficeModel" "from" "[I", Cond.fieldLink RX2 22 "TaperOfficeModel" "value" "[I", Cond.methodLink RX2 52 yX2_isHome, Cond.instanceMethod yX2_isHome, Cond.selects RX2 yX2_isHome yX2_isHome, Cond.initialized RX2, Cond.code yX2_isHome cX2_isHome 2 (some .boolean), Cond.fieldLink RX2 45 "TaperOfficeModel" "homes" "I", Cond.methodLink RX2 48 yX2_in, Cond.static yX2_in, Cond.code yX2_in cX2_in 3 (some .boolean), Cond.methodLink RX2 100 yX2_fails, Cond.instanceMethod yX2_fails, Cond.selects RX2 yX2_fails yX2_fails, Cond.code yX2_fails cX2_fails 2 (some .int), Cond.methodLink RX2 58 yX2_lowest, Cond.static yX2_lowest, Cond.code yX2_lowest cX2_lowest 1 (some .int), Cond.methodLink RX2 103 yX2_greatest, Cond.static yX2_greatest, Cond.code yX2_greatest cX2_greatest 1 (some .int)]
def wsX2_tell_r2 : List Cond := [Cond.constant RX2 56 (10000000), Cond.constant RX2 57 (1000000)]
def wsX2_tell : List Cond := .code yX2_tell cX2_tell 6 (some .int) :: ((wsX2_tell_r1 ++ wsX2_tell_r2) ++ wsX20)
def wsX2_dispute : List Cond := .code yX2_dispute cX2_dispute 4 (some .boolean) :: ([.fieldLink RX2 41 "TaperOfficeModel" "thrown" "I", .fieldLink RX2 37 "TaperOfficeModel" "disputes" "[Z", .methodLink RX2 52 yX2_isHome, .instanceMethod yX2_isHome, .selects RX2 yX2_isHome yX2_isHome, .initialized RX2, .code yX2_isHome cX2_isHome 2 (some .boolean), .fieldLink RX2 45 "TaperOfficeModel" "homes" "I", .methodLink RX2 48 yX2_in, .static yX2_in, .code yX2_in cX2_in 3 (some .boolean)] ++ wsX20)
def wsX2_payBack : List Cond := .code yX2_payBack cX2_payBack 3 (some .int) :: ([.fieldLink RX2 41 "TaperOfficeModel" "thrown" "I", .constant RX2 57 (1000000), .fieldLink RX2 31 "TaperOfficeModel" "debt" "[I", .fieldLink RX2 34 "TaperOfficeModel" "recovered" "[I", .methodLink RX2 52 yX2_isHome, .instanceMethod yX2_isHome, .selects RX2 yX2_isHome yX2_isHome, .initialized RX2, .code yX2_isHome cX2_isHome 2 (some .boolean), .fieldLink RX2 45 "TaperOfficeModel" "homes" "I", .methodLink RX2 48 yX2_in, .static yX2_in, .code yX2_in cX2_in 3 (some .boolean), .methodLink RX2 100 yX2_fails, .instanceMethod yX2_fails, .selects RX2 yX2_fails yX2_fails, .code yX2_fails cX2_fails 2 (some .int)] ++ wsX20)
def wsX2_households : List Cond := .code yX2_households cX2_households 1 (some .int) :: ([.fieldLink RX2 41 "TaperOfficeModel" "thrown" "I", .fieldLink RX2 45 "TaperOfficeModel" "homes" "I"] ++ wsX20)
def wsX2_close_r1 : List Cond := [Cond.fieldLink RX2 41 "TaperOfficeModel" "thrown" "I", Cond.fieldLink RX2 79 "TaperOfficeModel" "current" "I", Cond.fieldLink RX2 45 "TaperOfficeModel" "homes" "I", Cond.fieldLink RX2 31 "TaperOfficeModel" "debt" "[I", Cond.fieldLink RX2 91 "TaperOfficeModel" "debtThen" "I", Cond.fieldLink RX2 94 "TaperOfficeModel" "taken" "I", Cond.fieldLink RX2 34 "TaperOfficeModel" "recovered" "[I", Cond.fieldLink RX2 28 "TaperOfficeModel" "paid" "[I", Cond.fieldLink RX2 97 "TaperOfficeModel" "pay" "I", Cond.fieldLink RX2 7 "TaperOfficeModel" "added" "[I", Cond.fieldLink RX2 25 "TaperOfficeModel" "assessed" "[I", Cond.methodLink RX2 100 yX2_fails, Cond.instanceMethod yX2_fails, Cond.selects RX2 yX2_fails yX2_fails, Cond.initialized RX2, Cond.code yX2_fails cX2_fails 2 (some .int), Cond.methodLink RX2 106 yX2_reckons, Cond.instanceMethod yX2_reckons, Cond.selects RX2 yX2_reckons yX2_reckons, Cond.code yX2_reckons cX2_reckons 7 none, Cond.fieldLink RX2 37 "TaperOfficeModel" "disputes" "[Z", Cond.methodLink RX2 85 yX2_openOf, Cond.instanceMethod yX2_openOf, Cond.selects RX2 yX2_openOf yX2_openOf]
def wsX2_close_r2 : List Cond := [Cond.code yX2_openOf cX2_openOf 4 (some .int), Cond.methodLink RX2 82 yX2_dueOf, Cond.instanceMethod yX2_dueOf, Cond.selects RX2 yX2_dueOf yX2_dueOf, Cond.code yX2_dueOf cX2_dueOf 4 (some .int), Cond.constant RX2 78 (1600000), Cond.methodLink RX2 68 yX2_needOf, Cond.instanceMethod yX2_needOf, Cond.selects RX2 yX2_needOf yX2_needOf, Cond.code yX2_needOf cX2_needOf 4 (some .int), Cond.constant RX2 66 (60000), Cond.methodLink RX2 62 yX2_factOf, Cond.instanceMethod yX2_factOf, Cond.selects RX2 yX2_factOf yX2_factOf, Cond.code yX2_factOf cX2_factOf 8 (some .int), Cond.fieldLink RX2 13 "TaperOfficeModel" "changes" "[I", Cond.fieldLink RX2 16 "TaperOfficeModel" "fact" "[I", Cond.fieldLink RX2 19 "TaperOfficeModel" "from" "[I", Cond.fieldLink RX2 22 "TaperOfficeModel" "value" "[I", Cond.methodLink RX2 58 yX2_lowest, Cond.static yX2_lowest, Cond.code yX2_lowest cX2_lowest 1 (some .int), Cond.methodLink RX2 72 yX2_taperOf, Cond.instanceMethod yX2_taperOf]
def wsX2_close_r3 : List Cond := [Cond.selects RX2 yX2_taperOf yX2_taperOf, Cond.code yX2_taperOf cX2_taperOf 4 (some .int), Cond.methodLink RX2 75 yX2_tariffOf, Cond.instanceMethod yX2_tariffOf, Cond.selects RX2 yX2_tariffOf yX2_tariffOf, Cond.code yX2_tariffOf cX2_tariffOf 4 (some .int), Cond.constant RX2 67 (600000), Cond.methodLink RX2 88 yX2_least, Cond.static yX2_least, Cond.code yX2_least cX2_least 2 (some .int)]
def wsX2_close : List Cond := .code yX2_close cX2_close 4 (some .int) :: ((wsX2_close_r1 ++ (wsX2_close_r2 ++ wsX2_close_r3)) ++ wsX20)
def wsX2_month : List Cond := .code yX2_month cX2_month 1 (some .int) :: ([.fieldLink RX2 41 "TaperOfficeModel" "thrown" "I", .fieldLink RX2 79 "TaperOfficeModel" "current" "I"] ++ wsX20)
def wsX2_fact_r1 : List Cond := [Cond.methodLink RX2 110 yX2_isAsked, Cond.instanceMethod yX2_isAsked, Cond.selects RX2 yX2_isAsked yX2_isAsked, Cond.initialized RX2, Cond.code yX2_isAsked cX2_isAsked 3 (some .boolean), Cond.fieldLink RX2 41 "TaperOfficeModel" "thrown" "I", Cond.methodLink RX2 52 yX2_isHome, Cond.instanceMethod yX2_isHome, Cond.selects RX2 yX2_isHome yX2_isHome, Cond.code yX2_isHome cX2_isHome 2 (some .boolean), Cond.fieldLink RX2 45 "TaperOfficeModel" "homes" "I", Cond.methodLink RX2 48 yX2_in, Cond.static yX2_in, Cond.code yX2_in cX2_in 3 (some .boolean), Cond.methodLink RX2 62 yX2_factOf, Cond.instanceMethod yX2_factOf, Cond.selects RX2 yX2_factOf yX2_factOf, Cond.code yX2_factOf cX2_factOf 8 (some .int), Cond.fieldLink RX2 13 "TaperOfficeModel" "changes" "[I", Cond.fieldLink RX2 16 "TaperOfficeModel" "fact" "[I", Cond.fieldLink RX2 19 "TaperOfficeModel" "from" "[I", Cond.fieldLink RX2 22 "TaperOfficeModel" "value" "[I", Cond.methodLink RX2 58 yX2_lowest, Cond.static yX2_lowest]
def wsX2_fact_r2 : List Cond := [Cond.code yX2_lowest cX2_lowest 1 (some .int), Cond.methodLink RX2 100 yX2_fails, Cond.instanceMethod yX2_fails, Cond.selects RX2 yX2_fails yX2_fails, Cond.code yX2_fails cX2_fails 2 (some .int)]
def wsX2_fact : List Cond := .code yX2_fact cX2_fact 4 (some .int) :: ((wsX2_fact_r1 ++ wsX2_fact_r2) ++ wsX20)
def wsX2_need_r1 : List Cond := [Cond.methodLink RX2 110 yX2_isAsked, Cond.instanceMethod yX2_isAsked, Cond.selects RX2 yX2_isAsked yX2_isAsked, Cond.initialized RX2, Cond.code yX2_isAsked cX2_isAsked 3 (some .boolean), Cond.fieldLink RX2 41 "TaperOfficeModel" "thrown" "I", Cond.methodLink RX2 52 yX2_isHome, Cond.instanceMethod yX2_isHome, Cond.selects RX2 yX2_isHome yX2_isHome, Cond.code yX2_isHome cX2_isHome 2 (some .boolean), Cond.fieldLink RX2 45 "TaperOfficeModel" "homes" "I", Cond.methodLink RX2 48 yX2_in, Cond.static yX2_in, Cond.code yX2_in cX2_in 3 (some .boolean), Cond.methodLink RX2 68 yX2_needOf, Cond.instanceMethod yX2_needOf, Cond.selects RX2 yX2_needOf yX2_needOf, Cond.code yX2_needOf cX2_needOf 4 (some .int), Cond.constant RX2 66 (60000), Cond.methodLink RX2 62 yX2_factOf, Cond.instanceMethod yX2_factOf, Cond.selects RX2 yX2_factOf yX2_factOf, Cond.code yX2_factOf cX2_factOf 8 (some .int), Cond.fieldLink RX2 13 "TaperOfficeModel" "changes" "[I"]
def wsX2_need_r2 : List Cond := [Cond.fieldLink RX2 16 "TaperOfficeModel" "fact" "[I", Cond.fieldLink RX2 19 "TaperOfficeModel" "from" "[I", Cond.fieldLink RX2 22 "TaperOfficeModel" "value" "[I", Cond.methodLink RX2 58 yX2_lowest, Cond.static yX2_lowest, Cond.code yX2_lowest cX2_lowest 1 (some .int)]
def wsX2_need : List Cond := .code yX2_need cX2_need 3 (some .int) :: ((wsX2_need_r1 ++ wsX2_need_r2) ++ wsX20)
def wsX2_taper_r1 : List Cond := [Cond.methodLink RX2 110 yX2_isAsked, Cond.instanceMethod yX2_isAsked, Cond.selects RX2 yX2_isAsked yX2_isAsked, Cond.initialized RX2, Cond.code yX2_isAsked cX2_isAsked 3 (some .boolean), Cond.fieldLink RX2 41 "TaperOfficeModel" "thrown" "I", Cond.methodLink RX2 52 yX2_isHome, Cond.instanceMethod yX2_isHome, Cond.selects RX2 yX2_isHome yX2_isHome, Cond.code yX2_isHome cX2_isHome 2 (some .boolean), Cond.fieldLink RX2 45 "TaperOfficeModel" "homes" "I", Cond.methodLink RX2 48 yX2_in, Cond.static yX2_in, Cond.code yX2_in cX2_in 3 (some .boolean), Cond.methodLink RX2 72 yX2_taperOf, Cond.instanceMethod yX2_taperOf, Cond.selects RX2 yX2_taperOf yX2_taperOf, Cond.code yX2_taperOf cX2_taperOf 4 (some .int), Cond.methodLink RX2 62 yX2_factOf, Cond.instanceMethod yX2_factOf, Cond.selects RX2 yX2_factOf yX2_factOf, Cond.code yX2_factOf cX2_factOf 8 (some .int), Cond.fieldLink RX2 13 "TaperOfficeModel" "changes" "[I", Cond.fieldLink RX2 16 "TaperOfficeModel" "fact" "[I"]
def wsX2_taper_r2 : List Cond := [Cond.fieldLink RX2 19 "TaperOfficeModel" "from" "[I", Cond.fieldLink RX2 22 "TaperOfficeModel" "value" "[I", Cond.methodLink RX2 58 yX2_lowest, Cond.static yX2_lowest, Cond.code yX2_lowest cX2_lowest 1 (some .int)]
def wsX2_taper : List Cond := .code yX2_taper cX2_taper 3 (some .int) :: ((wsX2_taper_r1 ++ wsX2_taper_r2) ++ wsX20)
def wsX2_tariff_r1 : List Cond := [Cond.methodLink RX2 110 yX2_isAsked, Cond.instanceMethod yX2_isAsked, Cond.selects RX2 yX2_isAsked yX2_isAsked, Cond.initialized RX2, Cond.code yX2_isAsked cX2_isAsked 3 (some .boolean), Cond.fieldLink RX2 41 "TaperOfficeModel" "thrown" "I", Cond.methodLink RX2 52 yX2_isHome, Cond.instanceMethod yX2_isHome, Cond.selects RX2 yX2_isHome yX2_isHome, Cond.code yX2_isHome cX2_isHome 2 (some .boolean), Cond.fieldLink RX2 45 "TaperOfficeModel" "homes" "I", Cond.methodLink RX2 48 yX2_in, Cond.static yX2_in, Cond.code yX2_in cX2_in 3 (some .boolean), Cond.methodLink RX2 75 yX2_tariffOf, Cond.instanceMethod yX2_tariffOf, Cond.selects RX2 yX2_tariffOf yX2_tariffOf, Cond.code yX2_tariffOf cX2_tariffOf 4 (some .int), Cond.constant RX2 67 (600000), Cond.methodLink RX2 62 yX2_factOf, Cond.instanceMethod yX2_factOf, Cond.selects RX2 yX2_factOf yX2_factOf, Cond.code yX2_factOf cX2_factOf 8 (some .int), Cond.fieldLink RX2 13 "TaperOfficeModel" "changes" "[I"]
def wsX2_tariff_r2 : List Cond := [Cond.fieldLink RX2 16 "TaperOfficeModel" "fact" "[I", Cond.fieldLink RX2 19 "TaperOfficeModel" "from" "[I", Cond.fieldLink RX2 22 "TaperOfficeModel" "value" "[I", Cond.methodLink RX2 58 yX2_lowest, Cond.static yX2_lowest, Cond.code yX2_lowest cX2_lowest 1 (some .int)]
def wsX2_tariff : List Cond := .code yX2_tariff cX2_tariff 3 (some .int) :: ((wsX2_tariff_r1 ++ wsX2_tariff_r2) ++ wsX20)
def wsX2_due_r1 : List Cond := [Cond.methodLink RX2 110 yX2_isAsked, Cond.instanceMethod yX2_isAsked, Cond.selects RX2 yX2_isAsked yX2_isAsked, Cond.initialized RX2, Cond.code yX2_isAsked cX2_isAsked 3 (some .boolean), Cond.fieldLink RX2 41 "TaperOfficeModel" "thrown" "I", Cond.methodLink RX2 52 yX2_isHome, Cond.instanceMethod yX2_isHome, Cond.selects RX2 yX2_isHome yX2_isHome, Cond.code yX2_isHome cX2_isHome 2 (some .boolean), Cond.fieldLink RX2 45 "TaperOfficeModel" "homes" "I", Cond.methodLink RX2 48 yX2_in, Cond.static yX2_in, Cond.code yX2_in cX2_in 3 (some .boolean), Cond.methodLink RX2 82 yX2_dueOf, Cond.instanceMethod yX2_dueOf, Cond.selects RX2 yX2_dueOf yX2_dueOf, Cond.code yX2_dueOf cX2_dueOf 4 (some .int), Cond.constant RX2 78 (1600000), Cond.methodLink RX2 68 yX2_needOf, Cond.instanceMethod yX2_needOf, Cond.selects RX2 yX2_needOf yX2_needOf, Cond.code yX2_needOf cX2_needOf 4 (some .int), Cond.constant RX2 66 (60000)]
def wsX2_due_r2 : List Cond := [Cond.methodLink RX2 62 yX2_factOf, Cond.instanceMethod yX2_factOf, Cond.selects RX2 yX2_factOf yX2_factOf, Cond.code yX2_factOf cX2_factOf 8 (some .int), Cond.fieldLink RX2 13 "TaperOfficeModel" "changes" "[I", Cond.fieldLink RX2 16 "TaperOfficeModel" "fact" "[I", Cond.fieldLink RX2 19 "TaperOfficeModel" "from" "[I", Cond.fieldLink RX2 22 "TaperOfficeModel" "value" "[I", Cond.methodLink RX2 58 yX2_lowest, Cond.static yX2_lowest, Cond.code yX2_lowest cX2_lowest 1 (some .int), Cond.methodLink RX2 72 yX2_taperOf, Cond.instanceMethod yX2_taperOf, Cond.selects RX2 yX2_taperOf yX2_taperOf, Cond.code yX2_taperOf cX2_taperOf 4 (some .int), Cond.methodLink RX2 75 yX2_tariffOf, Cond.instanceMethod yX2_tariffOf, Cond.selects RX2 yX2_tariffOf yX2_tariffOf, Cond.code yX2_tariffOf cX2_tariffOf 4 (some .int), Cond.constant RX2 67 (600000)]
def wsX2_due : List Cond := .code yX2_due cX2_due 3 (some .int) :: ((wsX2_due_r1 ++ wsX2_due_r2) ++ wsX20)
def wsX2_unassessed_r1 : List Cond := [Cond.fieldLink RX2 41 "TaperOfficeModel" "thrown" "I", Cond.methodLink RX2 52 yX2_isHome, Cond.instanceMethod yX2_isHome, Cond.selects RX2 yX2_isHome yX2_isHome, Cond.initialized RX2, Cond.code yX2_isHome cX2_isHome 2 (some .boolean), Cond.fieldLink RX2 45 "TaperOfficeModel" "homes" "I", Cond.methodLink RX2 48 yX2_in, Cond.static yX2_in, Cond.code yX2_in cX2_in 3 (some .boolean), Cond.methodLink RX2 85 yX2_openOf, Cond.instanceMethod yX2_openOf, Cond.selects RX2 yX2_openOf yX2_openOf, Cond.code yX2_openOf cX2_openOf 4 (some .int), Cond.fieldLink RX2 7 "TaperOfficeModel" "added" "[I", Cond.fieldLink RX2 79 "TaperOfficeModel" "current" "I", Cond.fieldLink RX2 25 "TaperOfficeModel" "assessed" "[I", Cond.methodLink RX2 82 yX2_dueOf, Cond.instanceMethod yX2_dueOf, Cond.selects RX2 yX2_dueOf yX2_dueOf, Cond.code yX2_dueOf cX2_dueOf 4 (some .int), Cond.constant RX2 78 (1600000), Cond.methodLink RX2 68 yX2_needOf, Cond.instanceMethod yX2_needOf]
def wsX2_unassessed_r2 : List Cond := [Cond.selects RX2 yX2_needOf yX2_needOf, Cond.code yX2_needOf cX2_needOf 4 (some .int), Cond.constant RX2 66 (60000), Cond.methodLink RX2 62 yX2_factOf, Cond.instanceMethod yX2_factOf, Cond.selects RX2 yX2_factOf yX2_factOf, Cond.code yX2_factOf cX2_factOf 8 (some .int), Cond.fieldLink RX2 13 "TaperOfficeModel" "changes" "[I", Cond.fieldLink RX2 16 "TaperOfficeModel" "fact" "[I", Cond.fieldLink RX2 19 "TaperOfficeModel" "from" "[I", Cond.fieldLink RX2 22 "TaperOfficeModel" "value" "[I", Cond.methodLink RX2 58 yX2_lowest, Cond.static yX2_lowest, Cond.code yX2_lowest cX2_lowest 1 (some .int), Cond.methodLink RX2 72 yX2_taperOf, Cond.instanceMethod yX2_taperOf, Cond.selects RX2 yX2_taperOf yX2_taperOf, Cond.code yX2_taperOf cX2_taperOf 4 (some .int), Cond.methodLink RX2 75 yX2_tariffOf, Cond.instanceMethod yX2_tariffOf, Cond.selects RX2 yX2_tariffOf yX2_tariffOf, Cond.code yX2_tariffOf cX2_tariffOf 4 (some .int), Cond.constant RX2 67 (600000), Cond.methodLink RX2 100 yX2_fails]
def wsX2_unassessed_r3 : List Cond := [Cond.instanceMethod yX2_fails, Cond.selects RX2 yX2_fails yX2_fails, Cond.code yX2_fails cX2_fails 2 (some .int)]
def wsX2_unassessed : List Cond := .code yX2_unassessed cX2_unassessed 2 (some .int) :: ((wsX2_unassessed_r1 ++ (wsX2_unassessed_r2 ++ wsX2_unassessed_r3)) ++ wsX20)
def wsX2_wouldPay_r1 : List Cond := [Cond.fieldLink RX2 41 "TaperOfficeModel" "thrown" "I", Cond.fieldLink RX2 79 "TaperOfficeModel" "current" "I", Cond.fieldLink RX2 97 "TaperOfficeModel" "pay" "I", Cond.methodLink RX2 52 yX2_isHome, Cond.instanceMethod yX2_isHome, Cond.selects RX2 yX2_isHome yX2_isHome, Cond.initialized RX2, Cond.code yX2_isHome cX2_isHome 2 (some .boolean), Cond.fieldLink RX2 45 "TaperOfficeModel" "homes" "I", Cond.methodLink RX2 48 yX2_in, Cond.static yX2_in, Cond.code yX2_in cX2_in 3 (some .boolean), Cond.methodLink RX2 100 yX2_fails, Cond.instanceMethod yX2_fails, Cond.selects RX2 yX2_fails yX2_fails, Cond.code yX2_fails cX2_fails 2 (some .int), Cond.methodLink RX2 106 yX2_reckons, Cond.instanceMethod yX2_reckons, Cond.selects RX2 yX2_reckons yX2_reckons, Cond.code yX2_reckons cX2_reckons 7 none, Cond.fieldLink RX2 31 "TaperOfficeModel" "debt" "[I", Cond.fieldLink RX2 91 "TaperOfficeModel" "debtThen" "I", Cond.fieldLink RX2 37 "TaperOfficeModel" "disputes" "[Z", Cond.fieldLink RX2 94 "TaperOfficeModel" "taken" "I"]
def wsX2_wouldPay_r2 : List Cond := [Cond.methodLink RX2 85 yX2_openOf, Cond.instanceMethod yX2_openOf, Cond.selects RX2 yX2_openOf yX2_openOf, Cond.code yX2_openOf cX2_openOf 4 (some .int), Cond.fieldLink RX2 7 "TaperOfficeModel" "added" "[I", Cond.fieldLink RX2 25 "TaperOfficeModel" "assessed" "[I", Cond.methodLink RX2 82 yX2_dueOf, Cond.instanceMethod yX2_dueOf, Cond.selects RX2 yX2_dueOf yX2_dueOf, Cond.code yX2_dueOf cX2_dueOf 4 (some .int), Cond.constant RX2 78 (1600000), Cond.methodLink RX2 68 yX2_needOf, Cond.instanceMethod yX2_needOf, Cond.selects RX2 yX2_needOf yX2_needOf, Cond.code yX2_needOf cX2_needOf 4 (some .int), Cond.constant RX2 66 (60000), Cond.methodLink RX2 62 yX2_factOf, Cond.instanceMethod yX2_factOf, Cond.selects RX2 yX2_factOf yX2_factOf, Cond.code yX2_factOf cX2_factOf 8 (some .int), Cond.fieldLink RX2 13 "TaperOfficeModel" "changes" "[I", Cond.fieldLink RX2 16 "TaperOfficeModel" "fact" "[I", Cond.fieldLink RX2 19 "TaperOfficeModel" "from" "[I", Cond.fieldLink RX2 22 "TaperOfficeModel" "value" "[I"]
def wsX2_wouldPay_r3 : List Cond := [Cond.methodLink RX2 58 yX2_lowest, Cond.static yX2_lowest, Cond.code yX2_lowest cX2_lowest 1 (some .int), Cond.methodLink RX2 72 yX2_taperOf, Cond.instanceMethod yX2_taperOf, Cond.selects RX2 yX2_taperOf yX2_taperOf, Cond.code yX2_taperOf cX2_taperOf 4 (some .int), Cond.methodLink RX2 75 yX2_tariffOf, Cond.instanceMethod yX2_tariffOf, Cond.selects RX2 yX2_tariffOf yX2_tariffOf, Cond.code yX2_tariffOf cX2_tariffOf 4 (some .int), Cond.constant RX2 67 (600000), Cond.methodLink RX2 88 yX2_least, Cond.static yX2_least, Cond.code yX2_least cX2_least 2 (some .int)]
def wsX2_wouldPay : List Cond := .code yX2_wouldPay cX2_wouldPay 2 (some .int) :: ((wsX2_wouldPay_r1 ++ (wsX2_wouldPay_r2 ++ wsX2_wouldPay_r3)) ++ wsX20)
def wsX2_assessed : List Cond := .code yX2_assessed cX2_assessed 3 (some .int) :: ([.fieldLink RX2 25 "TaperOfficeModel" "assessed" "[I", .methodLink RX2 110 yX2_isAsked, .instanceMethod yX2_isAsked, .selects RX2 yX2_isAsked yX2_isAsked, .initialized RX2, .code yX2_isAsked cX2_isAsked 3 (some .boolean), .fieldLink RX2 41 "TaperOfficeModel" "thrown" "I", .methodLink RX2 52 yX2_isHome, .instanceMethod yX2_isHome, .selects RX2 yX2_isHome yX2_isHome, .code yX2_isHome cX2_isHome 2 (some .boolean), .fieldLink RX2 45 "TaperOfficeModel" "homes" "I", .methodLink RX2 48 yX2_in, .static yX2_in, .code yX2_in cX2_in 3 (some .boolean)] ++ wsX20)
def wsX2_paid : List Cond := .code yX2_paid cX2_paid 3 (some .int) :: ([.fieldLink RX2 28 "TaperOfficeModel" "paid" "[I", .methodLink RX2 110 yX2_isAsked, .instanceMethod yX2_isAsked, .selects RX2 yX2_isAsked yX2_isAsked, .initialized RX2, .code yX2_isAsked cX2_isAsked 3 (some .boolean), .fieldLink RX2 41 "TaperOfficeModel" "thrown" "I", .methodLink RX2 52 yX2_isHome, .instanceMethod yX2_isHome, .selects RX2 yX2_isHome yX2_isHome, .code yX2_isHome cX2_isHome 2 (some .boolean), .fieldLink RX2 45 "TaperOfficeModel" "homes" "I", .methodLink RX2 48 yX2_in, .static yX2_in, .code yX2_in cX2_in 3 (some .boolean)] ++ wsX20)
def wsX2_debt : List Cond := .code yX2_debt cX2_debt 2 (some .int) :: ([.fieldLink RX2 41 "TaperOfficeModel" "thrown" "I", .fieldLink RX2 31 "TaperOfficeModel" "debt" "[I", .methodLink RX2 52 yX2_isHome, .instanceMethod yX2_isHome, .selects RX2 yX2_isHome yX2_isHome, .initialized RX2, .code yX2_isHome cX2_isHome 2 (some .boolean), .fieldLink RX2 45 "TaperOfficeModel" "homes" "I", .methodLink RX2 48 yX2_in, .static yX2_in, .code yX2_in cX2_in 3 (some .boolean), .methodLink RX2 100 yX2_fails, .instanceMethod yX2_fails, .selects RX2 yX2_fails yX2_fails, .code yX2_fails cX2_fails 2 (some .int)] ++ wsX20)
def wsX2_recovered : List Cond := .code yX2_recovered cX2_recovered 2 (some .int) :: ([.fieldLink RX2 41 "TaperOfficeModel" "thrown" "I", .fieldLink RX2 34 "TaperOfficeModel" "recovered" "[I", .methodLink RX2 52 yX2_isHome, .instanceMethod yX2_isHome, .selects RX2 yX2_isHome yX2_isHome, .initialized RX2, .code yX2_isHome cX2_isHome 2 (some .boolean), .fieldLink RX2 45 "TaperOfficeModel" "homes" "I", .methodLink RX2 48 yX2_in, .static yX2_in, .code yX2_in cX2_in 3 (some .boolean), .methodLink RX2 100 yX2_fails, .instanceMethod yX2_fails, .selects RX2 yX2_fails yX2_fails, .code yX2_fails cX2_fails 2 (some .int)] ++ wsX20)
def wsJ9_max_7cf53 : List Cond := .code yJ9_max_7cf53 cJ9_max_7cf53 2 (some .int) :: ([])
def wsJ9_min_7cf53 : List Cond := .code yJ9_min_7cf53 cJ9_min_7cf53 2 (some .int) :: ([])
def wsL_add_r1 : List Cond := [Cond.classLink RL 13 "java/lang/IllegalStateException", Cond.methodLink RL 7 yX1_add, Cond.instanceMethod yX1_add, Cond.selects RX1 yX1_add yX1_add, Cond.initialized RX1, Cond.code yX1_add cX1_add 2 (some .int), Cond.classLink RX1 22 "java/lang/IllegalStateException", Cond.initialized "java/lang/IllegalStateException", Cond.fieldLink RX1 15 "TaperOffice" "added" "I", Cond.fieldLink RX1 11 "TaperOffice" "rows" "[LTaperOffice$Household;", Cond.fieldLink RX1 19 "TaperOffice" "current" "I", Cond.classLink RX1 9 RX0, Cond.instantiable RX0 9, Cond.initialized RX0, Cond.instanceMethod yX0_init, Cond.code yX0_init cX0_init 3 none, Cond.methodLink RX0 3 objectInit, Cond.instanceMethod objectInit, Cond.code objectInit ⟨#[0xb1]⟩ 1 none, Cond.fieldLink RX0 9 "TaperOffice$Household" "firstMonth" "I", Cond.classLink RX0 15 "[[I", Cond.arrayClass .int, Cond.fieldLink RX0 17 "TaperOffice$Household" "values" "[[I", Cond.fieldLink RX0 20 "TaperOffice$Household" "since" "[[I"]
def wsL_add_r2 : List Cond := [Cond.fieldLink RX0 23 "TaperOffice$Household" "assessments" "[I", Cond.fieldLink RX0 27 "TaperOffice$Household" "payments" "[I"]
def wsL_add : List Cond := .codeWith yL_add cL_add 3 (some .int) [(0, 8, 11, 13)] :: ((wsL_add_r1 ++ wsL_add_r2) ++ wsX10 ++ wsX00 ++ (vx_atS RX1 26 "java/lang/IllegalStateException" ["java/lang/RuntimeException", "java/lang/Exception"]).filter goodWord)
def wsL_tell_r1 : List Cond := [Cond.classLink RL 19 "java/lang/IndexOutOfBoundsException", Cond.classLink RL 21 "java/lang/IllegalArgumentException", Cond.classLink RL 13 "java/lang/IllegalStateException", Cond.methodLink RL 15 yX1_tell, Cond.instanceMethod yX1_tell, Cond.selects RX1 yX1_tell yX1_tell, Cond.initialized RX1, Cond.code yX1_tell cX1_tell 7 (some .int), Cond.classLink RX1 41 "java/lang/IllegalArgumentException", Cond.initialized "java/lang/IllegalArgumentException", Cond.classLink RX1 22 "java/lang/IllegalStateException", Cond.initialized "java/lang/IllegalStateException", Cond.fieldLink RX1 46 "TaperOffice" "LEAST_VALUES" "[I", Cond.fieldLink RX1 50 "TaperOffice" "MOST_VALUES" "[I", Cond.methodLink RX1 34 yX1_existing, Cond.instanceMethod yX1_existing, Cond.selects RX1 yX1_existing yX1_existing, Cond.code yX1_existing cX1_existing 3 (some (.object "TaperOffice$Household")), Cond.classLink RX1 120 "java/lang/IndexOutOfBoundsException", Cond.initialized "java/lang/IndexOutOfBoundsException", Cond.fieldLink RX1 11 "TaperOffice" "rows" "[LTaperOffice$Household;", Cond.methodLink RX1 38 yX1_checkFact, Cond.static yX1_checkFact, Cond.code yX1_checkFact cX1_checkFact 1 none]
def wsL_tell_r2 : List Cond := [Cond.methodLink RX1 60 yX1_monthCountedFrom, Cond.static yX1_monthCountedFrom, Cond.code yX1_monthCountedFrom cX1_monthCountedFrom 2 (some .int), Cond.instanceMethod yX0_change, Cond.initialized RX0, Cond.selects RX0 yX0_change yX0_change, Cond.code yX0_change cX0_change 5 none, Cond.fieldLink RX0 30 "TaperOffice$Household" "changes" "I", Cond.fieldLink RX0 20 "TaperOffice$Household" "since" "[[I", Cond.fieldLink RX0 17 "TaperOffice$Household" "values" "[[I"]
def wsL_tell : List Cond := .codeWith yL_tell cL_tell 7 (some .int) [(0, 14, 17, 19), (0, 14, 21, 21), (0, 14, 25, 13)] :: ((wsL_tell_r1 ++ wsL_tell_r2) ++ wsX00 ++ wsX10 ++ (vx_atS RX1 45 "java/lang/IllegalArgumentException" ["java/lang/RuntimeException", "java/lang/Exception"]).filter goodWord ++ (vx_atS RX1 26 "java/lang/IllegalStateException" ["java/lang/RuntimeException", "java/lang/Exception"]).filter goodWord ++ (vx_atS RX1 124 "java/lang/IndexOutOfBoundsException" ["java/lang/RuntimeException", "java/lang/Exception"]).filter goodWord)
def wsL_dispute : List Cond := .codeWith yL_dispute cL_dispute 5 (some .int) [(0, 17, 20, 19)] :: ([.classLink RL 19 "java/lang/IndexOutOfBoundsException", .methodLink RL 23 yX1_dispute, .instanceMethod yX1_dispute, .selects RX1 yX1_dispute yX1_dispute, .initialized RX1, .code yX1_dispute cX1_dispute 5 (some .boolean), .methodLink RX1 34 yX1_existing, .instanceMethod yX1_existing, .selects RX1 yX1_existing yX1_existing, .code yX1_existing cX1_existing 3 (some (.object "TaperOffice$Household")), .classLink RX1 120 "java/lang/IndexOutOfBoundsException", .initialized "java/lang/IndexOutOfBoundsException", .fieldLink RX1 11 "TaperOffice" "rows" "[LTaperOffice$Household;"] ++ wsX00 ++ wsX10 ++ (vx_atS RX1 124 "java/lang/IndexOutOfBoundsException" ["java/lang/RuntimeException", "java/lang/Exception"]).filter goodWord)
def wsL_payBack_r1 : List Cond := [Cond.classLink RL 19 "java/lang/IndexOutOfBoundsException", Cond.classLink RL 21 "java/lang/IllegalArgumentException", Cond.classLink RL 13 "java/lang/IllegalStateException", Cond.methodLink RL 27 yX1_payBack, Cond.instanceMethod yX1_payBack, Cond.selects RX1 yX1_payBack yX1_payBack, Cond.initialized RX1, Cond.code yX1_payBack cX1_payBack 4 (some .int), Cond.classLink RX1 41 "java/lang/IllegalArgumentException", Cond.initialized "java/lang/IllegalArgumentException", Cond.classLink RX1 22 "java/lang/IllegalStateException", Cond.initialized "java/lang/IllegalStateException", Cond.constant RX1 72 (1000000), Cond.methodLink RX1 34 yX1_existing, Cond.instanceMethod yX1_existing, Cond.selects RX1 yX1_existing yX1_existing, Cond.code yX1_existing cX1_existing 3 (some (.object "TaperOffice$Household")), Cond.classLink RX1 120 "java/lang/IndexOutOfBoundsException", Cond.initialized "java/lang/IndexOutOfBoundsException", Cond.fieldLink RX1 11 "TaperOffice" "rows" "[LTaperOffice$Household;", Cond.instanceMethod yX0_lowerDebt, Cond.initialized RX0, Cond.selects RX0 yX0_lowerDebt yX0_lowerDebt, Cond.code yX0_lowerDebt cX0_lowerDebt 2 none]
def wsL_payBack_r2 : List Cond := [Cond.fieldLink RX0 58 "TaperOffice$Household" "debt" "I", Cond.fieldLink RX0 84 "TaperOffice$Household" "takenBack" "I"]
def wsL_payBack : List Cond := .codeWith yL_payBack cL_payBack 5 (some .int) [(0, 10, 13, 19), (0, 10, 17, 21), (0, 10, 21, 13)] :: ((wsL_payBack_r1 ++ wsL_payBack_r2) ++ wsX00 ++ wsX10 ++ (vx_atS RX1 45 "java/lang/IllegalArgumentException" ["java/lang/RuntimeException", "java/lang/Exception"]).filter goodWord ++ (vx_atS RX1 26 "java/lang/IllegalStateException" ["java/lang/RuntimeException", "java/lang/Exception"]).filter goodWord ++ (vx_atS RX1 124 "java/lang/IndexOutOfBoundsException" ["java/lang/RuntimeException", "java/lang/Exception"]).filter goodWord)
def wsL_close_r1 : List Cond := [Cond.classLink RL 13 "java/lang/IllegalStateException", Cond.methodLink RL 31 yX1_close, Cond.instanceMethod yX1_close, Cond.selects RX1 yX1_close yX1_close, Cond.initialized RX1, Cond.code yX1_close cX1_close 6 (some .int), Cond.classLink RX1 22 "java/lang/IllegalStateException", Cond.initialized "java/lang/IllegalStateException", Cond.fieldLink RX1 19 "TaperOffice" "current" "I", Cond.fieldLink RX1 11 "TaperOffice" "rows" "[LTaperOffice$Household;", Cond.instanceMethod yX0_settle, Cond.initialized RX0, Cond.selects RX0 yX0_settle yX0_settle, Cond.code yX0_settle cX0_settle 4 (some .int), Cond.fieldLink RX0 58 "TaperOffice$Household" "debt" "I", Cond.fieldLink RX0 9 "TaperOffice$Household" "firstMonth" "I", Cond.fieldLink RX0 23 "TaperOffice$Household" "assessments" "[I", Cond.fieldLink RX0 27 "TaperOffice$Household" "payments" "[I", Cond.methodLink RX0 77 yX0_paymentIn, Cond.instanceMethod yX0_paymentIn, Cond.selects RX0 yX0_paymentIn yX0_paymentIn, Cond.code yX0_paymentIn cX0_paymentIn 4 (some .int), Cond.methodLink RX0 65 yX0_unassessedBefore, Cond.instanceMethod yX0_unassessedBefore]
def wsL_close_r2 : List Cond := [Cond.selects RX0 yX0_unassessedBefore yX0_unassessedBefore, Cond.code yX0_unassessedBefore cX0_unassessedBefore 4 (some .int), Cond.methodLink RX0 55 yX0_dueIn, Cond.instanceMethod yX0_dueIn, Cond.selects RX0 yX0_dueIn yX0_dueIn, Cond.code yX0_dueIn cX0_dueIn 3 (some .int), Cond.fieldLink RX0 17 "TaperOffice$Household" "values" "[[I", Cond.constant RX0 44 (1600000), Cond.methodLink RX0 45 yX0_needIn, Cond.instanceMethod yX0_needIn, Cond.selects RX0 yX0_needIn yX0_needIn, Cond.code yX0_needIn cX0_needIn 3 (some .int), Cond.constant RX0 33 (60000), Cond.methodLink RX0 34 Lib.Math.min.name, Cond.static Lib.Math.min.name, Cond.initialized "java/lang/Math", Cond.code Lib.Math.min.name Lib.Math.min.code 2 (some .int), Cond.methodLink RX0 49 yX0_taperIn, Cond.instanceMethod yX0_taperIn, Cond.selects RX0 yX0_taperIn yX0_taperIn, Cond.code yX0_taperIn cX0_taperIn 3 (some .int), Cond.methodLink RX0 40 Lib.Math.max.name, Cond.static Lib.Math.max.name, Cond.code Lib.Math.max.name Lib.Math.max.code 2 (some .int)]
def wsL_close_r3 : List Cond := [Cond.methodLink RX0 52 yX0_tariffIn, Cond.instanceMethod yX0_tariffIn, Cond.selects RX0 yX0_tariffIn yX0_tariffIn, Cond.code yX0_tariffIn cX0_tariffIn 4 (some .int), Cond.constant RX0 43 (600000), Cond.methodLink RX0 68 yX0_owedAfter, Cond.instanceMethod yX0_owedAfter, Cond.selects RX0 yX0_owedAfter yX0_owedAfter, Cond.code yX0_owedAfter cX0_owedAfter 2 (some .int), Cond.methodLink RX0 71 yX0_recoverableIn, Cond.instanceMethod yX0_recoverableIn, Cond.selects RX0 yX0_recoverableIn yX0_recoverableIn, Cond.code yX0_recoverableIn cX0_recoverableIn 6 (some .int), Cond.fieldLink RX0 61 "TaperOffice$Household" "disputes" "Z", Cond.methodLink RX0 74 yX0_arrearsOf, Cond.instanceMethod yX0_arrearsOf, Cond.selects RX0 yX0_arrearsOf yX0_arrearsOf, Cond.code yX0_arrearsOf cX0_arrearsOf 2 (some .int), Cond.methodLink RX0 80 yX0_lowerDebt, Cond.instanceMethod yX0_lowerDebt, Cond.selects RX0 yX0_lowerDebt yX0_lowerDebt, Cond.code yX0_lowerDebt cX0_lowerDebt 2 none, Cond.fieldLink RX0 84 "TaperOffice$Household" "takenBack" "I"]
def wsL_close : List Cond := .codeWith yL_close cL_close 3 (some .int) [(0, 8, 11, 13)] :: ((wsL_close_r1 ++ (wsL_close_r2 ++ wsL_close_r3)) ++ wsX10 ++ wsX00 ++ (vx_atS RX1 26 "java/lang/IllegalStateException" ["java/lang/RuntimeException", "java/lang/Exception"]).filter goodWord)
def wsL_fact : List Cond := .codeWith yL_fact cL_fact 6 (some .int) [(0, 12, 15, 19), (0, 12, 19, 21)] :: ([.classLink RL 19 "java/lang/IndexOutOfBoundsException", .classLink RL 21 "java/lang/IllegalArgumentException", .methodLink RL 34 yX1_fact, .instanceMethod yX1_fact, .selects RX1 yX1_fact yX1_fact, .initialized RX1, .code yX1_fact cX1_fact 5 (some .int), .methodLink RX1 34 yX1_existing, .instanceMethod yX1_existing, .selects RX1 yX1_existing yX1_existing, .code yX1_existing cX1_existing 3 (some (.object "TaperOffice$Household")), .classLink RX1 120 "java/lang/IndexOutOfBoundsException", .initialized "java/lang/IndexOutOfBoundsException", .fieldLink RX1 11 "TaperOffice" "rows" "[LTaperOffice$Household;", .methodLink RX1 86 yX1_checkMonth, .static yX1_checkMonth, .code yX1_checkMonth cX1_checkMonth 1 none, .methodLink RX1 38 yX1_checkFact, .static yX1_checkFact, .code yX1_checkFact cX1_checkFact 1 none, .classLink RX1 41 "java/lang/IllegalArgumentException", .initialized "java/lang/IllegalArgumentException"] ++ wsX00 ++ wsX10 ++ (vx_atS RX1 124 "java/lang/IndexOutOfBoundsException" ["java/lang/RuntimeException", "java/lang/Exception"]).filter goodWord ++ (vx_atS RX1 45 "java/lang/IllegalArgumentException" ["java/lang/RuntimeException", "java/lang/Exception"]).filter goodWord)
def wsL_need_r1 : List Cond := [Cond.classLink RL 19 "java/lang/IndexOutOfBoundsException", Cond.methodLink RL 38 yX1_need, Cond.instanceMethod yX1_need, Cond.selects RX1 yX1_need yX1_need, Cond.initialized RX1, Cond.code yX1_need cX1_need 4 (some .int), Cond.methodLink RX1 34 yX1_existing, Cond.instanceMethod yX1_existing, Cond.selects RX1 yX1_existing yX1_existing, Cond.code yX1_existing cX1_existing 3 (some (.object "TaperOffice$Household")), Cond.classLink RX1 120 "java/lang/IndexOutOfBoundsException", Cond.initialized "java/lang/IndexOutOfBoundsException", Cond.fieldLink RX1 11 "TaperOffice" "rows" "[LTaperOffice$Household;", Cond.methodLink RX1 86 yX1_checkMonth, Cond.static yX1_checkMonth, Cond.code yX1_checkMonth cX1_checkMonth 1 none, Cond.instanceMethod yX0_needIn, Cond.initialized RX0, Cond.selects RX0 yX0_needIn yX0_needIn, Cond.code yX0_needIn cX0_needIn 3 (some .int), Cond.fieldLink RX0 17 "TaperOffice$Household" "values" "[[I", Cond.constant RX0 33 (60000), Cond.methodLink RX0 34 Lib.Math.min.name, Cond.static Lib.Math.min.name]
def wsL_need_r2 : List Cond := [Cond.initialized "java/lang/Math", Cond.code Lib.Math.min.name Lib.Math.min.code 2 (some .int)]
def wsL_need : List Cond := .codeWith yL_need cL_need 5 (some .int) [(0, 10, 13, 19)] :: ((wsL_need_r1 ++ wsL_need_r2) ++ wsX10 ++ wsX00 ++ (vx_atS RX1 124 "java/lang/IndexOutOfBoundsException" ["java/lang/RuntimeException", "java/lang/Exception"]).filter goodWord)
def wsL_taper_r1 : List Cond := [Cond.classLink RL 19 "java/lang/IndexOutOfBoundsException", Cond.methodLink RL 41 yX1_taper, Cond.instanceMethod yX1_taper, Cond.selects RX1 yX1_taper yX1_taper, Cond.initialized RX1, Cond.code yX1_taper cX1_taper 4 (some .int), Cond.methodLink RX1 34 yX1_existing, Cond.instanceMethod yX1_existing, Cond.selects RX1 yX1_existing yX1_existing, Cond.code yX1_existing cX1_existing 3 (some (.object "TaperOffice$Household")), Cond.classLink RX1 120 "java/lang/IndexOutOfBoundsException", Cond.initialized "java/lang/IndexOutOfBoundsException", Cond.fieldLink RX1 11 "TaperOffice" "rows" "[LTaperOffice$Household;", Cond.methodLink RX1 86 yX1_checkMonth, Cond.static yX1_checkMonth, Cond.code yX1_checkMonth cX1_checkMonth 1 none, Cond.instanceMethod yX0_taperIn, Cond.initialized RX0, Cond.selects RX0 yX0_taperIn yX0_taperIn, Cond.code yX0_taperIn cX0_taperIn 3 (some .int), Cond.fieldLink RX0 17 "TaperOffice$Household" "values" "[[I", Cond.methodLink RX0 40 Lib.Math.max.name, Cond.static Lib.Math.max.name, Cond.initialized "java/lang/Math"]
def wsL_taper_r2 : List Cond := [Cond.code Lib.Math.max.name Lib.Math.max.code 2 (some .int)]
def wsL_taper : List Cond := .codeWith yL_taper cL_taper 5 (some .int) [(0, 10, 13, 19)] :: ((wsL_taper_r1 ++ wsL_taper_r2) ++ wsX10 ++ wsX00 ++ (vx_atS RX1 124 "java/lang/IndexOutOfBoundsException" ["java/lang/RuntimeException", "java/lang/Exception"]).filter goodWord)
def wsL_tariff_r1 : List Cond := [Cond.classLink RL 19 "java/lang/IndexOutOfBoundsException", Cond.methodLink RL 44 yX1_tariff, Cond.instanceMethod yX1_tariff, Cond.selects RX1 yX1_tariff yX1_tariff, Cond.initialized RX1, Cond.code yX1_tariff cX1_tariff 4 (some .int), Cond.methodLink RX1 34 yX1_existing, Cond.instanceMethod yX1_existing, Cond.selects RX1 yX1_existing yX1_existing, Cond.code yX1_existing cX1_existing 3 (some (.object "TaperOffice$Household")), Cond.classLink RX1 120 "java/lang/IndexOutOfBoundsException", Cond.initialized "java/lang/IndexOutOfBoundsException", Cond.fieldLink RX1 11 "TaperOffice" "rows" "[LTaperOffice$Household;", Cond.methodLink RX1 86 yX1_checkMonth, Cond.static yX1_checkMonth, Cond.code yX1_checkMonth cX1_checkMonth 1 none, Cond.instanceMethod yX0_tariffIn, Cond.initialized RX0, Cond.selects RX0 yX0_tariffIn yX0_tariffIn, Cond.code yX0_tariffIn cX0_tariffIn 4 (some .int), Cond.fieldLink RX0 17 "TaperOffice$Household" "values" "[[I", Cond.constant RX0 43 (600000), Cond.methodLink RX0 40 Lib.Math.max.name, Cond.static Lib.Math.max.name]
def wsL_tariff_r2 : List Cond := [Cond.initialized "java/lang/Math", Cond.code Lib.Math.max.name Lib.Math.max.code 2 (some .int)]
def wsL_tariff : List Cond := .codeWith yL_tariff cL_tariff 5 (some .int) [(0, 10, 13, 19)] :: ((wsL_tariff_r1 ++ wsL_tariff_r2) ++ wsX10 ++ wsX00 ++ (vx_atS RX1 124 "java/lang/IndexOutOfBoundsException" ["java/lang/RuntimeException", "java/lang/Exception"]).filter goodWord)
def wsL_due_r1 : List Cond := [Cond.classLink RL 19 "java/lang/IndexOutOfBoundsException", Cond.methodLink RL 47 yX1_due, Cond.instanceMethod yX1_due, Cond.selects RX1 yX1_due yX1_due, Cond.initialized RX1, Cond.code yX1_due cX1_due 4 (some .int), Cond.methodLink RX1 34 yX1_existing, Cond.instanceMethod yX1_existing, Cond.selects RX1 yX1_existing yX1_existing, Cond.code yX1_existing cX1_existing 3 (some (.object "TaperOffice$Household")), Cond.classLink RX1 120 "java/lang/IndexOutOfBoundsException", Cond.initialized "java/lang/IndexOutOfBoundsException", Cond.fieldLink RX1 11 "TaperOffice" "rows" "[LTaperOffice$Household;", Cond.methodLink RX1 86 yX1_checkMonth, Cond.static yX1_checkMonth, Cond.code yX1_checkMonth cX1_checkMonth 1 none, Cond.instanceMethod yX0_dueIn, Cond.initialized RX0, Cond.selects RX0 yX0_dueIn yX0_dueIn, Cond.code yX0_dueIn cX0_dueIn 3 (some .int), Cond.fieldLink RX0 17 "TaperOffice$Household" "values" "[[I", Cond.constant RX0 44 (1600000), Cond.methodLink RX0 45 yX0_needIn, Cond.instanceMethod yX0_needIn]
def wsL_due_r2 : List Cond := [Cond.selects RX0 yX0_needIn yX0_needIn, Cond.code yX0_needIn cX0_needIn 3 (some .int), Cond.constant RX0 33 (60000), Cond.methodLink RX0 34 Lib.Math.min.name, Cond.static Lib.Math.min.name, Cond.initialized "java/lang/Math", Cond.code Lib.Math.min.name Lib.Math.min.code 2 (some .int), Cond.methodLink RX0 49 yX0_taperIn, Cond.instanceMethod yX0_taperIn, Cond.selects RX0 yX0_taperIn yX0_taperIn, Cond.code yX0_taperIn cX0_taperIn 3 (some .int), Cond.methodLink RX0 40 Lib.Math.max.name, Cond.static Lib.Math.max.name, Cond.code Lib.Math.max.name Lib.Math.max.code 2 (some .int), Cond.methodLink RX0 52 yX0_tariffIn, Cond.instanceMethod yX0_tariffIn, Cond.selects RX0 yX0_tariffIn yX0_tariffIn, Cond.code yX0_tariffIn cX0_tariffIn 4 (some .int), Cond.constant RX0 43 (600000)]
def wsL_due : List Cond := .codeWith yL_due cL_due 5 (some .int) [(0, 10, 13, 19)] :: ((wsL_due_r1 ++ wsL_due_r2) ++ wsX10 ++ wsX00 ++ (vx_atS RX1 124 "java/lang/IndexOutOfBoundsException" ["java/lang/RuntimeException", "java/lang/Exception"]).filter goodWord)
def wsL_unassessed_r1 : List Cond := [Cond.classLink RL 19 "java/lang/IndexOutOfBoundsException", Cond.methodLink RL 50 yX1_unassessed, Cond.instanceMethod yX1_unassessed, Cond.selects RX1 yX1_unassessed yX1_unassessed, Cond.initialized RX1, Cond.code yX1_unassessed cX1_unassessed 2 (some .int), Cond.fieldLink RX1 19 "TaperOffice" "current" "I", Cond.methodLink RX1 34 yX1_existing, Cond.instanceMethod yX1_existing, Cond.selects RX1 yX1_existing yX1_existing, Cond.code yX1_existing cX1_existing 3 (some (.object "TaperOffice$Household")), Cond.classLink RX1 120 "java/lang/IndexOutOfBoundsException", Cond.initialized "java/lang/IndexOutOfBoundsException", Cond.fieldLink RX1 11 "TaperOffice" "rows" "[LTaperOffice$Household;", Cond.instanceMethod yX0_unassessedBefore, Cond.initialized RX0, Cond.selects RX0 yX0_unassessedBefore yX0_unassessedBefore, Cond.code yX0_unassessedBefore cX0_unassessedBefore 4 (some .int), Cond.fieldLink RX0 9 "TaperOffice$Household" "firstMonth" "I", Cond.fieldLink RX0 23 "TaperOffice$Household" "assessments" "[I", Cond.methodLink RX0 55 yX0_dueIn, Cond.instanceMethod yX0_dueIn, Cond.selects RX0 yX0_dueIn yX0_dueIn, Cond.code yX0_dueIn cX0_dueIn 3 (some .int)]
def wsL_unassessed_r2 : List Cond := [Cond.fieldLink RX0 17 "TaperOffice$Household" "values" "[[I", Cond.constant RX0 44 (1600000), Cond.methodLink RX0 45 yX0_needIn, Cond.instanceMethod yX0_needIn, Cond.selects RX0 yX0_needIn yX0_needIn, Cond.code yX0_needIn cX0_needIn 3 (some .int), Cond.constant RX0 33 (60000), Cond.methodLink RX0 34 Lib.Math.min.name, Cond.static Lib.Math.min.name, Cond.initialized "java/lang/Math", Cond.code Lib.Math.min.name Lib.Math.min.code 2 (some .int), Cond.methodLink RX0 49 yX0_taperIn, Cond.instanceMethod yX0_taperIn, Cond.selects RX0 yX0_taperIn yX0_taperIn, Cond.code yX0_taperIn cX0_taperIn 3 (some .int), Cond.methodLink RX0 40 Lib.Math.max.name, Cond.static Lib.Math.max.name, Cond.code Lib.Math.max.name Lib.Math.max.code 2 (some .int), Cond.methodLink RX0 52 yX0_tariffIn, Cond.instanceMethod yX0_tariffIn, Cond.selects RX0 yX0_tariffIn yX0_tariffIn, Cond.code yX0_tariffIn cX0_tariffIn 4 (some .int), Cond.constant RX0 43 (600000)]
def wsL_unassessed : List Cond := .codeWith yL_unassessed cL_unassessed 4 (some .int) [(0, 9, 12, 19)] :: ((wsL_unassessed_r1 ++ wsL_unassessed_r2) ++ wsX10 ++ wsX00 ++ (vx_atS RX1 124 "java/lang/IndexOutOfBoundsException" ["java/lang/RuntimeException", "java/lang/Exception"]).filter goodWord)
def wsL_wouldPay_r1 : List Cond := [Cond.classLink RL 19 "java/lang/IndexOutOfBoundsException", Cond.methodLink RL 54 yX1_wouldPay, Cond.instanceMethod yX1_wouldPay, Cond.selects RX1 yX1_wouldPay yX1_wouldPay, Cond.initialized RX1, Cond.code yX1_wouldPay cX1_wouldPay 3 (some .int), Cond.fieldLink RX1 19 "TaperOffice" "current" "I", Cond.methodLink RX1 34 yX1_existing, Cond.instanceMethod yX1_existing, Cond.selects RX1 yX1_existing yX1_existing, Cond.code yX1_existing cX1_existing 3 (some (.object "TaperOffice$Household")), Cond.classLink RX1 120 "java/lang/IndexOutOfBoundsException", Cond.initialized "java/lang/IndexOutOfBoundsException", Cond.fieldLink RX1 11 "TaperOffice" "rows" "[LTaperOffice$Household;", Cond.instanceMethod yX0_paymentIn, Cond.initialized RX0, Cond.selects RX0 yX0_paymentIn yX0_paymentIn, Cond.code yX0_paymentIn cX0_paymentIn 4 (some .int), Cond.methodLink RX0 65 yX0_unassessedBefore, Cond.instanceMethod yX0_unassessedBefore, Cond.selects RX0 yX0_unassessedBefore yX0_unassessedBefore, Cond.code yX0_unassessedBefore cX0_unassessedBefore 4 (some .int), Cond.fieldLink RX0 9 "TaperOffice$Household" "firstMonth" "I", Cond.fieldLink RX0 23 "TaperOffice$Household" "assessments" "[I"]
def wsL_wouldPay_r2 : List Cond := [Cond.methodLink RX0 55 yX0_dueIn, Cond.instanceMethod yX0_dueIn, Cond.selects RX0 yX0_dueIn yX0_dueIn, Cond.code yX0_dueIn cX0_dueIn 3 (some .int), Cond.fieldLink RX0 17 "TaperOffice$Household" "values" "[[I", Cond.constant RX0 44 (1600000), Cond.methodLink RX0 45 yX0_needIn, Cond.instanceMethod yX0_needIn, Cond.selects RX0 yX0_needIn yX0_needIn, Cond.code yX0_needIn cX0_needIn 3 (some .int), Cond.constant RX0 33 (60000), Cond.methodLink RX0 34 Lib.Math.min.name, Cond.static Lib.Math.min.name, Cond.initialized "java/lang/Math", Cond.code Lib.Math.min.name Lib.Math.min.code 2 (some .int), Cond.methodLink RX0 49 yX0_taperIn, Cond.instanceMethod yX0_taperIn, Cond.selects RX0 yX0_taperIn yX0_taperIn, Cond.code yX0_taperIn cX0_taperIn 3 (some .int), Cond.methodLink RX0 40 Lib.Math.max.name, Cond.static Lib.Math.max.name, Cond.code Lib.Math.max.name Lib.Math.max.code 2 (some .int), Cond.methodLink RX0 52 yX0_tariffIn, Cond.instanceMethod yX0_tariffIn]
def wsL_wouldPay_r3 : List Cond := [Cond.selects RX0 yX0_tariffIn yX0_tariffIn, Cond.code yX0_tariffIn cX0_tariffIn 4 (some .int), Cond.constant RX0 43 (600000), Cond.methodLink RX0 68 yX0_owedAfter, Cond.instanceMethod yX0_owedAfter, Cond.selects RX0 yX0_owedAfter yX0_owedAfter, Cond.code yX0_owedAfter cX0_owedAfter 2 (some .int), Cond.fieldLink RX0 58 "TaperOffice$Household" "debt" "I", Cond.methodLink RX0 71 yX0_recoverableIn, Cond.instanceMethod yX0_recoverableIn, Cond.selects RX0 yX0_recoverableIn yX0_recoverableIn, Cond.code yX0_recoverableIn cX0_recoverableIn 6 (some .int), Cond.fieldLink RX0 61 "TaperOffice$Household" "disputes" "Z", Cond.methodLink RX0 74 yX0_arrearsOf, Cond.instanceMethod yX0_arrearsOf, Cond.selects RX0 yX0_arrearsOf yX0_arrearsOf, Cond.code yX0_arrearsOf cX0_arrearsOf 2 (some .int)]
def wsL_wouldPay : List Cond := .codeWith yL_wouldPay cL_wouldPay 4 (some .int) [(0, 9, 12, 19)] :: ((wsL_wouldPay_r1 ++ (wsL_wouldPay_r2 ++ wsL_wouldPay_r3)) ++ wsX10 ++ wsX00 ++ (vx_atS RX1 124 "java/lang/IndexOutOfBoundsException" ["java/lang/RuntimeException", "java/lang/Exception"]).filter goodWord)
def wsL_assessed : List Cond := .codeWith yL_assessed cL_assessed 5 (some .int) [(0, 10, 13, 19)] :: ([.classLink RL 19 "java/lang/IndexOutOfBoundsException", .methodLink RL 57 yX1_assessed, .instanceMethod yX1_assessed, .selects RX1 yX1_assessed yX1_assessed, .initialized RX1, .code yX1_assessed cX1_assessed 4 (some .int), .methodLink RX1 34 yX1_existing, .instanceMethod yX1_existing, .selects RX1 yX1_existing yX1_existing, .code yX1_existing cX1_existing 3 (some (.object "TaperOffice$Household")), .classLink RX1 120 "java/lang/IndexOutOfBoundsException", .initialized "java/lang/IndexOutOfBoundsException", .fieldLink RX1 11 "TaperOffice" "rows" "[LTaperOffice$Household;", .methodLink RX1 86 yX1_checkMonth, .static yX1_checkMonth, .code yX1_checkMonth cX1_checkMonth 1 none] ++ wsX00 ++ wsX10 ++ (vx_atS RX1 124 "java/lang/IndexOutOfBoundsException" ["java/lang/RuntimeException", "java/lang/Exception"]).filter goodWord)
def wsL_paid : List Cond := .codeWith yL_paid cL_paid 5 (some .int) [(0, 10, 13, 19)] :: ([.classLink RL 19 "java/lang/IndexOutOfBoundsException", .methodLink RL 60 yX1_paid, .instanceMethod yX1_paid, .selects RX1 yX1_paid yX1_paid, .initialized RX1, .code yX1_paid cX1_paid 4 (some .int), .methodLink RX1 34 yX1_existing, .instanceMethod yX1_existing, .selects RX1 yX1_existing yX1_existing, .code yX1_existing cX1_existing 3 (some (.object "TaperOffice$Household")), .classLink RX1 120 "java/lang/IndexOutOfBoundsException", .initialized "java/lang/IndexOutOfBoundsException", .fieldLink RX1 11 "TaperOffice" "rows" "[LTaperOffice$Household;", .methodLink RX1 86 yX1_checkMonth, .static yX1_checkMonth, .code yX1_checkMonth cX1_checkMonth 1 none] ++ wsX00 ++ wsX10 ++ (vx_atS RX1 124 "java/lang/IndexOutOfBoundsException" ["java/lang/RuntimeException", "java/lang/Exception"]).filter goodWord)
def wsL_debt : List Cond := .codeWith yL_debt cL_debt 4 (some .int) [(0, 9, 12, 19)] :: ([.classLink RL 19 "java/lang/IndexOutOfBoundsException", .methodLink RL 63 yX1_debt, .instanceMethod yX1_debt, .selects RX1 yX1_debt yX1_debt, .initialized RX1, .code yX1_debt cX1_debt 2 (some .int), .methodLink RX1 34 yX1_existing, .instanceMethod yX1_existing, .selects RX1 yX1_existing yX1_existing, .code yX1_existing cX1_existing 3 (some (.object "TaperOffice$Household")), .classLink RX1 120 "java/lang/IndexOutOfBoundsException", .initialized "java/lang/IndexOutOfBoundsException", .fieldLink RX1 11 "TaperOffice" "rows" "[LTaperOffice$Household;"] ++ wsX00 ++ wsX10 ++ (vx_atS RX1 124 "java/lang/IndexOutOfBoundsException" ["java/lang/RuntimeException", "java/lang/Exception"]).filter goodWord)
def wsL_recovered : List Cond := .codeWith yL_recovered cL_recovered 4 (some .int) [(0, 9, 12, 19)] :: ([.classLink RL 19 "java/lang/IndexOutOfBoundsException", .methodLink RL 66 yX1_recovered, .instanceMethod yX1_recovered, .selects RX1 yX1_recovered yX1_recovered, .initialized RX1, .code yX1_recovered cX1_recovered 2 (some .int), .methodLink RX1 34 yX1_existing, .instanceMethod yX1_existing, .selects RX1 yX1_existing yX1_existing, .code yX1_existing cX1_existing 3 (some (.object "TaperOffice$Household")), .classLink RX1 120 "java/lang/IndexOutOfBoundsException", .initialized "java/lang/IndexOutOfBoundsException", .fieldLink RX1 11 "TaperOffice" "rows" "[LTaperOffice$Household;"] ++ wsX00 ++ wsX10 ++ (vx_atS RX1 124 "java/lang/IndexOutOfBoundsException" ["java/lang/RuntimeException", "java/lang/Exception"]).filter goodWord)
def wsL_law0_r1 : List Cond := [Cond.classLink RL 8 RX1, Cond.instantiable RX1 3, Cond.initialized RX1, Cond.classLink RL 70 RX2, Cond.instantiable RX2 16, Cond.initialized RX2, Cond.arrayClass .long, Cond.methodLink RL 69 yX1_init, Cond.instanceMethod yX1_init, Cond.code yX1_init cX1_init 1 none, Cond.methodLink RX1 1 objectInit, Cond.instanceMethod objectInit, Cond.code objectInit ⟨#[0xb1]⟩ 1 none, Cond.classLink RX1 9 RX0, Cond.fieldLink RX1 11 "TaperOffice" "rows" "[LTaperOffice$Household;", Cond.fieldLink RX1 15 "TaperOffice" "added" "I", Cond.fieldLink RX1 19 "TaperOffice" "current" "I", Cond.methodLink RL 72 yX2_init, Cond.instanceMethod yX2_init, Cond.code yX2_init cX2_init 1 none, Cond.methodLink RX2 1 objectInit, Cond.arrayClass .int, Cond.fieldLink RX2 7 "TaperOfficeModel" "added" "[I", Cond.fieldLink RX2 13 "TaperOfficeModel" "changes" "[I"]
def wsL_law0_r2 : List Cond := [Cond.fieldLink RX2 16 "TaperOfficeModel" "fact" "[I", Cond.fieldLink RX2 19 "TaperOfficeModel" "from" "[I", Cond.fieldLink RX2 22 "TaperOfficeModel" "value" "[I", Cond.fieldLink RX2 25 "TaperOfficeModel" "assessed" "[I", Cond.fieldLink RX2 28 "TaperOfficeModel" "paid" "[I", Cond.fieldLink RX2 31 "TaperOfficeModel" "debt" "[I", Cond.fieldLink RX2 34 "TaperOfficeModel" "recovered" "[I", Cond.arrayClass .boolean, Cond.fieldLink RX2 37 "TaperOfficeModel" "disputes" "[Z", Cond.methodLink RL 73 yL_add, Cond.static yL_add, Cond.initialized RL, Cond.codeWith yL_add cL_add 3 (some .int) [(0, 8, 11, 13)], Cond.classLink RL 13 "java/lang/IllegalStateException", Cond.methodLink RL 7 yX1_add, Cond.instanceMethod yX1_add, Cond.selects RX1 yX1_add yX1_add, Cond.code yX1_add cX1_add 2 (some .int), Cond.classLink RX1 22 "java/lang/IllegalStateException", Cond.initialized "java/lang/IllegalStateException", Cond.instantiable RX0 9, Cond.initialized RX0, Cond.instanceMethod yX0_init, Cond.code yX0_init cX0_init 3 none]
def wsL_law0_r3 : List Cond := [Cond.methodLink RX0 3 objectInit, Cond.fieldLink RX0 9 "TaperOffice$Household" "firstMonth" "I", Cond.classLink RX0 15 "[[I", Cond.fieldLink RX0 17 "TaperOffice$Household" "values" "[[I", Cond.fieldLink RX0 20 "TaperOffice$Household" "since" "[[I", Cond.fieldLink RX0 23 "TaperOffice$Household" "assessments" "[I", Cond.fieldLink RX0 27 "TaperOffice$Household" "payments" "[I", Cond.methodLink RL 78 yX2_add, Cond.instanceMethod yX2_add, Cond.selects RX2 yX2_add yX2_add, Cond.code yX2_add cX2_add 1 (some .int), Cond.fieldLink RX2 41 "TaperOfficeModel" "thrown" "I", Cond.fieldLink RX2 45 "TaperOfficeModel" "homes" "I", Cond.fieldLink RX2 79 "TaperOfficeModel" "current" "I", Cond.methodLink RX2 100 yX2_fails, Cond.instanceMethod yX2_fails, Cond.selects RX2 yX2_fails yX2_fails, Cond.code yX2_fails cX2_fails 2 (some .int), Cond.methodLink RL 79 yX2_thrown, Cond.instanceMethod yX2_thrown, Cond.selects RX2 yX2_thrown yX2_thrown, Cond.code yX2_thrown cX2_thrown 1 (some .int), Cond.methodLink RL 82 yL_tell, Cond.static yL_tell]
def wsL_law0_r4 : List Cond := [Cond.codeWith yL_tell cL_tell 7 (some .int) [(0, 14, 17, 19), (0, 14, 21, 21), (0, 14, 25, 13)], Cond.classLink RL 19 "java/lang/IndexOutOfBoundsException", Cond.classLink RL 21 "java/lang/IllegalArgumentException", Cond.methodLink RL 15 yX1_tell, Cond.instanceMethod yX1_tell, Cond.selects RX1 yX1_tell yX1_tell, Cond.code yX1_tell cX1_tell 7 (some .int), Cond.classLink RX1 41 "java/lang/IllegalArgumentException", Cond.initialized "java/lang/IllegalArgumentException", Cond.fieldLink RX1 46 "TaperOffice" "LEAST_VALUES" "[I", Cond.fieldLink RX1 50 "TaperOffice" "MOST_VALUES" "[I", Cond.methodLink RX1 34 yX1_existing, Cond.instanceMethod yX1_existing, Cond.selects RX1 yX1_existing yX1_existing, Cond.code yX1_existing cX1_existing 3 (some (.object "TaperOffice$Household")), Cond.classLink RX1 120 "java/lang/IndexOutOfBoundsException", Cond.initialized "java/lang/IndexOutOfBoundsException", Cond.methodLink RX1 38 yX1_checkFact, Cond.static yX1_checkFact, Cond.code yX1_checkFact cX1_checkFact 1 none, Cond.methodLink RX1 60 yX1_monthCountedFrom, Cond.static yX1_monthCountedFrom, Cond.code yX1_monthCountedFrom cX1_monthCountedFrom 2 (some .int), Cond.instanceMethod yX0_change]
def wsL_law0_r5 : List Cond := [Cond.selects RX0 yX0_change yX0_change, Cond.code yX0_change cX0_change 5 none, Cond.fieldLink RX0 30 "TaperOffice$Household" "changes" "I", Cond.methodLink RL 85 yX2_tell, Cond.instanceMethod yX2_tell, Cond.selects RX2 yX2_tell yX2_tell, Cond.code yX2_tell cX2_tell 6 (some .int), Cond.methodLink RX2 52 yX2_isHome, Cond.instanceMethod yX2_isHome, Cond.selects RX2 yX2_isHome yX2_isHome, Cond.code yX2_isHome cX2_isHome 2 (some .boolean), Cond.methodLink RX2 48 yX2_in, Cond.static yX2_in, Cond.code yX2_in cX2_in 3 (some .boolean), Cond.methodLink RX2 58 yX2_lowest, Cond.static yX2_lowest, Cond.code yX2_lowest cX2_lowest 1 (some .int), Cond.methodLink RX2 103 yX2_greatest, Cond.static yX2_greatest, Cond.code yX2_greatest cX2_greatest 1 (some .int), Cond.constant RX2 56 (10000000), Cond.constant RX2 57 (1000000), Cond.methodLink RL 86 yL_dispute, Cond.static yL_dispute]
def wsL_law0_r6 : List Cond := [Cond.codeWith yL_dispute cL_dispute 5 (some .int) [(0, 17, 20, 19)], Cond.methodLink RL 23 yX1_dispute, Cond.instanceMethod yX1_dispute, Cond.selects RX1 yX1_dispute yX1_dispute, Cond.code yX1_dispute cX1_dispute 5 (some .boolean), Cond.methodLink RL 89 yX2_dispute, Cond.instanceMethod yX2_dispute, Cond.selects RX2 yX2_dispute yX2_dispute, Cond.code yX2_dispute cX2_dispute 4 (some .boolean), Cond.methodLink RL 90 yL_payBack, Cond.static yL_payBack, Cond.codeWith yL_payBack cL_payBack 5 (some .int) [(0, 10, 13, 19), (0, 10, 17, 21), (0, 10, 21, 13)], Cond.methodLink RL 27 yX1_payBack, Cond.instanceMethod yX1_payBack, Cond.selects RX1 yX1_payBack yX1_payBack, Cond.code yX1_payBack cX1_payBack 4 (some .int), Cond.constant RX1 72 (1000000), Cond.instanceMethod yX0_lowerDebt, Cond.selects RX0 yX0_lowerDebt yX0_lowerDebt, Cond.code yX0_lowerDebt cX0_lowerDebt 2 none, Cond.fieldLink RX0 58 "TaperOffice$Household" "debt" "I", Cond.fieldLink RX0 84 "TaperOffice$Household" "takenBack" "I", Cond.methodLink RL 93 yX2_payBack, Cond.instanceMethod yX2_payBack]
def wsL_law0_r7 : List Cond := [Cond.selects RX2 yX2_payBack yX2_payBack, Cond.code yX2_payBack cX2_payBack 3 (some .int), Cond.methodLink RL 94 yX1_households, Cond.instanceMethod yX1_households, Cond.selects RX1 yX1_households yX1_households, Cond.code yX1_households cX1_households 1 (some .int), Cond.methodLink RL 97 yX2_households, Cond.instanceMethod yX2_households, Cond.selects RX2 yX2_households yX2_households, Cond.code yX2_households cX2_households 1 (some .int), Cond.methodLink RL 98 yL_close, Cond.static yL_close, Cond.codeWith yL_close cL_close 3 (some .int) [(0, 8, 11, 13)], Cond.methodLink RL 31 yX1_close, Cond.instanceMethod yX1_close, Cond.selects RX1 yX1_close yX1_close, Cond.code yX1_close cX1_close 6 (some .int), Cond.instanceMethod yX0_settle, Cond.selects RX0 yX0_settle yX0_settle, Cond.code yX0_settle cX0_settle 4 (some .int), Cond.methodLink RX0 77 yX0_paymentIn, Cond.instanceMethod yX0_paymentIn, Cond.selects RX0 yX0_paymentIn yX0_paymentIn, Cond.code yX0_paymentIn cX0_paymentIn 4 (some .int)]
def wsL_law0_r8 : List Cond := [Cond.methodLink RX0 65 yX0_unassessedBefore, Cond.instanceMethod yX0_unassessedBefore, Cond.selects RX0 yX0_unassessedBefore yX0_unassessedBefore, Cond.code yX0_unassessedBefore cX0_unassessedBefore 4 (some .int), Cond.methodLink RX0 55 yX0_dueIn, Cond.instanceMethod yX0_dueIn, Cond.selects RX0 yX0_dueIn yX0_dueIn, Cond.code yX0_dueIn cX0_dueIn 3 (some .int), Cond.constant RX0 44 (1600000), Cond.methodLink RX0 45 yX0_needIn, Cond.instanceMethod yX0_needIn, Cond.selects RX0 yX0_needIn yX0_needIn, Cond.code yX0_needIn cX0_needIn 3 (some .int), Cond.constant RX0 33 (60000), Cond.methodLink RX0 34 Lib.Math.min.name, Cond.static Lib.Math.min.name, Cond.initialized "java/lang/Math", Cond.code Lib.Math.min.name Lib.Math.min.code 2 (some .int), Cond.methodLink RX0 49 yX0_taperIn, Cond.instanceMethod yX0_taperIn, Cond.selects RX0 yX0_taperIn yX0_taperIn, Cond.code yX0_taperIn cX0_taperIn 3 (some .int), Cond.methodLink RX0 40 Lib.Math.max.name, Cond.static Lib.Math.max.name]
def wsL_law0_r9 : List Cond := [Cond.code Lib.Math.max.name Lib.Math.max.code 2 (some .int), Cond.methodLink RX0 52 yX0_tariffIn, Cond.instanceMethod yX0_tariffIn, Cond.selects RX0 yX0_tariffIn yX0_tariffIn, Cond.code yX0_tariffIn cX0_tariffIn 4 (some .int), Cond.constant RX0 43 (600000), Cond.methodLink RX0 68 yX0_owedAfter, Cond.instanceMethod yX0_owedAfter, Cond.selects RX0 yX0_owedAfter yX0_owedAfter, Cond.code yX0_owedAfter cX0_owedAfter 2 (some .int), Cond.methodLink RX0 71 yX0_recoverableIn, Cond.instanceMethod yX0_recoverableIn, Cond.selects RX0 yX0_recoverableIn yX0_recoverableIn, Cond.code yX0_recoverableIn cX0_recoverableIn 6 (some .int), Cond.fieldLink RX0 61 "TaperOffice$Household" "disputes" "Z", Cond.methodLink RX0 74 yX0_arrearsOf, Cond.instanceMethod yX0_arrearsOf, Cond.selects RX0 yX0_arrearsOf yX0_arrearsOf, Cond.code yX0_arrearsOf cX0_arrearsOf 2 (some .int), Cond.methodLink RX0 80 yX0_lowerDebt, Cond.methodLink RL 100 yX2_close, Cond.instanceMethod yX2_close, Cond.selects RX2 yX2_close yX2_close, Cond.code yX2_close cX2_close 4 (some .int)]
def wsL_law0_r10 : List Cond := [Cond.fieldLink RX2 91 "TaperOfficeModel" "debtThen" "I", Cond.fieldLink RX2 94 "TaperOfficeModel" "taken" "I", Cond.fieldLink RX2 97 "TaperOfficeModel" "pay" "I", Cond.methodLink RX2 106 yX2_reckons, Cond.instanceMethod yX2_reckons, Cond.selects RX2 yX2_reckons yX2_reckons, Cond.code yX2_reckons cX2_reckons 7 none, Cond.methodLink RX2 85 yX2_openOf, Cond.instanceMethod yX2_openOf, Cond.selects RX2 yX2_openOf yX2_openOf, Cond.code yX2_openOf cX2_openOf 4 (some .int), Cond.methodLink RX2 82 yX2_dueOf, Cond.instanceMethod yX2_dueOf, Cond.selects RX2 yX2_dueOf yX2_dueOf, Cond.code yX2_dueOf cX2_dueOf 4 (some .int), Cond.constant RX2 78 (1600000), Cond.methodLink RX2 68 yX2_needOf, Cond.instanceMethod yX2_needOf, Cond.selects RX2 yX2_needOf yX2_needOf, Cond.code yX2_needOf cX2_needOf 4 (some .int), Cond.constant RX2 66 (60000), Cond.methodLink RX2 62 yX2_factOf, Cond.instanceMethod yX2_factOf, Cond.selects RX2 yX2_factOf yX2_factOf]
def wsL_law0_r11 : List Cond := [Cond.code yX2_factOf cX2_factOf 8 (some .int), Cond.methodLink RX2 72 yX2_taperOf, Cond.instanceMethod yX2_taperOf, Cond.selects RX2 yX2_taperOf yX2_taperOf, Cond.code yX2_taperOf cX2_taperOf 4 (some .int), Cond.methodLink RX2 75 yX2_tariffOf, Cond.instanceMethod yX2_tariffOf, Cond.selects RX2 yX2_tariffOf yX2_tariffOf, Cond.code yX2_tariffOf cX2_tariffOf 4 (some .int), Cond.constant RX2 67 (600000), Cond.methodLink RX2 88 yX2_least, Cond.static yX2_least, Cond.code yX2_least cX2_least 2 (some .int), Cond.methodLink RL 101 yX1_month, Cond.instanceMethod yX1_month, Cond.selects RX1 yX1_month yX1_month, Cond.code yX1_month cX1_month 1 (some .int), Cond.methodLink RL 104 yX2_month, Cond.instanceMethod yX2_month, Cond.selects RX2 yX2_month yX2_month, Cond.code yX2_month cX2_month 1 (some .int), Cond.methodLink RL 105 yL_fact, Cond.static yL_fact, Cond.codeWith yL_fact cL_fact 6 (some .int) [(0, 12, 15, 19), (0, 12, 19, 21)]]
def wsL_law0_r12 : List Cond := [Cond.methodLink RL 34 yX1_fact, Cond.instanceMethod yX1_fact, Cond.selects RX1 yX1_fact yX1_fact, Cond.code yX1_fact cX1_fact 5 (some .int), Cond.methodLink RX1 86 yX1_checkMonth, Cond.static yX1_checkMonth, Cond.code yX1_checkMonth cX1_checkMonth 1 none, Cond.methodLink RL 108 yX2_fact, Cond.instanceMethod yX2_fact, Cond.selects RX2 yX2_fact yX2_fact, Cond.code yX2_fact cX2_fact 4 (some .int), Cond.methodLink RX2 110 yX2_isAsked, Cond.instanceMethod yX2_isAsked, Cond.selects RX2 yX2_isAsked yX2_isAsked, Cond.code yX2_isAsked cX2_isAsked 3 (some .boolean), Cond.methodLink RL 109 yL_need, Cond.static yL_need, Cond.codeWith yL_need cL_need 5 (some .int) [(0, 10, 13, 19)], Cond.methodLink RL 38 yX1_need, Cond.instanceMethod yX1_need, Cond.selects RX1 yX1_need yX1_need, Cond.code yX1_need cX1_need 4 (some .int), Cond.methodLink RL 111 yX2_need, Cond.instanceMethod yX2_need]
def wsL_law0_r13 : List Cond := [Cond.selects RX2 yX2_need yX2_need, Cond.code yX2_need cX2_need 3 (some .int), Cond.methodLink RL 112 yL_taper, Cond.static yL_taper, Cond.codeWith yL_taper cL_taper 5 (some .int) [(0, 10, 13, 19)], Cond.methodLink RL 41 yX1_taper, Cond.instanceMethod yX1_taper, Cond.selects RX1 yX1_taper yX1_taper, Cond.code yX1_taper cX1_taper 4 (some .int), Cond.methodLink RL 114 yX2_taper, Cond.instanceMethod yX2_taper, Cond.selects RX2 yX2_taper yX2_taper, Cond.code yX2_taper cX2_taper 3 (some .int), Cond.methodLink RL 115 yL_tariff, Cond.static yL_tariff, Cond.codeWith yL_tariff cL_tariff 5 (some .int) [(0, 10, 13, 19)], Cond.methodLink RL 44 yX1_tariff, Cond.instanceMethod yX1_tariff, Cond.selects RX1 yX1_tariff yX1_tariff, Cond.code yX1_tariff cX1_tariff 4 (some .int), Cond.methodLink RL 117 yX2_tariff, Cond.instanceMethod yX2_tariff, Cond.selects RX2 yX2_tariff yX2_tariff, Cond.code yX2_tariff cX2_tariff 3 (some .int)]
def wsL_law0_r14 : List Cond := [Cond.methodLink RL 118 yL_due, Cond.static yL_due, Cond.codeWith yL_due cL_due 5 (some .int) [(0, 10, 13, 19)], Cond.methodLink RL 47 yX1_due, Cond.instanceMethod yX1_due, Cond.selects RX1 yX1_due yX1_due, Cond.code yX1_due cX1_due 4 (some .int), Cond.methodLink RL 120 yX2_due, Cond.instanceMethod yX2_due, Cond.selects RX2 yX2_due yX2_due, Cond.code yX2_due cX2_due 3 (some .int), Cond.methodLink RL 121 yL_unassessed, Cond.static yL_unassessed, Cond.codeWith yL_unassessed cL_unassessed 4 (some .int) [(0, 9, 12, 19)], Cond.methodLink RL 50 yX1_unassessed, Cond.instanceMethod yX1_unassessed, Cond.selects RX1 yX1_unassessed yX1_unassessed, Cond.code yX1_unassessed cX1_unassessed 2 (some .int), Cond.methodLink RL 124 yX2_unassessed, Cond.instanceMethod yX2_unassessed, Cond.selects RX2 yX2_unassessed yX2_unassessed, Cond.code yX2_unassessed cX2_unassessed 2 (some .int), Cond.methodLink RL 125 yL_wouldPay, Cond.static yL_wouldPay]
def wsL_law0_r15 : List Cond := [Cond.codeWith yL_wouldPay cL_wouldPay 4 (some .int) [(0, 9, 12, 19)], Cond.methodLink RL 54 yX1_wouldPay, Cond.instanceMethod yX1_wouldPay, Cond.selects RX1 yX1_wouldPay yX1_wouldPay, Cond.code yX1_wouldPay cX1_wouldPay 3 (some .int), Cond.methodLink RL 127 yX2_wouldPay, Cond.instanceMethod yX2_wouldPay, Cond.selects RX2 yX2_wouldPay yX2_wouldPay, Cond.code yX2_wouldPay cX2_wouldPay 2 (some .int), Cond.methodLink RL 128 yL_assessed, Cond.static yL_assessed, Cond.codeWith yL_assessed cL_assessed 5 (some .int) [(0, 10, 13, 19)], Cond.methodLink RL 57 yX1_assessed, Cond.instanceMethod yX1_assessed, Cond.selects RX1 yX1_assessed yX1_assessed, Cond.code yX1_assessed cX1_assessed 4 (some .int), Cond.methodLink RL 130 yX2_assessed, Cond.instanceMethod yX2_assessed, Cond.selects RX2 yX2_assessed yX2_assessed, Cond.code yX2_assessed cX2_assessed 3 (some .int), Cond.methodLink RL 131 yL_paid, Cond.static yL_paid, Cond.codeWith yL_paid cL_paid 5 (some .int) [(0, 10, 13, 19)], Cond.methodLink RL 60 yX1_paid]
def wsL_law0_r16 : List Cond := [Cond.instanceMethod yX1_paid, Cond.selects RX1 yX1_paid yX1_paid, Cond.code yX1_paid cX1_paid 4 (some .int), Cond.methodLink RL 133 yX2_paid, Cond.instanceMethod yX2_paid, Cond.selects RX2 yX2_paid yX2_paid, Cond.code yX2_paid cX2_paid 3 (some .int), Cond.methodLink RL 134 yL_debt, Cond.static yL_debt, Cond.codeWith yL_debt cL_debt 4 (some .int) [(0, 9, 12, 19)], Cond.methodLink RL 63 yX1_debt, Cond.instanceMethod yX1_debt, Cond.selects RX1 yX1_debt yX1_debt, Cond.code yX1_debt cX1_debt 2 (some .int), Cond.methodLink RL 136 yX2_debt, Cond.instanceMethod yX2_debt, Cond.selects RX2 yX2_debt yX2_debt, Cond.code yX2_debt cX2_debt 2 (some .int), Cond.methodLink RL 137 yL_recovered, Cond.static yL_recovered, Cond.codeWith yL_recovered cL_recovered 4 (some .int) [(0, 9, 12, 19)], Cond.methodLink RL 66 yX1_recovered, Cond.instanceMethod yX1_recovered, Cond.selects RX1 yX1_recovered yX1_recovered]
def wsL_law0_r17 : List Cond := [Cond.code yX1_recovered cX1_recovered 2 (some .int), Cond.methodLink RL 139 yX2_recovered, Cond.instanceMethod yX2_recovered, Cond.selects RX2 yX2_recovered yX2_recovered, Cond.code yX2_recovered cX2_recovered 2 (some .int)]
def wsL_law0 : List Cond := (wsL_law0_r1 ++ (wsL_law0_r2 ++ (wsL_law0_r3 ++ (wsL_law0_r4 ++ (wsL_law0_r5 ++ (wsL_law0_r6 ++ (wsL_law0_r7 ++ (wsL_law0_r8 ++ (wsL_law0_r9 ++ (wsL_law0_r10 ++ (wsL_law0_r11 ++ (wsL_law0_r12 ++ (wsL_law0_r13 ++ (wsL_law0_r14 ++ (wsL_law0_r15 ++ (wsL_law0_r16 ++ wsL_law0_r17)))))))))))))))) ++ wsX10 ++ wsX20 ++ wsX00 ++ ([] : List Cond)
def wsL_law : List Cond := wsL_law0 ++ (vx_atS RX1 26 "java/lang/IllegalStateException" ["java/lang/RuntimeException", "java/lang/Exception"]).filter goodWord ++ (vx_atS RX1 45 "java/lang/IllegalArgumentException" ["java/lang/RuntimeException", "java/lang/Exception"]).filter goodWord ++ (vx_atS RX1 124 "java/lang/IndexOutOfBoundsException" ["java/lang/RuntimeException", "java/lang/Exception"]).filter goodWord
end
section
set_option maxRecDepth 20000 in
theorem wsL_law_in0 : ∀ w ∈ wsL_law0, w ∈ lw_tbl := fun w h => (goodIn_p wsL_law0 [39, 42, 414, 70, 143, 473, 477, 469, 191, 195, 214, 240, 244, 481, 485, 488, 491, 494, 251, 500, 258, 265, 504, 58, 508, 272, 276, 280, 284, 288, 293, 297, 301, 304, 308, 313, 317, 321, 512, 516, 520, 524, 528, 532, 537, 541, 546, 62, 550, 329, 332, 554, 558, 340, 562, 348, 566, 356, 570, 364, 574, 372, 578, 380, 582, 388, 586, 395, 590, 402, 594, 409, 598] (by decide +kernel) (by decide +kernel) w h).1
theorem wsL_law_x0 : ∀ w ∈ (vx_atS RX1 26 "java/lang/IllegalStateException" ["java/lang/RuntimeException", "java/lang/Exception"]).filter goodWord, w ∈ lw_tbl := by decide +kernel
theorem wsL_law_x1 : ∀ w ∈ (vx_atS RX1 45 "java/lang/IllegalArgumentException" ["java/lang/RuntimeException", "java/lang/Exception"]).filter goodWord, w ∈ lw_tbl := by decide +kernel
theorem wsL_law_x2 : ∀ w ∈ (vx_atS RX1 124 "java/lang/IndexOutOfBoundsException" ["java/lang/RuntimeException", "java/lang/Exception"]).filter goodWord, w ∈ lw_tbl := by decide +kernel
theorem wsL_law_in : ∀ w ∈ wsL_law, w ∈ lw_tbl := fun w h => (List.mem_append.mp h).elim (fun h => (List.mem_append.mp h).elim (fun h => (List.mem_append.mp h).elim (fun h => wsL_law_in0 w h) (fun h => wsL_law_x0 w h)) (fun h => wsL_law_x1 w h)) (fun h => wsL_law_x2 w h)
theorem inlX0 : ∀ w ∈ wsX00, w ∈ wsL_law := fun _ h => List.mem_append_left _ (List.mem_append_left _ (List.mem_append_left _ (List.mem_append_left _ (List.mem_append_right _ h))))
theorem inX0 : ∀ w ∈ wsX00, w ∈ lw_tbl := fun w h => wsL_law_in w (inlX0 w h)
theorem inlX1 : ∀ w ∈ wsX10, w ∈ wsL_law := fun _ h => List.mem_append_left _ (List.mem_append_left _ (List.mem_append_left _ (List.mem_append_left _ (List.mem_append_left _ (List.mem_append_left _ (List.mem_append_right _ h))))))
theorem inX1 : ∀ w ∈ wsX10, w ∈ lw_tbl := fun w h => wsL_law_in w (inlX1 w h)
theorem inlX2 : ∀ w ∈ wsX20, w ∈ wsL_law := fun _ h => List.mem_append_left _ (List.mem_append_left _ (List.mem_append_left _ (List.mem_append_left _ (List.mem_append_left _ (List.mem_append_right _ h)))))
theorem inX2 : ∀ w ∈ wsX20, w ∈ lw_tbl := fun w h => wsL_law_in w (inlX2 w h)
theorem inJ9 : ∀ w ∈ wsJ90, w ∈ lw_tbl := by decide +kernel
theorem inJ0 : ∀ w ∈ wsJ00, w ∈ lw_tbl := by decide +kernel
end
section
theorem dX0_init_0 : decode cX0_init 0 = .ok (.aload_n 0, 1) := by decide +kernel
theorem dX0_init_1 : decode cX0_init 1 = .ok (.invokespecial 3, 3) := by decide +kernel
theorem dX0_init_4 : decode cX0_init 4 = .ok (.aload_n 0, 1) := by decide +kernel
theorem dX0_init_5 : decode cX0_init 5 = .ok (.iload_n 1, 1) := by decide +kernel
theorem dX0_init_6 : decode cX0_init 6 = .ok (.putfield 9, 3) := by decide +kernel
theorem dX0_init_9 : decode cX0_init 9 = .ok (.aload_n 0, 1) := by decide +kernel
theorem dX0_init_10 : decode cX0_init 10 = .ok (.iconst 5, 1) := by decide +kernel
theorem dX0_init_11 : decode cX0_init 11 = .ok (.bipush 48, 2) := by decide +kernel
theorem dX0_init_13 : decode cX0_init 13 = .ok (.multianewarray 15 2, 4) := by decide +kernel
theorem dX0_init_17 : decode cX0_init 17 = .ok (.putfield 17, 3) := by decide +kernel
theorem dX0_init_20 : decode cX0_init 20 = .ok (.aload_n 0, 1) := by decide +kernel
theorem dX0_init_21 : decode cX0_init 21 = .ok (.iconst 5, 1) := by decide +kernel
theorem dX0_init_22 : decode cX0_init 22 = .ok (.bipush 48, 2) := by decide +kernel
theorem dX0_init_24 : decode cX0_init 24 = .ok (.multianewarray 15 2, 4) := by decide +kernel
theorem dX0_init_28 : decode cX0_init 28 = .ok (.putfield 20, 3) := by decide +kernel
theorem dX0_init_31 : decode cX0_init 31 = .ok (.aload_n 0, 1) := by decide +kernel
theorem dX0_init_32 : decode cX0_init 32 = .ok (.bipush 48, 2) := by decide +kernel
theorem dX0_init_34 : decode cX0_init 34 = .ok (.newarray .int, 2) := by decide +kernel
theorem dX0_init_36 : decode cX0_init 36 = .ok (.putfield 23, 3) := by decide +kernel
theorem dX0_init_39 : decode cX0_init 39 = .ok (.aload_n 0, 1) := by decide +kernel
theorem dX0_init_40 : decode cX0_init 40 = .ok (.bipush 48, 2) := by decide +kernel
theorem dX0_init_42 : decode cX0_init 42 = .ok (.newarray .int, 2) := by decide +kernel
theorem dX0_init_44 : decode cX0_init 44 = .ok (.putfield 27, 3) := by decide +kernel
theorem dX0_init_47 : decode cX0_init 47 = .ok (.iconst 0, 1) := by decide +kernel
theorem dX0_init_48 : decode cX0_init 48 = .ok (.istore_n 2, 1) := by decide +kernel
theorem dX0_init_49 : decode cX0_init 49 = .ok (.iload_n 2, 1) := by decide +kernel
theorem dX0_init_50 : decode cX0_init 50 = .ok (.bipush 48, 2) := by decide +kernel
theorem dX0_init_52 : decode cX0_init 52 = .ok (.if_icmp .ge 18, 3) := by decide +kernel
theorem dX0_init_55 : decode cX0_init 55 = .ok (.aload_n 0, 1) := by decide +kernel
theorem dX0_init_56 : decode cX0_init 56 = .ok (.getfield 17, 3) := by decide +kernel
theorem dX0_init_59 : decode cX0_init 59 = .ok (.iconst 0, 1) := by decide +kernel
theorem dX0_init_60 : decode cX0_init 60 = .ok (.aaload, 1) := by decide +kernel
theorem dX0_init_61 : decode cX0_init 61 = .ok (.iload_n 2, 1) := by decide +kernel
theorem dX0_init_62 : decode cX0_init 62 = .ok (.iconst 1, 1) := by decide +kernel
theorem dX0_init_63 : decode cX0_init 63 = .ok (.iastore, 1) := by decide +kernel
theorem dX0_init_64 : decode cX0_init 64 = .ok (.iinc 2 1, 3) := by decide +kernel
theorem dX0_init_67 : decode cX0_init 67 = .ok (.goto (-18), 3) := by decide +kernel
theorem dX0_init_70 : decode cX0_init 70 = .ok (.return_, 1) := by decide +kernel
theorem dX0_change_0 : decode cX0_change 0 = .ok (.aload_n 0, 1) := by decide +kernel
theorem dX0_change_1 : decode cX0_change 1 = .ok (.dup, 1) := by decide +kernel
theorem dX0_change_2 : decode cX0_change 2 = .ok (.getfield 30, 3) := by decide +kernel
theorem dX0_change_5 : decode cX0_change 5 = .ok (.iconst 1, 1) := by decide +kernel
theorem dX0_change_6 : decode cX0_change 6 = .ok (.iadd, 1) := by decide +kernel
theorem dX0_change_7 : decode cX0_change 7 = .ok (.putfield 30, 3) := by decide +kernel
theorem dX0_change_10 : decode cX0_change 10 = .ok (.iload_n 2, 1) := by decide +kernel
theorem dX0_change_11 : decode cX0_change 11 = .ok (.istore 4, 2) := by decide +kernel
theorem dX0_change_13 : decode cX0_change 13 = .ok (.iload 4, 2) := by decide +kernel
theorem dX0_change_15 : decode cX0_change 15 = .ok (.bipush 48, 2) := by decide +kernel
theorem dX0_change_17 : decode cX0_change 17 = .ok (.if_icmp .ge 42, 3) := by decide +kernel
theorem dX0_change_20 : decode cX0_change 20 = .ok (.aload_n 0, 1) := by decide +kernel
theorem dX0_change_21 : decode cX0_change 21 = .ok (.getfield 20, 3) := by decide +kernel
theorem dX0_change_24 : decode cX0_change 24 = .ok (.iload_n 1, 1) := by decide +kernel
theorem dX0_change_25 : decode cX0_change 25 = .ok (.aaload, 1) := by decide +kernel
theorem dX0_change_26 : decode cX0_change 26 = .ok (.iload 4, 2) := by decide +kernel
theorem dX0_change_28 : decode cX0_change 28 = .ok (.iaload, 1) := by decide +kernel
theorem dX0_change_29 : decode cX0_change 29 = .ok (.iload_n 2, 1) := by decide +kernel
theorem dX0_change_30 : decode cX0_change 30 = .ok (.if_icmp .gt 29, 3) := by decide +kernel
theorem dX0_change_33 : decode cX0_change 33 = .ok (.aload_n 0, 1) := by decide +kernel
theorem dX0_change_34 : decode cX0_change 34 = .ok (.getfield 17, 3) := by decide +kernel
theorem dX0_change_37 : decode cX0_change 37 = .ok (.iload_n 1, 1) := by decide +kernel
theorem dX0_change_38 : decode cX0_change 38 = .ok (.aaload, 1) := by decide +kernel
theorem dX0_change_39 : decode cX0_change 39 = .ok (.iload 4, 2) := by decide +kernel
theorem dX0_change_41 : decode cX0_change 41 = .ok (.iload_n 3, 1) := by decide +kernel
theorem dX0_change_42 : decode cX0_change 42 = .ok (.iastore, 1) := by decide +kernel
theorem dX0_change_43 : decode cX0_change 43 = .ok (.aload_n 0, 1) := by decide +kernel
theorem dX0_change_44 : decode cX0_change 44 = .ok (.getfield 20, 3) := by decide +kernel
theorem dX0_change_47 : decode cX0_change 47 = .ok (.iload_n 1, 1) := by decide +kernel
theorem dX0_change_48 : decode cX0_change 48 = .ok (.aaload, 1) := by decide +kernel
theorem dX0_change_49 : decode cX0_change 49 = .ok (.iload 4, 2) := by decide +kernel
theorem dX0_change_51 : decode cX0_change 51 = .ok (.iload_n 2, 1) := by decide +kernel
theorem dX0_change_52 : decode cX0_change 52 = .ok (.iastore, 1) := by decide +kernel
theorem dX0_change_53 : decode cX0_change 53 = .ok (.iinc 4 1, 3) := by decide +kernel
theorem dX0_change_56 : decode cX0_change 56 = .ok (.goto (-43), 3) := by decide +kernel
theorem dX0_change_59 : decode cX0_change 59 = .ok (.return_, 1) := by decide +kernel
theorem dX0_needIn_0 : decode cX0_needIn 0 = .ok (.sipush 30000, 3) := by decide +kernel
theorem dX0_needIn_3 : decode cX0_needIn 3 = .ok (.aload_n 0, 1) := by decide +kernel
theorem dX0_needIn_4 : decode cX0_needIn 4 = .ok (.getfield 17, 3) := by decide +kernel
theorem dX0_needIn_7 : decode cX0_needIn 7 = .ok (.iconst 1, 1) := by decide +kernel
theorem dX0_needIn_8 : decode cX0_needIn 8 = .ok (.aaload, 1) := by decide +kernel
theorem dX0_needIn_9 : decode cX0_needIn 9 = .ok (.iload_n 1, 1) := by decide +kernel
theorem dX0_needIn_10 : decode cX0_needIn 10 = .ok (.iaload, 1) := by decide +kernel
theorem dX0_needIn_11 : decode cX0_needIn 11 = .ok (.sipush 8000, 3) := by decide +kernel
theorem dX0_needIn_14 : decode cX0_needIn 14 = .ok (.imul, 1) := by decide +kernel
theorem dX0_needIn_15 : decode cX0_needIn 15 = .ok (.iadd, 1) := by decide +kernel
theorem dX0_needIn_16 : decode cX0_needIn 16 = .ok (.istore_n 2, 1) := by decide +kernel
theorem dX0_needIn_17 : decode cX0_needIn 17 = .ok (.aload_n 0, 1) := by decide +kernel
theorem dX0_needIn_18 : decode cX0_needIn 18 = .ok (.getfield 17, 3) := by decide +kernel
theorem dX0_needIn_21 : decode cX0_needIn 21 = .ok (.iconst 0, 1) := by decide +kernel
theorem dX0_needIn_22 : decode cX0_needIn 22 = .ok (.aaload, 1) := by decide +kernel
theorem dX0_needIn_23 : decode cX0_needIn 23 = .ok (.iload_n 1, 1) := by decide +kernel
theorem dX0_needIn_24 : decode cX0_needIn 24 = .ok (.iaload, 1) := by decide +kernel
theorem dX0_needIn_25 : decode cX0_needIn 25 = .ok (.iconst 1, 1) := by decide +kernel
theorem dX0_needIn_26 : decode cX0_needIn 26 = .ok (.if_icmp .le 9, 3) := by decide +kernel
theorem dX0_needIn_29 : decode cX0_needIn 29 = .ok (.iinc 2 12000, 6) := by decide +kernel
theorem dX0_needIn_35 : decode cX0_needIn 35 = .ok (.iload_n 2, 1) := by decide +kernel
theorem dX0_needIn_36 : decode cX0_needIn 36 = .ok (.aload_n 0, 1) := by decide +kernel
theorem dX0_needIn_37 : decode cX0_needIn 37 = .ok (.getfield 17, 3) := by decide +kernel
theorem dX0_needIn_40 : decode cX0_needIn 40 = .ok (.iconst 2, 1) := by decide +kernel
theorem dX0_needIn_41 : decode cX0_needIn 41 = .ok (.aaload, 1) := by decide +kernel
theorem dX0_needIn_42 : decode cX0_needIn 42 = .ok (.iload_n 1, 1) := by decide +kernel
theorem dX0_needIn_43 : decode cX0_needIn 43 = .ok (.iaload, 1) := by decide +kernel
theorem dX0_needIn_44 : decode cX0_needIn 44 = .ok (.ldc 33, 2) := by decide +kernel
theorem dX0_needIn_46 : decode cX0_needIn 46 = .ok (.invokestatic 34, 3) := by decide +kernel
theorem dX0_needIn_49 : decode cX0_needIn 49 = .ok (.iadd, 1) := by decide +kernel
theorem dX0_needIn_50 : decode cX0_needIn 50 = .ok (.ireturn, 1) := by decide +kernel
theorem dX0_taperIn_0 : decode cX0_taperIn 0 = .ok (.iconst 0, 1) := by decide +kernel
theorem dX0_taperIn_1 : decode cX0_taperIn 1 = .ok (.aload_n 0, 1) := by decide +kernel
theorem dX0_taperIn_2 : decode cX0_taperIn 2 = .ok (.getfield 17, 3) := by decide +kernel
theorem dX0_taperIn_5 : decode cX0_taperIn 5 = .ok (.iconst 3, 1) := by decide +kernel
theorem dX0_taperIn_6 : decode cX0_taperIn 6 = .ok (.aaload, 1) := by decide +kernel
theorem dX0_taperIn_7 : decode cX0_taperIn 7 = .ok (.iload_n 1, 1) := by decide +kernel
theorem dX0_taperIn_8 : decode cX0_taperIn 8 = .ok (.iaload, 1) := by decide +kernel
theorem dX0_taperIn_9 : decode cX0_taperIn 9 = .ok (.sipush 20000, 3) := by decide +kernel
theorem dX0_taperIn_12 : decode cX0_taperIn 12 = .ok (.isub, 1) := by decide +kernel
theorem dX0_taperIn_13 : decode cX0_taperIn 13 = .ok (.invokestatic 40, 3) := by decide +kernel
theorem dX0_taperIn_16 : decode cX0_taperIn 16 = .ok (.istore_n 2, 1) := by decide +kernel
theorem dX0_taperIn_17 : decode cX0_taperIn 17 = .ok (.iload_n 2, 1) := by decide +kernel
theorem dX0_taperIn_18 : decode cX0_taperIn 18 = .ok (.bipush 60, 2) := by decide +kernel
theorem dX0_taperIn_20 : decode cX0_taperIn 20 = .ok (.imul, 1) := by decide +kernel
theorem dX0_taperIn_21 : decode cX0_taperIn 21 = .ok (.bipush 100, 2) := by decide +kernel
theorem dX0_taperIn_23 : decode cX0_taperIn 23 = .ok (.idiv, 1) := by decide +kernel
theorem dX0_taperIn_24 : decode cX0_taperIn 24 = .ok (.ireturn, 1) := by decide +kernel
theorem dX0_tariffIn_0 : decode cX0_tariffIn 0 = .ok (.iconst 0, 1) := by decide +kernel
theorem dX0_tariffIn_1 : decode cX0_tariffIn 1 = .ok (.aload_n 0, 1) := by decide +kernel
theorem dX0_tariffIn_2 : decode cX0_tariffIn 2 = .ok (.getfield 17, 3) := by decide +kernel
theorem dX0_tariffIn_5 : decode cX0_tariffIn 5 = .ok (.iconst 4, 1) := by decide +kernel
theorem dX0_tariffIn_6 : decode cX0_tariffIn 6 = .ok (.aaload, 1) := by decide +kernel
theorem dX0_tariffIn_7 : decode cX0_tariffIn 7 = .ok (.iload_n 1, 1) := by decide +kernel
theorem dX0_tariffIn_8 : decode cX0_tariffIn 8 = .ok (.iaload, 1) := by decide +kernel
theorem dX0_tariffIn_9 : decode cX0_tariffIn 9 = .ok (.ldc 43, 2) := by decide +kernel
theorem dX0_tariffIn_11 : decode cX0_tariffIn 11 = .ok (.isub, 1) := by decide +kernel
theorem dX0_tariffIn_12 : decode cX0_tariffIn 12 = .ok (.invokestatic 40, 3) := by decide +kernel
theorem dX0_tariffIn_15 : decode cX0_tariffIn 15 = .ok (.istore_n 2, 1) := by decide +kernel
theorem dX0_tariffIn_16 : decode cX0_tariffIn 16 = .ok (.iload_n 2, 1) := by decide +kernel
theorem dX0_tariffIn_17 : decode cX0_tariffIn 17 = .ok (.sipush 25000, 3) := by decide +kernel
theorem dX0_tariffIn_20 : decode cX0_tariffIn 20 = .ok (.iadd, 1) := by decide +kernel
theorem dX0_tariffIn_21 : decode cX0_tariffIn 21 = .ok (.iconst 1, 1) := by decide +kernel
theorem dX0_tariffIn_22 : decode cX0_tariffIn 22 = .ok (.isub, 1) := by decide +kernel
theorem dX0_tariffIn_23 : decode cX0_tariffIn 23 = .ok (.sipush 25000, 3) := by decide +kernel
theorem dX0_tariffIn_26 : decode cX0_tariffIn 26 = .ok (.idiv, 1) := by decide +kernel
theorem dX0_tariffIn_27 : decode cX0_tariffIn 27 = .ok (.istore_n 3, 1) := by decide +kernel
theorem dX0_tariffIn_28 : decode cX0_tariffIn 28 = .ok (.iload_n 3, 1) := by decide +kernel
theorem dX0_tariffIn_29 : decode cX0_tariffIn 29 = .ok (.sipush 500, 3) := by decide +kernel
theorem dX0_tariffIn_32 : decode cX0_tariffIn 32 = .ok (.imul, 1) := by decide +kernel
theorem dX0_tariffIn_33 : decode cX0_tariffIn 33 = .ok (.ireturn, 1) := by decide +kernel
set_option maxRecDepth 20000 in
theorem ggX0_dueIn_X0_needIn : GoodIn wsX0_dueIn wsX0_needIn := goodIn_r _ [7, 1, 8, 9, 10, 11, 12, 25, 26, 27, 28, 29, 30, 31, 32, 33] (by decide +kernel) (by decide +kernel)
set_option maxRecDepth 20000 in
theorem gX0_dueIn_X0_needIn : GoodIn wsX0_dueIn (wsV RX0 45 RX0 yX0_needIn wsX0_needIn) := goodIn_app (goodIn_of _ (by decide +kernel)) ggX0_dueIn_X0_needIn
set_option maxRecDepth 20000 in
theorem ggX0_dueIn_X0_taperIn : GoodIn wsX0_dueIn wsX0_taperIn := goodIn_r _ [16, 1, 17, 18, 11, 19, 25, 26, 27, 28, 29, 30, 31, 32, 33] (by decide +kernel) (by decide +kernel)
set_option maxRecDepth 20000 in
theorem gX0_dueIn_X0_taperIn : GoodIn wsX0_dueIn (wsV RX0 49 RX0 yX0_taperIn wsX0_taperIn) := goodIn_app (goodIn_of _ (by decide +kernel)) ggX0_dueIn_X0_taperIn
set_option maxRecDepth 20000 in
theorem ggX0_dueIn_X0_tariffIn : GoodIn wsX0_dueIn wsX0_tariffIn := goodIn_r _ [23, 1, 24, 17, 18, 11, 19, 25, 26, 27, 28, 29, 30, 31, 32, 33] (by decide +kernel) (by decide +kernel)
set_option maxRecDepth 20000 in
theorem gX0_dueIn_X0_tariffIn : GoodIn wsX0_dueIn (wsV RX0 52 RX0 yX0_tariffIn wsX0_tariffIn) := goodIn_app (goodIn_of _ (by decide +kernel)) ggX0_dueIn_X0_tariffIn
theorem dX0_dueIn_0 : decode cX0_dueIn 0 = .ok (.aload_n 0, 1) := by decide +kernel
theorem dX0_dueIn_1 : decode cX0_dueIn 1 = .ok (.getfield 17, 3) := by decide +kernel
theorem dX0_dueIn_4 : decode cX0_dueIn 4 = .ok (.iconst 4, 1) := by decide +kernel
theorem dX0_dueIn_5 : decode cX0_dueIn 5 = .ok (.aaload, 1) := by decide +kernel
theorem dX0_dueIn_6 : decode cX0_dueIn 6 = .ok (.iload_n 1, 1) := by decide +kernel
theorem dX0_dueIn_7 : decode cX0_dueIn 7 = .ok (.iaload, 1) := by decide +kernel
theorem dX0_dueIn_8 : decode cX0_dueIn 8 = .ok (.ldc 44, 2) := by decide +kernel
theorem dX0_dueIn_10 : decode cX0_dueIn 10 = .ok (.if_icmp .le 5, 3) := by decide +kernel
theorem dX0_dueIn_13 : decode cX0_dueIn 13 = .ok (.iconst 0, 1) := by decide +kernel
theorem dX0_dueIn_14 : decode cX0_dueIn 14 = .ok (.ireturn, 1) := by decide +kernel
theorem dX0_dueIn_15 : decode cX0_dueIn 15 = .ok (.aload_n 0, 1) := by decide +kernel
theorem dX0_dueIn_16 : decode cX0_dueIn 16 = .ok (.iload_n 1, 1) := by decide +kernel
theorem dX0_dueIn_17 : decode cX0_dueIn 17 = .ok (.invokevirtual 45, 3) := by decide +kernel
theorem dX0_dueIn_20 : decode cX0_dueIn 20 = .ok (.aload_n 0, 1) := by decide +kernel
theorem dX0_dueIn_21 : decode cX0_dueIn 21 = .ok (.iload_n 1, 1) := by decide +kernel
theorem dX0_dueIn_22 : decode cX0_dueIn 22 = .ok (.invokevirtual 49, 3) := by decide +kernel
theorem dX0_dueIn_25 : decode cX0_dueIn 25 = .ok (.isub, 1) := by decide +kernel
theorem dX0_dueIn_26 : decode cX0_dueIn 26 = .ok (.aload_n 0, 1) := by decide +kernel
theorem dX0_dueIn_27 : decode cX0_dueIn 27 = .ok (.iload_n 1, 1) := by decide +kernel
theorem dX0_dueIn_28 : decode cX0_dueIn 28 = .ok (.invokevirtual 52, 3) := by decide +kernel
theorem dX0_dueIn_31 : decode cX0_dueIn 31 = .ok (.isub, 1) := by decide +kernel
theorem dX0_dueIn_32 : decode cX0_dueIn 32 = .ok (.istore_n 2, 1) := by decide +kernel
theorem dX0_dueIn_33 : decode cX0_dueIn 33 = .ok (.iload_n 2, 1) := by decide +kernel
theorem dX0_dueIn_34 : decode cX0_dueIn 34 = .ok (.sipush 500, 3) := by decide +kernel
theorem dX0_dueIn_37 : decode cX0_dueIn 37 = .ok (.if_icmp .ge 7, 3) := by decide +kernel
theorem dX0_dueIn_40 : decode cX0_dueIn 40 = .ok (.iconst 0, 1) := by decide +kernel
theorem dX0_dueIn_41 : decode cX0_dueIn 41 = .ok (.goto 4, 3) := by decide +kernel
theorem dX0_dueIn_44 : decode cX0_dueIn 44 = .ok (.iload_n 2, 1) := by decide +kernel
theorem dX0_dueIn_45 : decode cX0_dueIn 45 = .ok (.ireturn, 1) := by decide +kernel
set_option maxRecDepth 20000 in
theorem ggX0_unassessedBefore_X0_dueIn : GoodIn wsX0_unassessedBefore wsX0_dueIn := goodIn_r _ [7, 8, 9, 10, 11, 12, 6, 13, 14, 15, 16, 17, 18, 19, 20, 21, 22, 23, 24, 25, 26, 27, 28, 29, 30, 31, 32, 33, 34, 35, 36, 37, 38, 39] (by decide +kernel) (by decide +kernel)
set_option maxRecDepth 20000 in
theorem gX0_unassessedBefore_X0_dueIn : GoodIn wsX0_unassessedBefore (wsV RX0 55 RX0 yX0_dueIn wsX0_dueIn) := goodIn_app (goodIn_of _ (by decide +kernel)) ggX0_unassessedBefore_X0_dueIn
theorem dX0_unassessedBefore_0 : decode cX0_unassessedBefore 0 = .ok (.iconst 0, 1) := by decide +kernel
theorem dX0_unassessedBefore_1 : decode cX0_unassessedBefore 1 = .ok (.istore_n 2, 1) := by decide +kernel
theorem dX0_unassessedBefore_2 : decode cX0_unassessedBefore 2 = .ok (.aload_n 0, 1) := by decide +kernel
theorem dX0_unassessedBefore_3 : decode cX0_unassessedBefore 3 = .ok (.getfield 9, 3) := by decide +kernel
theorem dX0_unassessedBefore_6 : decode cX0_unassessedBefore 6 = .ok (.istore_n 3, 1) := by decide +kernel
theorem dX0_unassessedBefore_7 : decode cX0_unassessedBefore 7 = .ok (.iload_n 3, 1) := by decide +kernel
theorem dX0_unassessedBefore_8 : decode cX0_unassessedBefore 8 = .ok (.iload_n 1, 1) := by decide +kernel
theorem dX0_unassessedBefore_9 : decode cX0_unassessedBefore 9 = .ok (.if_icmp .ge 24, 3) := by decide +kernel
theorem dX0_unassessedBefore_12 : decode cX0_unassessedBefore 12 = .ok (.iload_n 2, 1) := by decide +kernel
theorem dX0_unassessedBefore_13 : decode cX0_unassessedBefore 13 = .ok (.aload_n 0, 1) := by decide +kernel
theorem dX0_unassessedBefore_14 : decode cX0_unassessedBefore 14 = .ok (.iload_n 3, 1) := by decide +kernel
theorem dX0_unassessedBefore_15 : decode cX0_unassessedBefore 15 = .ok (.invokevirtual 55, 3) := by decide +kernel
theorem dX0_unassessedBefore_18 : decode cX0_unassessedBefore 18 = .ok (.aload_n 0, 1) := by decide +kernel
theorem dX0_unassessedBefore_19 : decode cX0_unassessedBefore 19 = .ok (.getfield 23, 3) := by decide +kernel
theorem dX0_unassessedBefore_22 : decode cX0_unassessedBefore 22 = .ok (.iload_n 3, 1) := by decide +kernel
theorem dX0_unassessedBefore_23 : decode cX0_unassessedBefore 23 = .ok (.iaload, 1) := by decide +kernel
theorem dX0_unassessedBefore_24 : decode cX0_unassessedBefore 24 = .ok (.isub, 1) := by decide +kernel
theorem dX0_unassessedBefore_25 : decode cX0_unassessedBefore 25 = .ok (.iadd, 1) := by decide +kernel
theorem dX0_unassessedBefore_26 : decode cX0_unassessedBefore 26 = .ok (.istore_n 2, 1) := by decide +kernel
theorem dX0_unassessedBefore_27 : decode cX0_unassessedBefore 27 = .ok (.iinc 3 1, 3) := by decide +kernel
theorem dX0_unassessedBefore_30 : decode cX0_unassessedBefore 30 = .ok (.goto (-23), 3) := by decide +kernel
theorem dX0_unassessedBefore_33 : decode cX0_unassessedBefore 33 = .ok (.iload_n 2, 1) := by decide +kernel
theorem dX0_unassessedBefore_34 : decode cX0_unassessedBefore 34 = .ok (.ireturn, 1) := by decide +kernel
theorem dX0_owedAfter_0 : decode cX0_owedAfter 0 = .ok (.iconst 0, 1) := by decide +kernel
theorem dX0_owedAfter_1 : decode cX0_owedAfter 1 = .ok (.aload_n 0, 1) := by decide +kernel
theorem dX0_owedAfter_2 : decode cX0_owedAfter 2 = .ok (.getfield 58, 3) := by decide +kernel
theorem dX0_owedAfter_5 : decode cX0_owedAfter 5 = .ok (.iload_n 1, 1) := by decide +kernel
theorem dX0_owedAfter_6 : decode cX0_owedAfter 6 = .ok (.isub, 1) := by decide +kernel
theorem dX0_owedAfter_7 : decode cX0_owedAfter 7 = .ok (.invokestatic 40, 3) := by decide +kernel
theorem dX0_owedAfter_10 : decode cX0_owedAfter 10 = .ok (.ireturn, 1) := by decide +kernel
theorem dX0_arrearsOf_0 : decode cX0_arrearsOf 0 = .ok (.iconst 0, 1) := by decide +kernel
theorem dX0_arrearsOf_1 : decode cX0_arrearsOf 1 = .ok (.iload_n 1, 1) := by decide +kernel
theorem dX0_arrearsOf_2 : decode cX0_arrearsOf 2 = .ok (.aload_n 0, 1) := by decide +kernel
theorem dX0_arrearsOf_3 : decode cX0_arrearsOf 3 = .ok (.getfield 58, 3) := by decide +kernel
theorem dX0_arrearsOf_6 : decode cX0_arrearsOf 6 = .ok (.isub, 1) := by decide +kernel
theorem dX0_arrearsOf_7 : decode cX0_arrearsOf 7 = .ok (.invokestatic 40, 3) := by decide +kernel
theorem dX0_arrearsOf_10 : decode cX0_arrearsOf 10 = .ok (.ireturn, 1) := by decide +kernel
set_option maxRecDepth 20000 in
theorem ggX0_recoverableIn_X0_dueIn : GoodIn wsX0_recoverableIn wsX0_dueIn := goodIn_r _ [14, 2, 15, 16, 17, 18, 13, 19, 20, 7, 8, 5, 9, 21, 22, 23, 24, 3, 4, 6, 25, 26, 27, 28, 29, 30, 31, 32, 33, 34, 35, 36, 37, 38] (by decide +kernel) (by decide +kernel)
set_option maxRecDepth 20000 in
theorem gX0_recoverableIn_X0_dueIn : GoodIn wsX0_recoverableIn (wsV RX0 55 RX0 yX0_dueIn wsX0_dueIn) := goodIn_app (goodIn_of _ (by decide +kernel)) ggX0_recoverableIn_X0_dueIn
theorem dX0_recoverableIn_0 : decode cX0_recoverableIn 0 = .ok (.aload_n 0, 1) := by decide +kernel
theorem dX0_recoverableIn_1 : decode cX0_recoverableIn 1 = .ok (.getfield 61, 3) := by decide +kernel
theorem dX0_recoverableIn_4 : decode cX0_recoverableIn 4 = .ok (.ifCond .eq 5, 3) := by decide +kernel
theorem dX0_recoverableIn_7 : decode cX0_recoverableIn 7 = .ok (.iconst 0, 1) := by decide +kernel
theorem dX0_recoverableIn_8 : decode cX0_recoverableIn 8 = .ok (.ireturn, 1) := by decide +kernel
theorem dX0_recoverableIn_9 : decode cX0_recoverableIn 9 = .ok (.aload_n 0, 1) := by decide +kernel
theorem dX0_recoverableIn_10 : decode cX0_recoverableIn 10 = .ok (.iload_n 1, 1) := by decide +kernel
theorem dX0_recoverableIn_11 : decode cX0_recoverableIn 11 = .ok (.invokevirtual 55, 3) := by decide +kernel
theorem dX0_recoverableIn_14 : decode cX0_recoverableIn 14 = .ok (.istore_n 3, 1) := by decide +kernel
theorem dX0_recoverableIn_15 : decode cX0_recoverableIn 15 = .ok (.iload_n 3, 1) := by decide +kernel
theorem dX0_recoverableIn_16 : decode cX0_recoverableIn 16 = .ok (.bipush 15, 2) := by decide +kernel
theorem dX0_recoverableIn_18 : decode cX0_recoverableIn 18 = .ok (.imul, 1) := by decide +kernel
theorem dX0_recoverableIn_19 : decode cX0_recoverableIn 19 = .ok (.bipush 100, 2) := by decide +kernel
theorem dX0_recoverableIn_21 : decode cX0_recoverableIn 21 = .ok (.idiv, 1) := by decide +kernel
theorem dX0_recoverableIn_22 : decode cX0_recoverableIn 22 = .ok (.istore 4, 2) := by decide +kernel
theorem dX0_recoverableIn_24 : decode cX0_recoverableIn 24 = .ok (.iconst 0, 1) := by decide +kernel
theorem dX0_recoverableIn_25 : decode cX0_recoverableIn 25 = .ok (.iload_n 3, 1) := by decide +kernel
theorem dX0_recoverableIn_26 : decode cX0_recoverableIn 26 = .ok (.aload_n 0, 1) := by decide +kernel
theorem dX0_recoverableIn_27 : decode cX0_recoverableIn 27 = .ok (.getfield 17, 3) := by decide +kernel
theorem dX0_recoverableIn_30 : decode cX0_recoverableIn 30 = .ok (.iconst 3, 1) := by decide +kernel
theorem dX0_recoverableIn_31 : decode cX0_recoverableIn 31 = .ok (.aaload, 1) := by decide +kernel
theorem dX0_recoverableIn_32 : decode cX0_recoverableIn 32 = .ok (.iload_n 1, 1) := by decide +kernel
theorem dX0_recoverableIn_33 : decode cX0_recoverableIn 33 = .ok (.iaload, 1) := by decide +kernel
theorem dX0_recoverableIn_34 : decode cX0_recoverableIn 34 = .ok (.iadd, 1) := by decide +kernel
theorem dX0_recoverableIn_35 : decode cX0_recoverableIn 35 = .ok (.sipush 25000, 3) := by decide +kernel
theorem dX0_recoverableIn_38 : decode cX0_recoverableIn 38 = .ok (.isub, 1) := by decide +kernel
theorem dX0_recoverableIn_39 : decode cX0_recoverableIn 39 = .ok (.invokestatic 40, 3) := by decide +kernel
theorem dX0_recoverableIn_42 : decode cX0_recoverableIn 42 = .ok (.istore 5, 2) := by decide +kernel
theorem dX0_recoverableIn_44 : decode cX0_recoverableIn 44 = .ok (.iload_n 2, 1) := by decide +kernel
theorem dX0_recoverableIn_45 : decode cX0_recoverableIn 45 = .ok (.iload 4, 2) := by decide +kernel
theorem dX0_recoverableIn_47 : decode cX0_recoverableIn 47 = .ok (.iload 5, 2) := by decide +kernel
theorem dX0_recoverableIn_49 : decode cX0_recoverableIn 49 = .ok (.invokestatic 34, 3) := by decide +kernel
theorem dX0_recoverableIn_52 : decode cX0_recoverableIn 52 = .ok (.invokestatic 34, 3) := by decide +kernel
theorem dX0_recoverableIn_55 : decode cX0_recoverableIn 55 = .ok (.ireturn, 1) := by decide +kernel
set_option maxRecDepth 20000 in
theorem ggX0_paymentIn_X0_unassessedBefore : GoodIn wsX0_paymentIn wsX0_unassessedBefore := goodIn_r _ [5, 6, 7, 8, 9, 10, 4, 11, 12, 13, 14, 15, 16, 17, 18, 19, 20, 21, 22, 23, 24, 25, 26, 27, 28, 29, 30, 31, 32, 33, 34, 49, 50, 51, 52, 53, 54, 55, 56, 57] (by decide +kernel) (by decide +kernel)
set_option maxRecDepth 20000 in
theorem gX0_paymentIn_X0_unassessedBefore : GoodIn wsX0_paymentIn (wsV RX0 65 RX0 yX0_unassessedBefore wsX0_unassessedBefore) := goodIn_app (goodIn_of _ (by decide +kernel)) ggX0_paymentIn_X0_unassessedBefore
set_option maxRecDepth 20000 in
theorem ggX0_paymentIn_X0_owedAfter : GoodIn wsX0_paymentIn wsX0_owedAfter := goodIn_r _ [38, 39, 27, 28, 21, 29, 49, 50, 51, 52, 53, 54, 55, 56, 57] (by decide +kernel) (by decide +kernel)
set_option maxRecDepth 20000 in
theorem gX0_paymentIn_X0_owedAfter : GoodIn wsX0_paymentIn (wsV RX0 68 RX0 yX0_owedAfter wsX0_owedAfter) := goodIn_app (goodIn_of _ (by decide +kernel)) ggX0_paymentIn_X0_owedAfter
set_option maxRecDepth 20000 in
theorem ggX0_paymentIn_X0_recoverableIn : GoodIn wsX0_paymentIn wsX0_recoverableIn := goodIn_r _ [43, 44, 12, 27, 28, 21, 29, 19, 20, 22, 8, 9, 10, 4, 11, 13, 14, 15, 16, 17, 18, 23, 24, 25, 26, 30, 31, 32, 33, 34, 49, 50, 51, 52, 53, 54, 55, 56, 57] (by decide +kernel) (by decide +kernel)
set_option maxRecDepth 20000 in
theorem gX0_paymentIn_X0_recoverableIn : GoodIn wsX0_paymentIn (wsV RX0 71 RX0 yX0_recoverableIn wsX0_recoverableIn) := goodIn_app (goodIn_of _ (by decide +kernel)) ggX0_paymentIn_X0_recoverableIn
set_option maxRecDepth 20000 in
theorem ggX0_paymentIn_X0_dueIn : GoodIn wsX0_paymentIn wsX0_dueIn := goodIn_r _ [11, 12, 13, 14, 15, 16, 4, 17, 18, 19, 20, 21, 22, 23, 24, 25, 26, 27, 28, 29, 30, 31, 32, 33, 34, 49, 50, 51, 52, 53, 54, 55, 56, 57] (by decide +kernel) (by decide +kernel)
set_option maxRecDepth 20000 in
theorem gX0_paymentIn_X0_dueIn : GoodIn wsX0_paymentIn (wsV RX0 55 RX0 yX0_dueIn wsX0_dueIn) := goodIn_app (goodIn_of _ (by decide +kernel)) ggX0_paymentIn_X0_dueIn
set_option maxRecDepth 20000 in
theorem ggX0_paymentIn_X0_arrearsOf : GoodIn wsX0_paymentIn wsX0_arrearsOf := goodIn_r _ [48, 39, 27, 28, 21, 29, 49, 50, 51, 52, 53, 54, 55, 56, 57] (by decide +kernel) (by decide +kernel)
set_option maxRecDepth 20000 in
theorem gX0_paymentIn_X0_arrearsOf : GoodIn wsX0_paymentIn (wsV RX0 74 RX0 yX0_arrearsOf wsX0_arrearsOf) := goodIn_app (goodIn_of _ (by decide +kernel)) ggX0_paymentIn_X0_arrearsOf
theorem dX0_paymentIn_0 : decode cX0_paymentIn 0 = .ok (.aload_n 0, 1) := by decide +kernel
theorem dX0_paymentIn_1 : decode cX0_paymentIn 1 = .ok (.iload_n 1, 1) := by decide +kernel
theorem dX0_paymentIn_2 : decode cX0_paymentIn 2 = .ok (.invokevirtual 65, 3) := by decide +kernel
theorem dX0_paymentIn_5 : decode cX0_paymentIn 5 = .ok (.istore_n 2, 1) := by decide +kernel
theorem dX0_paymentIn_6 : decode cX0_paymentIn 6 = .ok (.aload_n 0, 1) := by decide +kernel
theorem dX0_paymentIn_7 : decode cX0_paymentIn 7 = .ok (.iload_n 1, 1) := by decide +kernel
theorem dX0_paymentIn_8 : decode cX0_paymentIn 8 = .ok (.aload_n 0, 1) := by decide +kernel
theorem dX0_paymentIn_9 : decode cX0_paymentIn 9 = .ok (.iload_n 2, 1) := by decide +kernel
theorem dX0_paymentIn_10 : decode cX0_paymentIn 10 = .ok (.invokevirtual 68, 3) := by decide +kernel
theorem dX0_paymentIn_13 : decode cX0_paymentIn 13 = .ok (.invokevirtual 71, 3) := by decide +kernel
theorem dX0_paymentIn_16 : decode cX0_paymentIn 16 = .ok (.istore_n 3, 1) := by decide +kernel
theorem dX0_paymentIn_17 : decode cX0_paymentIn 17 = .ok (.aload_n 0, 1) := by decide +kernel
theorem dX0_paymentIn_18 : decode cX0_paymentIn 18 = .ok (.iload_n 1, 1) := by decide +kernel
theorem dX0_paymentIn_19 : decode cX0_paymentIn 19 = .ok (.invokevirtual 55, 3) := by decide +kernel
theorem dX0_paymentIn_22 : decode cX0_paymentIn 22 = .ok (.iload_n 3, 1) := by decide +kernel
theorem dX0_paymentIn_23 : decode cX0_paymentIn 23 = .ok (.isub, 1) := by decide +kernel
theorem dX0_paymentIn_24 : decode cX0_paymentIn 24 = .ok (.aload_n 0, 1) := by decide +kernel
theorem dX0_paymentIn_25 : decode cX0_paymentIn 25 = .ok (.iload_n 2, 1) := by decide +kernel
theorem dX0_paymentIn_26 : decode cX0_paymentIn 26 = .ok (.invokevirtual 74, 3) := by decide +kernel
theorem dX0_paymentIn_29 : decode cX0_paymentIn 29 = .ok (.iadd, 1) := by decide +kernel
theorem dX0_paymentIn_30 : decode cX0_paymentIn 30 = .ok (.ireturn, 1) := by decide +kernel
set_option maxRecDepth 20000 in
theorem ggX0_settle_X0_paymentIn : GoodIn wsX0_settle wsX0_paymentIn := goodIn_r _ [9, 10, 11, 12, 8, 13, 2, 3, 14, 15, 16, 17, 18, 19, 20, 21, 22, 23, 24, 25, 26, 27, 28, 29, 30, 31, 32, 33, 34, 35, 36, 37, 38, 39, 40, 41, 42, 43, 44, 1, 45, 46, 47, 48, 49, 50, 51, 52, 53, 59, 60, 61, 62, 63, 64, 65, 66, 67] (by decide +kernel) (by decide +kernel)
set_option maxRecDepth 20000 in
theorem gX0_settle_X0_paymentIn : GoodIn wsX0_settle (wsV RX0 77 RX0 yX0_paymentIn wsX0_paymentIn) := goodIn_app (goodIn_of _ (by decide +kernel)) ggX0_settle_X0_paymentIn
set_option maxRecDepth 20000 in
theorem ggX0_settle_X0_unassessedBefore : GoodIn wsX0_settle wsX0_unassessedBefore := goodIn_r _ [13, 2, 3, 14, 15, 16, 8, 17, 18, 19, 20, 21, 22, 23, 24, 25, 26, 27, 28, 29, 30, 31, 32, 33, 34, 35, 36, 37, 38, 39, 40, 59, 60, 61, 62, 63, 64, 65, 66, 67] (by decide +kernel) (by decide +kernel)
set_option maxRecDepth 20000 in
theorem gX0_settle_X0_unassessedBefore : GoodIn wsX0_settle (wsV RX0 65 RX0 yX0_unassessedBefore wsX0_unassessedBefore) := goodIn_app (goodIn_of _ (by decide +kernel)) ggX0_settle_X0_unassessedBefore
set_option maxRecDepth 20000 in
theorem ggX0_settle_X0_owedAfter : GoodIn wsX0_settle wsX0_owedAfter := goodIn_r _ [44, 1, 33, 34, 27, 35, 59, 60, 61, 62, 63, 64, 65, 66, 67] (by decide +kernel) (by decide +kernel)
set_option maxRecDepth 20000 in
theorem gX0_settle_X0_owedAfter : GoodIn wsX0_settle (wsV RX0 68 RX0 yX0_owedAfter wsX0_owedAfter) := goodIn_app (goodIn_of _ (by decide +kernel)) ggX0_settle_X0_owedAfter
set_option maxRecDepth 20000 in
theorem ggX0_settle_X0_recoverableIn : GoodIn wsX0_settle wsX0_recoverableIn := goodIn_r _ [48, 49, 18, 33, 34, 27, 35, 25, 26, 28, 14, 15, 16, 8, 17, 19, 20, 21, 22, 23, 24, 29, 30, 31, 32, 36, 37, 38, 39, 40, 59, 60, 61, 62, 63, 64, 65, 66, 67] (by decide +kernel) (by decide +kernel)
set_option maxRecDepth 20000 in
theorem gX0_settle_X0_recoverableIn : GoodIn wsX0_settle (wsV RX0 71 RX0 yX0_recoverableIn wsX0_recoverableIn) := goodIn_app (goodIn_of _ (by decide +kernel)) ggX0_settle_X0_recoverableIn
set_option maxRecDepth 20000 in
theorem ggX0_settle_X0_lowerDebt : GoodIn wsX0_settle wsX0_lowerDebt := goodIn_r _ [57, 1, 58, 59, 60, 61, 62, 63, 64, 65, 66, 67] (by decide +kernel) (by decide +kernel)
set_option maxRecDepth 20000 in
theorem gX0_settle_X0_lowerDebt : GoodIn wsX0_settle (wsV RX0 80 RX0 yX0_lowerDebt wsX0_lowerDebt) := goodIn_app (goodIn_of _ (by decide +kernel)) ggX0_settle_X0_lowerDebt
set_option maxRecDepth 20000 in
theorem ggX0_settle_X0_dueIn : GoodIn wsX0_settle wsX0_dueIn := goodIn_r _ [17, 18, 19, 20, 21, 22, 8, 23, 24, 25, 26, 27, 28, 29, 30, 31, 32, 33, 34, 35, 36, 37, 38, 39, 40, 59, 60, 61, 62, 63, 64, 65, 66, 67] (by decide +kernel) (by decide +kernel)
set_option maxRecDepth 20000 in
theorem gX0_settle_X0_dueIn : GoodIn wsX0_settle (wsV RX0 55 RX0 yX0_dueIn wsX0_dueIn) := goodIn_app (goodIn_of _ (by decide +kernel)) ggX0_settle_X0_dueIn
theorem dX0_settle_0 : decode cX0_settle 0 = .ok (.aload_n 0, 1) := by decide +kernel
theorem dX0_settle_1 : decode cX0_settle 1 = .ok (.iload_n 1, 1) := by decide +kernel
theorem dX0_settle_2 : decode cX0_settle 2 = .ok (.invokevirtual 77, 3) := by decide +kernel
theorem dX0_settle_5 : decode cX0_settle 5 = .ok (.istore_n 2, 1) := by decide +kernel
theorem dX0_settle_6 : decode cX0_settle 6 = .ok (.aload_n 0, 1) := by decide +kernel
theorem dX0_settle_7 : decode cX0_settle 7 = .ok (.aload_n 0, 1) := by decide +kernel
theorem dX0_settle_8 : decode cX0_settle 8 = .ok (.aload_n 0, 1) := by decide +kernel
theorem dX0_settle_9 : decode cX0_settle 9 = .ok (.iload_n 1, 1) := by decide +kernel
theorem dX0_settle_10 : decode cX0_settle 10 = .ok (.invokevirtual 65, 3) := by decide +kernel
theorem dX0_settle_13 : decode cX0_settle 13 = .ok (.invokevirtual 68, 3) := by decide +kernel
theorem dX0_settle_16 : decode cX0_settle 16 = .ok (.putfield 58, 3) := by decide +kernel
theorem dX0_settle_19 : decode cX0_settle 19 = .ok (.aload_n 0, 1) := by decide +kernel
theorem dX0_settle_20 : decode cX0_settle 20 = .ok (.aload_n 0, 1) := by decide +kernel
theorem dX0_settle_21 : decode cX0_settle 21 = .ok (.iload_n 1, 1) := by decide +kernel
theorem dX0_settle_22 : decode cX0_settle 22 = .ok (.aload_n 0, 1) := by decide +kernel
theorem dX0_settle_23 : decode cX0_settle 23 = .ok (.getfield 58, 3) := by decide +kernel
theorem dX0_settle_26 : decode cX0_settle 26 = .ok (.invokevirtual 71, 3) := by decide +kernel
theorem dX0_settle_29 : decode cX0_settle 29 = .ok (.invokevirtual 80, 3) := by decide +kernel
theorem dX0_settle_32 : decode cX0_settle 32 = .ok (.aload_n 0, 1) := by decide +kernel
theorem dX0_settle_33 : decode cX0_settle 33 = .ok (.getfield 9, 3) := by decide +kernel
theorem dX0_settle_36 : decode cX0_settle 36 = .ok (.istore_n 3, 1) := by decide +kernel
theorem dX0_settle_37 : decode cX0_settle 37 = .ok (.iload_n 3, 1) := by decide +kernel
theorem dX0_settle_38 : decode cX0_settle 38 = .ok (.iload_n 1, 1) := by decide +kernel
theorem dX0_settle_39 : decode cX0_settle 39 = .ok (.if_icmp .gt 20, 3) := by decide +kernel
theorem dX0_settle_42 : decode cX0_settle 42 = .ok (.aload_n 0, 1) := by decide +kernel
theorem dX0_settle_43 : decode cX0_settle 43 = .ok (.getfield 23, 3) := by decide +kernel
theorem dX0_settle_46 : decode cX0_settle 46 = .ok (.iload_n 3, 1) := by decide +kernel
theorem dX0_settle_47 : decode cX0_settle 47 = .ok (.aload_n 0, 1) := by decide +kernel
theorem dX0_settle_48 : decode cX0_settle 48 = .ok (.iload_n 3, 1) := by decide +kernel
theorem dX0_settle_49 : decode cX0_settle 49 = .ok (.invokevirtual 55, 3) := by decide +kernel
theorem dX0_settle_52 : decode cX0_settle 52 = .ok (.iastore, 1) := by decide +kernel
theorem dX0_settle_53 : decode cX0_settle 53 = .ok (.iinc 3 1, 3) := by decide +kernel
theorem dX0_settle_56 : decode cX0_settle 56 = .ok (.goto (-19), 3) := by decide +kernel
theorem dX0_settle_59 : decode cX0_settle 59 = .ok (.aload_n 0, 1) := by decide +kernel
theorem dX0_settle_60 : decode cX0_settle 60 = .ok (.getfield 27, 3) := by decide +kernel
theorem dX0_settle_63 : decode cX0_settle 63 = .ok (.iload_n 1, 1) := by decide +kernel
theorem dX0_settle_64 : decode cX0_settle 64 = .ok (.iload_n 2, 1) := by decide +kernel
theorem dX0_settle_65 : decode cX0_settle 65 = .ok (.iastore, 1) := by decide +kernel
theorem dX0_settle_66 : decode cX0_settle 66 = .ok (.iload_n 2, 1) := by decide +kernel
theorem dX0_settle_67 : decode cX0_settle 67 = .ok (.ireturn, 1) := by decide +kernel
theorem dX0_lowerDebt_0 : decode cX0_lowerDebt 0 = .ok (.aload_n 0, 1) := by decide +kernel
theorem dX0_lowerDebt_1 : decode cX0_lowerDebt 1 = .ok (.dup, 1) := by decide +kernel
theorem dX0_lowerDebt_2 : decode cX0_lowerDebt 2 = .ok (.getfield 58, 3) := by decide +kernel
theorem dX0_lowerDebt_5 : decode cX0_lowerDebt 5 = .ok (.iload_n 1, 1) := by decide +kernel
theorem dX0_lowerDebt_6 : decode cX0_lowerDebt 6 = .ok (.isub, 1) := by decide +kernel
theorem dX0_lowerDebt_7 : decode cX0_lowerDebt 7 = .ok (.putfield 58, 3) := by decide +kernel
theorem dX0_lowerDebt_10 : decode cX0_lowerDebt 10 = .ok (.aload_n 0, 1) := by decide +kernel
theorem dX0_lowerDebt_11 : decode cX0_lowerDebt 11 = .ok (.dup, 1) := by decide +kernel
theorem dX0_lowerDebt_12 : decode cX0_lowerDebt 12 = .ok (.getfield 84, 3) := by decide +kernel
theorem dX0_lowerDebt_15 : decode cX0_lowerDebt 15 = .ok (.iload_n 1, 1) := by decide +kernel
theorem dX0_lowerDebt_16 : decode cX0_lowerDebt 16 = .ok (.iadd, 1) := by decide +kernel
theorem dX0_lowerDebt_17 : decode cX0_lowerDebt 17 = .ok (.putfield 84, 3) := by decide +kernel
theorem dX0_lowerDebt_20 : decode cX0_lowerDebt 20 = .ok (.return_, 1) := by decide +kernel
theorem dX1_init_0 : decode cX1_init 0 = .ok (.aload_n 0, 1) := by decide +kernel
theorem dX1_init_1 : decode cX1_init 1 = .ok (.invokespecial 1, 3) := by decide +kernel
theorem dX1_init_4 : decode cX1_init 4 = .ok (.aload_n 0, 1) := by decide +kernel
theorem dX1_init_5 : decode cX1_init 5 = .ok (.bipush 6, 2) := by decide +kernel
theorem dX1_init_7 : decode cX1_init 7 = .ok (.anewarray 9, 3) := by decide +kernel
theorem dX1_init_10 : decode cX1_init 10 = .ok (.putfield 11, 3) := by decide +kernel
theorem dX1_init_13 : decode cX1_init 13 = .ok (.aload_n 0, 1) := by decide +kernel
theorem dX1_init_14 : decode cX1_init 14 = .ok (.iconst 0, 1) := by decide +kernel
theorem dX1_init_15 : decode cX1_init 15 = .ok (.putfield 15, 3) := by decide +kernel
theorem dX1_init_18 : decode cX1_init 18 = .ok (.aload_n 0, 1) := by decide +kernel
theorem dX1_init_19 : decode cX1_init 19 = .ok (.iconst 0, 1) := by decide +kernel
theorem dX1_init_20 : decode cX1_init 20 = .ok (.putfield 19, 3) := by decide +kernel
theorem dX1_init_23 : decode cX1_init 23 = .ok (.return_, 1) := by decide +kernel
set_option maxRecDepth 20000 in
theorem ggX1_add_X0_init : GoodIn wsX1_add wsX0_init := goodIn_r _ [10, 11, 12, 13, 14, 15, 16, 17, 18, 19, 20, 24, 25, 26, 27, 28, 29, 30, 31, 32] (by decide +kernel) (by decide +kernel)
set_option maxRecDepth 20000 in
theorem gX1_add_X0_init_n31 : GoodIn wsX1_add (wsX0_init) := ggX1_add_X0_init
theorem dX1_add_0 : decode cX1_add 0 = .ok (.aload_n 0, 1) := by decide +kernel
theorem dX1_add_1 : decode cX1_add 1 = .ok (.getfield 15, 3) := by decide +kernel
theorem dX1_add_4 : decode cX1_add 4 = .ok (.ifCond .lt 15, 3) := by decide +kernel
theorem dX1_add_7 : decode cX1_add 7 = .ok (.aload_n 0, 1) := by decide +kernel
theorem dX1_add_8 : decode cX1_add 8 = .ok (.getfield 15, 3) := by decide +kernel
theorem dX1_add_11 : decode cX1_add 11 = .ok (.aload_n 0, 1) := by decide +kernel
theorem dX1_add_12 : decode cX1_add 12 = .ok (.getfield 11, 3) := by decide +kernel
theorem dX1_add_15 : decode cX1_add 15 = .ok (.arraylength, 1) := by decide +kernel
theorem dX1_add_16 : decode cX1_add 16 = .ok (.if_icmp .lt 13, 3) := by decide +kernel
theorem dX1_add_19 : decode cX1_add 19 = .ok (.new 22, 3) := by decide +kernel
theorem dX1_add_22 : decode cX1_add 22 = .ok (.dup, 1) := by decide +kernel
theorem dX1_add_23 : decode cX1_add 23 = .ok (.ldc 24, 2) := by decide +kernel
theorem dX1_add_25 : decode cX1_add 25 = .ok (.invokespecial 26, 3) := by decide +kernel
theorem dX1_add_28 : decode cX1_add 28 = .ok (.athrow, 1) := by decide +kernel
theorem dX1_add_29 : decode cX1_add 29 = .ok (.aload_n 0, 1) := by decide +kernel
theorem dX1_add_30 : decode cX1_add 30 = .ok (.getfield 19, 3) := by decide +kernel
theorem dX1_add_33 : decode cX1_add 33 = .ok (.bipush 48, 2) := by decide +kernel
theorem dX1_add_35 : decode cX1_add 35 = .ok (.if_icmp .lt 13, 3) := by decide +kernel
theorem dX1_add_38 : decode cX1_add 38 = .ok (.new 22, 3) := by decide +kernel
theorem dX1_add_41 : decode cX1_add 41 = .ok (.dup, 1) := by decide +kernel
theorem dX1_add_42 : decode cX1_add 42 = .ok (.ldc 29, 2) := by decide +kernel
theorem dX1_add_44 : decode cX1_add 44 = .ok (.invokespecial 26, 3) := by decide +kernel
theorem dX1_add_47 : decode cX1_add 47 = .ok (.athrow, 1) := by decide +kernel
theorem dX1_add_48 : decode cX1_add 48 = .ok (.aload_n 0, 1) := by decide +kernel
theorem dX1_add_49 : decode cX1_add 49 = .ok (.getfield 15, 3) := by decide +kernel
theorem dX1_add_52 : decode cX1_add 52 = .ok (.istore_n 1, 1) := by decide +kernel
theorem dX1_add_53 : decode cX1_add 53 = .ok (.aload_n 0, 1) := by decide +kernel
theorem dX1_add_54 : decode cX1_add 54 = .ok (.getfield 11, 3) := by decide +kernel
theorem dX1_add_57 : decode cX1_add 57 = .ok (.iload_n 1, 1) := by decide +kernel
theorem dX1_add_58 : decode cX1_add 58 = .ok (.new 9, 3) := by decide +kernel
theorem dX1_add_61 : decode cX1_add 61 = .ok (.dup, 1) := by decide +kernel
theorem dX1_add_62 : decode cX1_add 62 = .ok (.aload_n 0, 1) := by decide +kernel
theorem dX1_add_63 : decode cX1_add 63 = .ok (.getfield 19, 3) := by decide +kernel
theorem dX1_add_66 : decode cX1_add 66 = .ok (.invokespecial 31, 3) := by decide +kernel
theorem dX1_add_69 : decode cX1_add 69 = .ok (.aastore, 1) := by decide +kernel
theorem dX1_add_70 : decode cX1_add 70 = .ok (.aload_n 0, 1) := by decide +kernel
theorem dX1_add_71 : decode cX1_add 71 = .ok (.iload_n 1, 1) := by decide +kernel
theorem dX1_add_72 : decode cX1_add 72 = .ok (.iconst 1, 1) := by decide +kernel
theorem dX1_add_73 : decode cX1_add 73 = .ok (.iadd, 1) := by decide +kernel
theorem dX1_add_74 : decode cX1_add 74 = .ok (.putfield 15, 3) := by decide +kernel
theorem dX1_add_77 : decode cX1_add 77 = .ok (.iload_n 1, 1) := by decide +kernel
theorem dX1_add_78 : decode cX1_add 78 = .ok (.ireturn, 1) := by decide +kernel
set_option maxRecDepth 20000 in
theorem ggX1_tell_X1_existing : GoodIn wsX1_tell wsX1_existing := goodIn_ca (goodIn_r _ [11, 12, 13, 14, 37, 38, 39] (by decide +kernel) (by decide +kernel)) (goodIn_sub (fun _ h => List.mem_cons_of_mem _ (List.mem_append_right _ h)) (by decide +kernel))
set_option maxRecDepth 20000 in
theorem gX1_tell_X1_existing : GoodIn wsX1_tell (wsV RX1 34 RX1 yX1_existing wsX1_existing) := goodIn_app (goodIn_of _ (by decide +kernel)) ggX1_tell_X1_existing
set_option maxRecDepth 20000 in
theorem ggX1_tell_X1_checkFact : GoodIn wsX1_tell wsX1_checkFact := goodIn_ca (goodIn_r _ [17, 1, 2] (by decide +kernel) (by decide +kernel)) (goodIn_sub (fun _ h => List.mem_cons_of_mem _ (List.mem_append_left _ (List.mem_append_left _ (List.mem_append_right _ h)))) (by decide +kernel))
set_option maxRecDepth 20000 in
theorem gX1_tell_X1_checkFact : GoodIn wsX1_tell (va_wsS RX1 38 yX1_checkFact wsX1_checkFact) := goodIn_app (goodIn_of _ (by decide +kernel)) ggX1_tell_X1_checkFact
set_option maxRecDepth 20000 in
theorem ggX1_tell_X1_monthCountedFrom : GoodIn wsX1_tell wsX1_monthCountedFrom := goodIn_r _ [20] (by decide +kernel) (by decide +kernel)
set_option maxRecDepth 20000 in
theorem gX1_tell_X1_monthCountedFrom : GoodIn wsX1_tell (va_wsS RX1 60 yX1_monthCountedFrom wsX1_monthCountedFrom) := goodIn_app (goodIn_of _ (by decide +kernel)) ggX1_tell_X1_monthCountedFrom
set_option maxRecDepth 20000 in
theorem ggX1_tell_X0_change : GoodIn wsX1_tell wsX0_change := goodIn_r _ [24, 25, 26, 27, 28, 29, 30, 31, 32, 33, 34, 35, 36] (by decide +kernel) (by decide +kernel)
set_option maxRecDepth 20000 in
theorem gX1_tell_X0_change_n64 : GoodIn wsX1_tell (wsX0_change) := ggX1_tell_X0_change
theorem dX1_tell_0 : decode cX1_tell 0 = .ok (.aload_n 0, 1) := by decide +kernel
theorem dX1_tell_1 : decode cX1_tell 1 = .ok (.iload_n 1, 1) := by decide +kernel
theorem dX1_tell_2 : decode cX1_tell 2 = .ok (.invokevirtual 34, 3) := by decide +kernel
theorem dX1_tell_5 : decode cX1_tell 5 = .ok (.astore 5, 2) := by decide +kernel
theorem dX1_tell_7 : decode cX1_tell 7 = .ok (.iload_n 2, 1) := by decide +kernel
theorem dX1_tell_8 : decode cX1_tell 8 = .ok (.invokestatic 38, 3) := by decide +kernel
theorem dX1_tell_11 : decode cX1_tell 11 = .ok (.iload_n 3, 1) := by decide +kernel
theorem dX1_tell_12 : decode cX1_tell 12 = .ok (.ifCond .lt 10, 3) := by decide +kernel
theorem dX1_tell_15 : decode cX1_tell 15 = .ok (.iload_n 3, 1) := by decide +kernel
theorem dX1_tell_16 : decode cX1_tell 16 = .ok (.sipush 1440, 3) := by decide +kernel
theorem dX1_tell_19 : decode cX1_tell 19 = .ok (.if_icmp .lt 13, 3) := by decide +kernel
theorem dX1_tell_22 : decode cX1_tell 22 = .ok (.new 41, 3) := by decide +kernel
theorem dX1_tell_25 : decode cX1_tell 25 = .ok (.dup, 1) := by decide +kernel
theorem dX1_tell_26 : decode cX1_tell 26 = .ok (.ldc 43, 2) := by decide +kernel
theorem dX1_tell_28 : decode cX1_tell 28 = .ok (.invokespecial 45, 3) := by decide +kernel
theorem dX1_tell_31 : decode cX1_tell 31 = .ok (.athrow, 1) := by decide +kernel
theorem dX1_tell_32 : decode cX1_tell 32 = .ok (.iload 4, 2) := by decide +kernel
theorem dX1_tell_34 : decode cX1_tell 34 = .ok (.getstatic 46, 3) := by decide +kernel
theorem dX1_tell_37 : decode cX1_tell 37 = .ok (.iload_n 2, 1) := by decide +kernel
theorem dX1_tell_38 : decode cX1_tell 38 = .ok (.iaload, 1) := by decide +kernel
theorem dX1_tell_39 : decode cX1_tell 39 = .ok (.if_icmp .lt 13, 3) := by decide +kernel
theorem dX1_tell_42 : decode cX1_tell 42 = .ok (.iload 4, 2) := by decide +kernel
theorem dX1_tell_44 : decode cX1_tell 44 = .ok (.getstatic 50, 3) := by decide +kernel
theorem dX1_tell_47 : decode cX1_tell 47 = .ok (.iload_n 2, 1) := by decide +kernel
theorem dX1_tell_48 : decode cX1_tell 48 = .ok (.iaload, 1) := by decide +kernel
theorem dX1_tell_49 : decode cX1_tell 49 = .ok (.if_icmp .le 13, 3) := by decide +kernel
theorem dX1_tell_52 : decode cX1_tell 52 = .ok (.new 41, 3) := by decide +kernel
theorem dX1_tell_55 : decode cX1_tell 55 = .ok (.dup, 1) := by decide +kernel
theorem dX1_tell_56 : decode cX1_tell 56 = .ok (.ldc 53, 2) := by decide +kernel
theorem dX1_tell_58 : decode cX1_tell 58 = .ok (.invokespecial 45, 3) := by decide +kernel
theorem dX1_tell_61 : decode cX1_tell 61 = .ok (.athrow, 1) := by decide +kernel
theorem dX1_tell_62 : decode cX1_tell 62 = .ok (.aload 5, 2) := by decide +kernel
theorem dX1_tell_64 : decode cX1_tell 64 = .ok (.getfield 55, 3) := by decide +kernel
theorem dX1_tell_67 : decode cX1_tell 67 = .ok (.bipush 100, 2) := by decide +kernel
theorem dX1_tell_69 : decode cX1_tell 69 = .ok (.if_icmp .lt 13, 3) := by decide +kernel
theorem dX1_tell_72 : decode cX1_tell 72 = .ok (.new 22, 3) := by decide +kernel
theorem dX1_tell_75 : decode cX1_tell 75 = .ok (.dup, 1) := by decide +kernel
theorem dX1_tell_76 : decode cX1_tell 76 = .ok (.ldc 58, 2) := by decide +kernel
theorem dX1_tell_78 : decode cX1_tell 78 = .ok (.invokespecial 26, 3) := by decide +kernel
theorem dX1_tell_81 : decode cX1_tell 81 = .ok (.athrow, 1) := by decide +kernel
theorem dX1_tell_82 : decode cX1_tell 82 = .ok (.iload_n 3, 1) := by decide +kernel
theorem dX1_tell_83 : decode cX1_tell 83 = .ok (.invokestatic 60, 3) := by decide +kernel
theorem dX1_tell_86 : decode cX1_tell 86 = .ok (.istore 6, 2) := by decide +kernel
theorem dX1_tell_88 : decode cX1_tell 88 = .ok (.aload 5, 2) := by decide +kernel
theorem dX1_tell_90 : decode cX1_tell 90 = .ok (.iload_n 2, 1) := by decide +kernel
theorem dX1_tell_91 : decode cX1_tell 91 = .ok (.iload 6, 2) := by decide +kernel
theorem dX1_tell_93 : decode cX1_tell 93 = .ok (.iload 4, 2) := by decide +kernel
theorem dX1_tell_95 : decode cX1_tell 95 = .ok (.invokevirtual 64, 3) := by decide +kernel
theorem dX1_tell_98 : decode cX1_tell 98 = .ok (.iload 6, 2) := by decide +kernel
theorem dX1_tell_100 : decode cX1_tell 100 = .ok (.ireturn, 1) := by decide +kernel
set_option maxRecDepth 20000 in
theorem ggX1_dispute_X1_existing : GoodIn wsX1_dispute wsX1_existing := goodIn_ca (goodIn_r _ [5, 6, 7, 8, 18, 19, 20] (by decide +kernel) (by decide +kernel)) (goodIn_sub (fun _ h => List.mem_cons_of_mem _ (List.mem_append_right _ h)) (by decide +kernel))
set_option maxRecDepth 20000 in
theorem gX1_dispute_X1_existing : GoodIn wsX1_dispute (wsV RX1 34 RX1 yX1_existing wsX1_existing) := goodIn_app (goodIn_of _ (by decide +kernel)) ggX1_dispute_X1_existing
theorem dX1_dispute_0 : decode cX1_dispute 0 = .ok (.aload_n 0, 1) := by decide +kernel
theorem dX1_dispute_1 : decode cX1_dispute 1 = .ok (.iload_n 1, 1) := by decide +kernel
theorem dX1_dispute_2 : decode cX1_dispute 2 = .ok (.invokevirtual 34, 3) := by decide +kernel
theorem dX1_dispute_5 : decode cX1_dispute 5 = .ok (.astore_n 3, 1) := by decide +kernel
theorem dX1_dispute_6 : decode cX1_dispute 6 = .ok (.aload_n 3, 1) := by decide +kernel
theorem dX1_dispute_7 : decode cX1_dispute 7 = .ok (.getfield 68, 3) := by decide +kernel
theorem dX1_dispute_10 : decode cX1_dispute 10 = .ok (.istore 4, 2) := by decide +kernel
theorem dX1_dispute_12 : decode cX1_dispute 12 = .ok (.aload_n 3, 1) := by decide +kernel
theorem dX1_dispute_13 : decode cX1_dispute 13 = .ok (.iload_n 2, 1) := by decide +kernel
theorem dX1_dispute_14 : decode cX1_dispute 14 = .ok (.putfield 68, 3) := by decide +kernel
theorem dX1_dispute_17 : decode cX1_dispute 17 = .ok (.iload 4, 2) := by decide +kernel
theorem dX1_dispute_19 : decode cX1_dispute 19 = .ok (.ireturn, 1) := by decide +kernel
set_option maxRecDepth 20000 in
theorem ggX1_payBack_X1_existing : GoodIn wsX1_payBack wsX1_existing := goodIn_ca (goodIn_r _ [10, 11, 12, 13, 29, 30, 31] (by decide +kernel) (by decide +kernel)) (goodIn_sub (fun _ h => List.mem_cons_of_mem _ (List.mem_append_right _ h)) (by decide +kernel))
set_option maxRecDepth 20000 in
theorem gX1_payBack_X1_existing : GoodIn wsX1_payBack (wsV RX1 34 RX1 yX1_existing wsX1_existing) := goodIn_app (goodIn_of _ (by decide +kernel)) ggX1_payBack_X1_existing
set_option maxRecDepth 20000 in
theorem ggX1_payBack_X0_lowerDebt : GoodIn wsX1_payBack wsX0_lowerDebt := goodIn_r _ [17, 18, 19, 20, 21, 22, 23, 24, 25, 26, 27, 28] (by decide +kernel) (by decide +kernel)
set_option maxRecDepth 20000 in
theorem gX1_payBack_X0_lowerDebt_n80 : GoodIn wsX1_payBack (wsX0_lowerDebt) := ggX1_payBack_X0_lowerDebt
theorem dX1_payBack_0 : decode cX1_payBack 0 = .ok (.aload_n 0, 1) := by decide +kernel
theorem dX1_payBack_1 : decode cX1_payBack 1 = .ok (.iload_n 1, 1) := by decide +kernel
theorem dX1_payBack_2 : decode cX1_payBack 2 = .ok (.invokevirtual 34, 3) := by decide +kernel
theorem dX1_payBack_5 : decode cX1_payBack 5 = .ok (.astore_n 3, 1) := by decide +kernel
theorem dX1_payBack_6 : decode cX1_payBack 6 = .ok (.iload_n 2, 1) := by decide +kernel
theorem dX1_payBack_7 : decode cX1_payBack 7 = .ok (.iconst 1, 1) := by decide +kernel
theorem dX1_payBack_8 : decode cX1_payBack 8 = .ok (.if_icmp .lt 9, 3) := by decide +kernel
theorem dX1_payBack_11 : decode cX1_payBack 11 = .ok (.iload_n 2, 1) := by decide +kernel
theorem dX1_payBack_12 : decode cX1_payBack 12 = .ok (.ldc 72, 2) := by decide +kernel
theorem dX1_payBack_14 : decode cX1_payBack 14 = .ok (.if_icmp .le 13, 3) := by decide +kernel
theorem dX1_payBack_17 : decode cX1_payBack 17 = .ok (.new 41, 3) := by decide +kernel
theorem dX1_payBack_20 : decode cX1_payBack 20 = .ok (.dup, 1) := by decide +kernel
theorem dX1_payBack_21 : decode cX1_payBack 21 = .ok (.ldc 73, 2) := by decide +kernel
theorem dX1_payBack_23 : decode cX1_payBack 23 = .ok (.invokespecial 45, 3) := by decide +kernel
theorem dX1_payBack_26 : decode cX1_payBack 26 = .ok (.athrow, 1) := by decide +kernel
theorem dX1_payBack_27 : decode cX1_payBack 27 = .ok (.aload_n 3, 1) := by decide +kernel
theorem dX1_payBack_28 : decode cX1_payBack 28 = .ok (.getfield 75, 3) := by decide +kernel
theorem dX1_payBack_31 : decode cX1_payBack 31 = .ok (.iload_n 2, 1) := by decide +kernel
theorem dX1_payBack_32 : decode cX1_payBack 32 = .ok (.if_icmp .ge 13, 3) := by decide +kernel
theorem dX1_payBack_35 : decode cX1_payBack 35 = .ok (.new 22, 3) := by decide +kernel
theorem dX1_payBack_38 : decode cX1_payBack 38 = .ok (.dup, 1) := by decide +kernel
theorem dX1_payBack_39 : decode cX1_payBack 39 = .ok (.ldc 78, 2) := by decide +kernel
theorem dX1_payBack_41 : decode cX1_payBack 41 = .ok (.invokespecial 26, 3) := by decide +kernel
theorem dX1_payBack_44 : decode cX1_payBack 44 = .ok (.athrow, 1) := by decide +kernel
theorem dX1_payBack_45 : decode cX1_payBack 45 = .ok (.aload_n 3, 1) := by decide +kernel
theorem dX1_payBack_46 : decode cX1_payBack 46 = .ok (.iload_n 2, 1) := by decide +kernel
theorem dX1_payBack_47 : decode cX1_payBack 47 = .ok (.invokevirtual 80, 3) := by decide +kernel
theorem dX1_payBack_50 : decode cX1_payBack 50 = .ok (.aload_n 3, 1) := by decide +kernel
theorem dX1_payBack_51 : decode cX1_payBack 51 = .ok (.getfield 75, 3) := by decide +kernel
theorem dX1_payBack_54 : decode cX1_payBack 54 = .ok (.ireturn, 1) := by decide +kernel
theorem dX1_households_0 : decode cX1_households 0 = .ok (.aload_n 0, 1) := by decide +kernel
theorem dX1_households_1 : decode cX1_households 1 = .ok (.getfield 15, 3) := by decide +kernel
theorem dX1_households_4 : decode cX1_households 4 = .ok (.ireturn, 1) := by decide +kernel
set_option maxRecDepth 20000 in
theorem ggX1_close_X0_settle : GoodIn wsX1_close wsX0_settle := goodIn_r _ [8, 9, 10, 11, 12, 13, 14, 15, 6, 16, 17, 18, 19, 20, 21, 22, 23, 24, 25, 26, 27, 28, 29, 30, 31, 32, 33, 34, 35, 36, 37, 38, 39, 40, 41, 42, 43, 44, 45, 46, 47, 48, 49, 50, 51, 52, 53, 54, 55, 56, 57, 58, 59, 60, 61, 62, 63, 64, 65, 69, 70, 71, 72, 73, 74, 75, 76, 77] (by decide +kernel) (by decide +kernel)
set_option maxRecDepth 20000 in
theorem gX1_close_X0_settle_n83 : GoodIn wsX1_close (wsX0_settle) := ggX1_close_X0_settle
theorem dX1_close_0 : decode cX1_close 0 = .ok (.aload_n 0, 1) := by decide +kernel
theorem dX1_close_1 : decode cX1_close 1 = .ok (.getfield 19, 3) := by decide +kernel
theorem dX1_close_4 : decode cX1_close 4 = .ok (.bipush 48, 2) := by decide +kernel
theorem dX1_close_6 : decode cX1_close 6 = .ok (.if_icmp .lt 13, 3) := by decide +kernel
theorem dX1_close_9 : decode cX1_close 9 = .ok (.new 22, 3) := by decide +kernel
theorem dX1_close_12 : decode cX1_close 12 = .ok (.dup, 1) := by decide +kernel
theorem dX1_close_13 : decode cX1_close 13 = .ok (.ldc 29, 2) := by decide +kernel
theorem dX1_close_15 : decode cX1_close 15 = .ok (.invokespecial 26, 3) := by decide +kernel
theorem dX1_close_18 : decode cX1_close 18 = .ok (.athrow, 1) := by decide +kernel
theorem dX1_close_19 : decode cX1_close 19 = .ok (.iconst 0, 1) := by decide +kernel
theorem dX1_close_20 : decode cX1_close 20 = .ok (.istore_n 1, 1) := by decide +kernel
theorem dX1_close_21 : decode cX1_close 21 = .ok (.aload_n 0, 1) := by decide +kernel
theorem dX1_close_22 : decode cX1_close 22 = .ok (.getfield 11, 3) := by decide +kernel
theorem dX1_close_25 : decode cX1_close 25 = .ok (.astore_n 2, 1) := by decide +kernel
theorem dX1_close_26 : decode cX1_close 26 = .ok (.aload_n 2, 1) := by decide +kernel
theorem dX1_close_27 : decode cX1_close 27 = .ok (.arraylength, 1) := by decide +kernel
theorem dX1_close_28 : decode cX1_close 28 = .ok (.istore_n 3, 1) := by decide +kernel
theorem dX1_close_29 : decode cX1_close 29 = .ok (.iconst 0, 1) := by decide +kernel
theorem dX1_close_30 : decode cX1_close 30 = .ok (.istore 4, 2) := by decide +kernel
theorem dX1_close_32 : decode cX1_close 32 = .ok (.iload 4, 2) := by decide +kernel
theorem dX1_close_34 : decode cX1_close 34 = .ok (.iload_n 3, 1) := by decide +kernel
theorem dX1_close_35 : decode cX1_close 35 = .ok (.if_icmp .ge 32, 3) := by decide +kernel
theorem dX1_close_38 : decode cX1_close 38 = .ok (.aload_n 2, 1) := by decide +kernel
theorem dX1_close_39 : decode cX1_close 39 = .ok (.iload 4, 2) := by decide +kernel
theorem dX1_close_41 : decode cX1_close 41 = .ok (.aaload, 1) := by decide +kernel
theorem dX1_close_42 : decode cX1_close 42 = .ok (.astore 5, 2) := by decide +kernel
theorem dX1_close_44 : decode cX1_close 44 = .ok (.aload 5, 2) := by decide +kernel
theorem dX1_close_46 : decode cX1_close 46 = .ok (.ifnull 15, 3) := by decide +kernel
theorem dX1_close_49 : decode cX1_close 49 = .ok (.iload_n 1, 1) := by decide +kernel
theorem dX1_close_50 : decode cX1_close 50 = .ok (.aload 5, 2) := by decide +kernel
theorem dX1_close_52 : decode cX1_close 52 = .ok (.aload_n 0, 1) := by decide +kernel
theorem dX1_close_53 : decode cX1_close 53 = .ok (.getfield 19, 3) := by decide +kernel
theorem dX1_close_56 : decode cX1_close 56 = .ok (.invokevirtual 83, 3) := by decide +kernel
theorem dX1_close_59 : decode cX1_close 59 = .ok (.iadd, 1) := by decide +kernel
theorem dX1_close_60 : decode cX1_close 60 = .ok (.istore_n 1, 1) := by decide +kernel
theorem dX1_close_61 : decode cX1_close 61 = .ok (.iinc 4 1, 3) := by decide +kernel
theorem dX1_close_64 : decode cX1_close 64 = .ok (.goto (-32), 3) := by decide +kernel
theorem dX1_close_67 : decode cX1_close 67 = .ok (.aload_n 0, 1) := by decide +kernel
theorem dX1_close_68 : decode cX1_close 68 = .ok (.dup, 1) := by decide +kernel
theorem dX1_close_69 : decode cX1_close 69 = .ok (.getfield 19, 3) := by decide +kernel
theorem dX1_close_72 : decode cX1_close 72 = .ok (.iconst 1, 1) := by decide +kernel
theorem dX1_close_73 : decode cX1_close 73 = .ok (.iadd, 1) := by decide +kernel
theorem dX1_close_74 : decode cX1_close 74 = .ok (.putfield 19, 3) := by decide +kernel
theorem dX1_close_77 : decode cX1_close 77 = .ok (.iload_n 1, 1) := by decide +kernel
theorem dX1_close_78 : decode cX1_close 78 = .ok (.ireturn, 1) := by decide +kernel
theorem dX1_month_0 : decode cX1_month 0 = .ok (.aload_n 0, 1) := by decide +kernel
theorem dX1_month_1 : decode cX1_month 1 = .ok (.getfield 19, 3) := by decide +kernel
theorem dX1_month_4 : decode cX1_month 4 = .ok (.bipush 48, 2) := by decide +kernel
theorem dX1_month_6 : decode cX1_month 6 = .ok (.if_icmp .ge 10, 3) := by decide +kernel
theorem dX1_month_9 : decode cX1_month 9 = .ok (.aload_n 0, 1) := by decide +kernel
theorem dX1_month_10 : decode cX1_month 10 = .ok (.getfield 19, 3) := by decide +kernel
theorem dX1_month_13 : decode cX1_month 13 = .ok (.goto 4, 3) := by decide +kernel
theorem dX1_month_16 : decode cX1_month 16 = .ok (.iconst (-1), 1) := by decide +kernel
theorem dX1_month_17 : decode cX1_month 17 = .ok (.ireturn, 1) := by decide +kernel
set_option maxRecDepth 20000 in
theorem ggX1_fact_X1_existing : GoodIn wsX1_fact wsX1_existing := goodIn_ca (goodIn_r _ [5, 6, 7, 8, 26, 27, 28] (by decide +kernel) (by decide +kernel)) (goodIn_sub (fun _ h => List.mem_cons_of_mem _ (List.mem_append_left _ (List.mem_append_right _ h))) (by decide +kernel))
set_option maxRecDepth 20000 in
theorem gX1_fact_X1_existing : GoodIn wsX1_fact (wsV RX1 34 RX1 yX1_existing wsX1_existing) := goodIn_app (goodIn_of _ (by decide +kernel)) ggX1_fact_X1_existing
set_option maxRecDepth 20000 in
theorem ggX1_fact_X1_checkMonth : GoodIn wsX1_fact wsX1_checkMonth := goodIn_ca (goodIn_r _ [11, 6, 7] (by decide +kernel) (by decide +kernel)) (goodIn_sub (fun _ h => List.mem_cons_of_mem _ (List.mem_append_left _ (List.mem_append_right _ h))) (by decide +kernel))
set_option maxRecDepth 20000 in
theorem gX1_fact_X1_checkMonth : GoodIn wsX1_fact (va_wsS RX1 86 yX1_checkMonth wsX1_checkMonth) := goodIn_app (goodIn_of _ (by decide +kernel)) ggX1_fact_X1_checkMonth
set_option maxRecDepth 20000 in
theorem ggX1_fact_X1_checkFact : GoodIn wsX1_fact wsX1_checkFact := goodIn_ca (goodIn_r _ [14, 15, 16] (by decide +kernel) (by decide +kernel)) (goodIn_sub (fun _ h => List.mem_cons_of_mem _ (List.mem_append_right _ h)) (by decide +kernel))
set_option maxRecDepth 20000 in
theorem gX1_fact_X1_checkFact : GoodIn wsX1_fact (va_wsS RX1 38 yX1_checkFact wsX1_checkFact) := goodIn_app (goodIn_of _ (by decide +kernel)) ggX1_fact_X1_checkFact
theorem dX1_fact_0 : decode cX1_fact 0 = .ok (.aload_n 0, 1) := by decide +kernel
theorem dX1_fact_1 : decode cX1_fact 1 = .ok (.iload_n 1, 1) := by decide +kernel
theorem dX1_fact_2 : decode cX1_fact 2 = .ok (.invokevirtual 34, 3) := by decide +kernel
theorem dX1_fact_5 : decode cX1_fact 5 = .ok (.astore 4, 2) := by decide +kernel
theorem dX1_fact_7 : decode cX1_fact 7 = .ok (.iload_n 3, 1) := by decide +kernel
theorem dX1_fact_8 : decode cX1_fact 8 = .ok (.invokestatic 86, 3) := by decide +kernel
theorem dX1_fact_11 : decode cX1_fact 11 = .ok (.iload_n 2, 1) := by decide +kernel
theorem dX1_fact_12 : decode cX1_fact 12 = .ok (.invokestatic 38, 3) := by decide +kernel
theorem dX1_fact_15 : decode cX1_fact 15 = .ok (.aload 4, 2) := by decide +kernel
theorem dX1_fact_17 : decode cX1_fact 17 = .ok (.getfield 89, 3) := by decide +kernel
theorem dX1_fact_20 : decode cX1_fact 20 = .ok (.iload_n 2, 1) := by decide +kernel
theorem dX1_fact_21 : decode cX1_fact 21 = .ok (.aaload, 1) := by decide +kernel
theorem dX1_fact_22 : decode cX1_fact 22 = .ok (.iload_n 3, 1) := by decide +kernel
theorem dX1_fact_23 : decode cX1_fact 23 = .ok (.iaload, 1) := by decide +kernel
theorem dX1_fact_24 : decode cX1_fact 24 = .ok (.ireturn, 1) := by decide +kernel
set_option maxRecDepth 20000 in
theorem ggX1_need_X1_existing : GoodIn wsX1_need wsX1_existing := goodIn_ca (goodIn_r _ [5, 6, 7, 8, 22, 23, 24] (by decide +kernel) (by decide +kernel)) (goodIn_sub (fun _ h => List.mem_cons_of_mem _ (List.mem_append_right _ h)) (by decide +kernel))
set_option maxRecDepth 20000 in
theorem gX1_need_X1_existing : GoodIn wsX1_need (wsV RX1 34 RX1 yX1_existing wsX1_existing) := goodIn_app (goodIn_of _ (by decide +kernel)) ggX1_need_X1_existing
set_option maxRecDepth 20000 in
theorem ggX1_need_X1_checkMonth : GoodIn wsX1_need wsX1_checkMonth := goodIn_ca (goodIn_r _ [11, 6, 7] (by decide +kernel) (by decide +kernel)) (goodIn_sub (fun _ h => List.mem_cons_of_mem _ (List.mem_append_right _ h)) (by decide +kernel))
set_option maxRecDepth 20000 in
theorem gX1_need_X1_checkMonth : GoodIn wsX1_need (va_wsS RX1 86 yX1_checkMonth wsX1_checkMonth) := goodIn_app (goodIn_of _ (by decide +kernel)) ggX1_need_X1_checkMonth
set_option maxRecDepth 20000 in
theorem ggX1_need_X0_needIn : GoodIn wsX1_need wsX0_needIn := goodIn_r _ [15, 16, 17, 18, 19, 20, 21, 25, 26, 27, 28, 29, 30, 31, 32, 33] (by decide +kernel) (by decide +kernel)
set_option maxRecDepth 20000 in
theorem gX1_need_X0_needIn_n93 : GoodIn wsX1_need (wsX0_needIn) := ggX1_need_X0_needIn
theorem dX1_need_0 : decode cX1_need 0 = .ok (.aload_n 0, 1) := by decide +kernel
theorem dX1_need_1 : decode cX1_need 1 = .ok (.iload_n 1, 1) := by decide +kernel
theorem dX1_need_2 : decode cX1_need 2 = .ok (.invokevirtual 34, 3) := by decide +kernel
theorem dX1_need_5 : decode cX1_need 5 = .ok (.astore_n 3, 1) := by decide +kernel
theorem dX1_need_6 : decode cX1_need 6 = .ok (.iload_n 2, 1) := by decide +kernel
theorem dX1_need_7 : decode cX1_need 7 = .ok (.invokestatic 86, 3) := by decide +kernel
theorem dX1_need_10 : decode cX1_need 10 = .ok (.aload_n 3, 1) := by decide +kernel
theorem dX1_need_11 : decode cX1_need 11 = .ok (.iload_n 2, 1) := by decide +kernel
theorem dX1_need_12 : decode cX1_need 12 = .ok (.invokevirtual 93, 3) := by decide +kernel
theorem dX1_need_15 : decode cX1_need 15 = .ok (.ireturn, 1) := by decide +kernel
set_option maxRecDepth 20000 in
theorem ggX1_taper_X1_existing : GoodIn wsX1_taper wsX1_existing := goodIn_ca (goodIn_r _ [5, 6, 7, 8, 21, 22, 23] (by decide +kernel) (by decide +kernel)) (goodIn_sub (fun _ h => List.mem_cons_of_mem _ (List.mem_append_right _ h)) (by decide +kernel))
set_option maxRecDepth 20000 in
theorem gX1_taper_X1_existing : GoodIn wsX1_taper (wsV RX1 34 RX1 yX1_existing wsX1_existing) := goodIn_app (goodIn_of _ (by decide +kernel)) ggX1_taper_X1_existing
set_option maxRecDepth 20000 in
theorem ggX1_taper_X1_checkMonth : GoodIn wsX1_taper wsX1_checkMonth := goodIn_ca (goodIn_r _ [11, 6, 7] (by decide +kernel) (by decide +kernel)) (goodIn_sub (fun _ h => List.mem_cons_of_mem _ (List.mem_append_right _ h)) (by decide +kernel))
set_option maxRecDepth 20000 in
theorem gX1_taper_X1_checkMonth : GoodIn wsX1_taper (va_wsS RX1 86 yX1_checkMonth wsX1_checkMonth) := goodIn_app (goodIn_of _ (by decide +kernel)) ggX1_taper_X1_checkMonth
set_option maxRecDepth 20000 in
theorem ggX1_taper_X0_taperIn : GoodIn wsX1_taper wsX0_taperIn := goodIn_r _ [15, 16, 17, 18, 19, 20, 24, 25, 26, 27, 28, 29, 30, 31, 32] (by decide +kernel) (by decide +kernel)
set_option maxRecDepth 20000 in
theorem gX1_taper_X0_taperIn_n96 : GoodIn wsX1_taper (wsX0_taperIn) := ggX1_taper_X0_taperIn
theorem dX1_taper_0 : decode cX1_taper 0 = .ok (.aload_n 0, 1) := by decide +kernel
theorem dX1_taper_1 : decode cX1_taper 1 = .ok (.iload_n 1, 1) := by decide +kernel
theorem dX1_taper_2 : decode cX1_taper 2 = .ok (.invokevirtual 34, 3) := by decide +kernel
theorem dX1_taper_5 : decode cX1_taper 5 = .ok (.astore_n 3, 1) := by decide +kernel
theorem dX1_taper_6 : decode cX1_taper 6 = .ok (.iload_n 2, 1) := by decide +kernel
theorem dX1_taper_7 : decode cX1_taper 7 = .ok (.invokestatic 86, 3) := by decide +kernel
theorem dX1_taper_10 : decode cX1_taper 10 = .ok (.aload_n 3, 1) := by decide +kernel
theorem dX1_taper_11 : decode cX1_taper 11 = .ok (.iload_n 2, 1) := by decide +kernel
theorem dX1_taper_12 : decode cX1_taper 12 = .ok (.invokevirtual 96, 3) := by decide +kernel
theorem dX1_taper_15 : decode cX1_taper 15 = .ok (.ireturn, 1) := by decide +kernel
set_option maxRecDepth 20000 in
theorem ggX1_tariff_X1_existing : GoodIn wsX1_tariff wsX1_existing := goodIn_ca (goodIn_r _ [5, 6, 7, 8, 22, 23, 24] (by decide +kernel) (by decide +kernel)) (goodIn_sub (fun _ h => List.mem_cons_of_mem _ (List.mem_append_right _ h)) (by decide +kernel))
set_option maxRecDepth 20000 in
theorem gX1_tariff_X1_existing : GoodIn wsX1_tariff (wsV RX1 34 RX1 yX1_existing wsX1_existing) := goodIn_app (goodIn_of _ (by decide +kernel)) ggX1_tariff_X1_existing
set_option maxRecDepth 20000 in
theorem ggX1_tariff_X1_checkMonth : GoodIn wsX1_tariff wsX1_checkMonth := goodIn_ca (goodIn_r _ [11, 6, 7] (by decide +kernel) (by decide +kernel)) (goodIn_sub (fun _ h => List.mem_cons_of_mem _ (List.mem_append_right _ h)) (by decide +kernel))
set_option maxRecDepth 20000 in
theorem gX1_tariff_X1_checkMonth : GoodIn wsX1_tariff (va_wsS RX1 86 yX1_checkMonth wsX1_checkMonth) := goodIn_app (goodIn_of _ (by decide +kernel)) ggX1_tariff_X1_checkMonth
set_option maxRecDepth 20000 in
theorem ggX1_tariff_X0_tariffIn : GoodIn wsX1_tariff wsX0_tariffIn := goodIn_r _ [15, 16, 17, 18, 19, 20, 21, 25, 26, 27, 28, 29, 30, 31, 32, 33] (by decide +kernel) (by decide +kernel)
set_option maxRecDepth 20000 in
theorem gX1_tariff_X0_tariffIn_n99 : GoodIn wsX1_tariff (wsX0_tariffIn) := ggX1_tariff_X0_tariffIn
theorem dX1_tariff_0 : decode cX1_tariff 0 = .ok (.aload_n 0, 1) := by decide +kernel
theorem dX1_tariff_1 : decode cX1_tariff 1 = .ok (.iload_n 1, 1) := by decide +kernel
theorem dX1_tariff_2 : decode cX1_tariff 2 = .ok (.invokevirtual 34, 3) := by decide +kernel
theorem dX1_tariff_5 : decode cX1_tariff 5 = .ok (.astore_n 3, 1) := by decide +kernel
theorem dX1_tariff_6 : decode cX1_tariff 6 = .ok (.iload_n 2, 1) := by decide +kernel
theorem dX1_tariff_7 : decode cX1_tariff 7 = .ok (.invokestatic 86, 3) := by decide +kernel
theorem dX1_tariff_10 : decode cX1_tariff 10 = .ok (.aload_n 3, 1) := by decide +kernel
theorem dX1_tariff_11 : decode cX1_tariff 11 = .ok (.iload_n 2, 1) := by decide +kernel
theorem dX1_tariff_12 : decode cX1_tariff 12 = .ok (.invokevirtual 99, 3) := by decide +kernel
theorem dX1_tariff_15 : decode cX1_tariff 15 = .ok (.ireturn, 1) := by decide +kernel
set_option maxRecDepth 20000 in
theorem ggX1_due_X1_existing : GoodIn wsX1_due wsX1_existing := goodIn_ca (goodIn_r _ [5, 6, 7, 8, 39, 40, 41] (by decide +kernel) (by decide +kernel)) (goodIn_sub (fun _ h => List.mem_cons_of_mem _ (List.mem_append_right _ h)) (by decide +kernel))
set_option maxRecDepth 20000 in
theorem gX1_due_X1_existing : GoodIn wsX1_due (wsV RX1 34 RX1 yX1_existing wsX1_existing) := goodIn_app (goodIn_of _ (by decide +kernel)) ggX1_due_X1_existing
set_option maxRecDepth 20000 in
theorem ggX1_due_X1_checkMonth : GoodIn wsX1_due wsX1_checkMonth := goodIn_ca (goodIn_r _ [11, 6, 7] (by decide +kernel) (by decide +kernel)) (goodIn_sub (fun _ h => List.mem_cons_of_mem _ (List.mem_append_right _ h)) (by decide +kernel))
set_option maxRecDepth 20000 in
theorem gX1_due_X1_checkMonth : GoodIn wsX1_due (va_wsS RX1 86 yX1_checkMonth wsX1_checkMonth) := goodIn_app (goodIn_of _ (by decide +kernel)) ggX1_due_X1_checkMonth
set_option maxRecDepth 20000 in
theorem ggX1_due_X0_dueIn : GoodIn wsX1_due wsX0_dueIn := goodIn_r _ [15, 16, 17, 18, 19, 20, 13, 21, 22, 23, 24, 25, 26, 27, 28, 29, 30, 31, 32, 33, 34, 35, 36, 37, 38, 42, 43, 44, 45, 46, 47, 48, 49, 50] (by decide +kernel) (by decide +kernel)
set_option maxRecDepth 20000 in
theorem gX1_due_X0_dueIn_n102 : GoodIn wsX1_due (wsX0_dueIn) := ggX1_due_X0_dueIn
theorem dX1_due_0 : decode cX1_due 0 = .ok (.aload_n 0, 1) := by decide +kernel
theorem dX1_due_1 : decode cX1_due 1 = .ok (.iload_n 1, 1) := by decide +kernel
theorem dX1_due_2 : decode cX1_due 2 = .ok (.invokevirtual 34, 3) := by decide +kernel
theorem dX1_due_5 : decode cX1_due 5 = .ok (.astore_n 3, 1) := by decide +kernel
theorem dX1_due_6 : decode cX1_due 6 = .ok (.iload_n 2, 1) := by decide +kernel
theorem dX1_due_7 : decode cX1_due 7 = .ok (.invokestatic 86, 3) := by decide +kernel
theorem dX1_due_10 : decode cX1_due 10 = .ok (.aload_n 3, 1) := by decide +kernel
theorem dX1_due_11 : decode cX1_due 11 = .ok (.iload_n 2, 1) := by decide +kernel
theorem dX1_due_12 : decode cX1_due 12 = .ok (.invokevirtual 102, 3) := by decide +kernel
theorem dX1_due_15 : decode cX1_due 15 = .ok (.ireturn, 1) := by decide +kernel
set_option maxRecDepth 20000 in
theorem ggX1_unassessed_X1_existing : GoodIn wsX1_unassessed wsX1_existing := goodIn_ca (goodIn_r _ [6, 7, 8, 9, 43, 44, 45] (by decide +kernel) (by decide +kernel)) (goodIn_sub (fun _ h => List.mem_cons_of_mem _ (List.mem_append_right _ h)) (by decide +kernel))
set_option maxRecDepth 20000 in
theorem gX1_unassessed_X1_existing : GoodIn wsX1_unassessed (wsV RX1 34 RX1 yX1_existing wsX1_existing) := goodIn_app (goodIn_of _ (by decide +kernel)) ggX1_unassessed_X1_existing
set_option maxRecDepth 20000 in
theorem ggX1_unassessed_X0_unassessedBefore : GoodIn wsX1_unassessed wsX0_unassessedBefore := goodIn_r _ [13, 14, 15, 16, 17, 18, 11, 19, 20, 21, 22, 23, 24, 25, 26, 27, 28, 29, 30, 31, 32, 33, 34, 35, 36, 37, 38, 39, 40, 41, 42, 46, 47, 48, 49, 50, 51, 52, 53, 54] (by decide +kernel) (by decide +kernel)
set_option maxRecDepth 20000 in
theorem gX1_unassessed_X0_unassessedBefore_n105 : GoodIn wsX1_unassessed (wsX0_unassessedBefore) := ggX1_unassessed_X0_unassessedBefore
theorem dX1_unassessed_0 : decode cX1_unassessed 0 = .ok (.aload_n 0, 1) := by decide +kernel
theorem dX1_unassessed_1 : decode cX1_unassessed 1 = .ok (.iload_n 1, 1) := by decide +kernel
theorem dX1_unassessed_2 : decode cX1_unassessed 2 = .ok (.invokevirtual 34, 3) := by decide +kernel
theorem dX1_unassessed_5 : decode cX1_unassessed 5 = .ok (.aload_n 0, 1) := by decide +kernel
theorem dX1_unassessed_6 : decode cX1_unassessed 6 = .ok (.getfield 19, 3) := by decide +kernel
theorem dX1_unassessed_9 : decode cX1_unassessed 9 = .ok (.invokevirtual 105, 3) := by decide +kernel
theorem dX1_unassessed_12 : decode cX1_unassessed 12 = .ok (.ireturn, 1) := by decide +kernel
set_option maxRecDepth 20000 in
theorem ggX1_wouldPay_X1_existing : GoodIn wsX1_wouldPay wsX1_existing := goodIn_ca (goodIn_r _ [6, 7, 8, 9, 61, 62, 63] (by decide +kernel) (by decide +kernel)) (goodIn_sub (fun _ h => List.mem_cons_of_mem _ (List.mem_append_right _ h)) (by decide +kernel))
set_option maxRecDepth 20000 in
theorem gX1_wouldPay_X1_existing : GoodIn wsX1_wouldPay (wsV RX1 34 RX1 yX1_existing wsX1_existing) := goodIn_app (goodIn_of _ (by decide +kernel)) ggX1_wouldPay_X1_existing
set_option maxRecDepth 20000 in
theorem ggX1_wouldPay_X0_paymentIn : GoodIn wsX1_wouldPay wsX0_paymentIn := goodIn_r _ [13, 14, 15, 16, 11, 17, 18, 19, 20, 21, 22, 23, 24, 25, 26, 27, 28, 29, 30, 31, 32, 33, 34, 35, 36, 37, 38, 39, 40, 41, 42, 43, 44, 45, 46, 47, 48, 49, 50, 51, 52, 53, 54, 55, 56, 57, 58, 59, 60, 64, 65, 66, 67, 68, 69, 70, 71, 72] (by decide +kernel) (by decide +kernel)
set_option maxRecDepth 20000 in
theorem gX1_wouldPay_X0_paymentIn_n108 : GoodIn wsX1_wouldPay (wsX0_paymentIn) := ggX1_wouldPay_X0_paymentIn
theorem dX1_wouldPay_0 : decode cX1_wouldPay 0 = .ok (.aload_n 0, 1) := by decide +kernel
theorem dX1_wouldPay_1 : decode cX1_wouldPay 1 = .ok (.iload_n 1, 1) := by decide +kernel
theorem dX1_wouldPay_2 : decode cX1_wouldPay 2 = .ok (.invokevirtual 34, 3) := by decide +kernel
theorem dX1_wouldPay_5 : decode cX1_wouldPay 5 = .ok (.astore_n 2, 1) := by decide +kernel
theorem dX1_wouldPay_6 : decode cX1_wouldPay 6 = .ok (.aload_n 0, 1) := by decide +kernel
theorem dX1_wouldPay_7 : decode cX1_wouldPay 7 = .ok (.getfield 19, 3) := by decide +kernel
theorem dX1_wouldPay_10 : decode cX1_wouldPay 10 = .ok (.bipush 48, 2) := by decide +kernel
theorem dX1_wouldPay_12 : decode cX1_wouldPay 12 = .ok (.if_icmp .ge 14, 3) := by decide +kernel
theorem dX1_wouldPay_15 : decode cX1_wouldPay 15 = .ok (.aload_n 2, 1) := by decide +kernel
theorem dX1_wouldPay_16 : decode cX1_wouldPay 16 = .ok (.aload_n 0, 1) := by decide +kernel
theorem dX1_wouldPay_17 : decode cX1_wouldPay 17 = .ok (.getfield 19, 3) := by decide +kernel
theorem dX1_wouldPay_20 : decode cX1_wouldPay 20 = .ok (.invokevirtual 108, 3) := by decide +kernel
theorem dX1_wouldPay_23 : decode cX1_wouldPay 23 = .ok (.goto 4, 3) := by decide +kernel
theorem dX1_wouldPay_26 : decode cX1_wouldPay 26 = .ok (.iconst 0, 1) := by decide +kernel
theorem dX1_wouldPay_27 : decode cX1_wouldPay 27 = .ok (.ireturn, 1) := by decide +kernel
set_option maxRecDepth 20000 in
theorem ggX1_assessed_X1_existing : GoodIn wsX1_assessed wsX1_existing := goodIn_ca (goodIn_r _ [5, 6, 7, 8, 21, 22, 23] (by decide +kernel) (by decide +kernel)) (goodIn_sub (fun _ h => List.mem_cons_of_mem _ (List.mem_append_right _ h)) (by decide +kernel))
set_option maxRecDepth 20000 in
theorem gX1_assessed_X1_existing : GoodIn wsX1_assessed (wsV RX1 34 RX1 yX1_existing wsX1_existing) := goodIn_app (goodIn_of _ (by decide +kernel)) ggX1_assessed_X1_existing
set_option maxRecDepth 20000 in
theorem ggX1_assessed_X1_checkMonth : GoodIn wsX1_assessed wsX1_checkMonth := goodIn_ca (goodIn_r _ [11, 6, 7] (by decide +kernel) (by decide +kernel)) (goodIn_sub (fun _ h => List.mem_cons_of_mem _ (List.mem_append_right _ h)) (by decide +kernel))
set_option maxRecDepth 20000 in
theorem gX1_assessed_X1_checkMonth : GoodIn wsX1_assessed (va_wsS RX1 86 yX1_checkMonth wsX1_checkMonth) := goodIn_app (goodIn_of _ (by decide +kernel)) ggX1_assessed_X1_checkMonth
theorem dX1_assessed_0 : decode cX1_assessed 0 = .ok (.aload_n 0, 1) := by decide +kernel
theorem dX1_assessed_1 : decode cX1_assessed 1 = .ok (.iload_n 1, 1) := by decide +kernel
theorem dX1_assessed_2 : decode cX1_assessed 2 = .ok (.invokevirtual 34, 3) := by decide +kernel
theorem dX1_assessed_5 : decode cX1_assessed 5 = .ok (.astore_n 3, 1) := by decide +kernel
theorem dX1_assessed_6 : decode cX1_assessed 6 = .ok (.iload_n 2, 1) := by decide +kernel
theorem dX1_assessed_7 : decode cX1_assessed 7 = .ok (.invokestatic 86, 3) := by decide +kernel
theorem dX1_assessed_10 : decode cX1_assessed 10 = .ok (.aload_n 3, 1) := by decide +kernel
theorem dX1_assessed_11 : decode cX1_assessed 11 = .ok (.getfield 111, 3) := by decide +kernel
theorem dX1_assessed_14 : decode cX1_assessed 14 = .ok (.iload_n 2, 1) := by decide +kernel
theorem dX1_assessed_15 : decode cX1_assessed 15 = .ok (.iaload, 1) := by decide +kernel
theorem dX1_assessed_16 : decode cX1_assessed 16 = .ok (.ireturn, 1) := by decide +kernel
set_option maxRecDepth 20000 in
theorem ggX1_paid_X1_existing : GoodIn wsX1_paid wsX1_existing := goodIn_ca (goodIn_r _ [5, 6, 7, 8, 21, 22, 23] (by decide +kernel) (by decide +kernel)) (goodIn_sub (fun _ h => List.mem_cons_of_mem _ (List.mem_append_right _ h)) (by decide +kernel))
set_option maxRecDepth 20000 in
theorem gX1_paid_X1_existing : GoodIn wsX1_paid (wsV RX1 34 RX1 yX1_existing wsX1_existing) := goodIn_app (goodIn_of _ (by decide +kernel)) ggX1_paid_X1_existing
set_option maxRecDepth 20000 in
theorem ggX1_paid_X1_checkMonth : GoodIn wsX1_paid wsX1_checkMonth := goodIn_ca (goodIn_r _ [11, 6, 7] (by decide +kernel) (by decide +kernel)) (goodIn_sub (fun _ h => List.mem_cons_of_mem _ (List.mem_append_right _ h)) (by decide +kernel))
set_option maxRecDepth 20000 in
theorem gX1_paid_X1_checkMonth : GoodIn wsX1_paid (va_wsS RX1 86 yX1_checkMonth wsX1_checkMonth) := goodIn_app (goodIn_of _ (by decide +kernel)) ggX1_paid_X1_checkMonth
theorem dX1_paid_0 : decode cX1_paid 0 = .ok (.aload_n 0, 1) := by decide +kernel
theorem dX1_paid_1 : decode cX1_paid 1 = .ok (.iload_n 1, 1) := by decide +kernel
theorem dX1_paid_2 : decode cX1_paid 2 = .ok (.invokevirtual 34, 3) := by decide +kernel
theorem dX1_paid_5 : decode cX1_paid 5 = .ok (.astore_n 3, 1) := by decide +kernel
theorem dX1_paid_6 : decode cX1_paid 6 = .ok (.iload_n 2, 1) := by decide +kernel
theorem dX1_paid_7 : decode cX1_paid 7 = .ok (.invokestatic 86, 3) := by decide +kernel
theorem dX1_paid_10 : decode cX1_paid 10 = .ok (.aload_n 3, 1) := by decide +kernel
theorem dX1_paid_11 : decode cX1_paid 11 = .ok (.getfield 114, 3) := by decide +kernel
theorem dX1_paid_14 : decode cX1_paid 14 = .ok (.iload_n 2, 1) := by decide +kernel
theorem dX1_paid_15 : decode cX1_paid 15 = .ok (.iaload, 1) := by decide +kernel
theorem dX1_paid_16 : decode cX1_paid 16 = .ok (.ireturn, 1) := by decide +kernel
set_option maxRecDepth 20000 in
theorem ggX1_debt_X1_existing : GoodIn wsX1_debt wsX1_existing := goodIn_ca (goodIn_r _ [5, 6, 7, 8, 18, 19, 20] (by decide +kernel) (by decide +kernel)) (goodIn_sub (fun _ h => List.mem_cons_of_mem _ (List.mem_append_right _ h)) (by decide +kernel))
set_option maxRecDepth 20000 in
theorem gX1_debt_X1_existing : GoodIn wsX1_debt (wsV RX1 34 RX1 yX1_existing wsX1_existing) := goodIn_app (goodIn_of _ (by decide +kernel)) ggX1_debt_X1_existing
theorem dX1_debt_0 : decode cX1_debt 0 = .ok (.aload_n 0, 1) := by decide +kernel
theorem dX1_debt_1 : decode cX1_debt 1 = .ok (.iload_n 1, 1) := by decide +kernel
theorem dX1_debt_2 : decode cX1_debt 2 = .ok (.invokevirtual 34, 3) := by decide +kernel
theorem dX1_debt_5 : decode cX1_debt 5 = .ok (.getfield 75, 3) := by decide +kernel
theorem dX1_debt_8 : decode cX1_debt 8 = .ok (.ireturn, 1) := by decide +kernel
set_option maxRecDepth 20000 in
theorem ggX1_recovered_X1_existing : GoodIn wsX1_recovered wsX1_existing := goodIn_ca (goodIn_r _ [5, 6, 7, 8, 18, 19, 20] (by decide +kernel) (by decide +kernel)) (goodIn_sub (fun _ h => List.mem_cons_of_mem _ (List.mem_append_right _ h)) (by decide +kernel))
set_option maxRecDepth 20000 in
theorem gX1_recovered_X1_existing : GoodIn wsX1_recovered (wsV RX1 34 RX1 yX1_existing wsX1_existing) := goodIn_app (goodIn_of _ (by decide +kernel)) ggX1_recovered_X1_existing
theorem dX1_recovered_0 : decode cX1_recovered 0 = .ok (.aload_n 0, 1) := by decide +kernel
theorem dX1_recovered_1 : decode cX1_recovered 1 = .ok (.iload_n 1, 1) := by decide +kernel
theorem dX1_recovered_2 : decode cX1_recovered 2 = .ok (.invokevirtual 34, 3) := by decide +kernel
theorem dX1_recovered_5 : decode cX1_recovered 5 = .ok (.getfield 117, 3) := by decide +kernel
theorem dX1_recovered_8 : decode cX1_recovered 8 = .ok (.ireturn, 1) := by decide +kernel
theorem dX1_existing_0 : decode cX1_existing 0 = .ok (.iload_n 1, 1) := by decide +kernel
theorem dX1_existing_1 : decode cX1_existing 1 = .ok (.ifCond .lt 12, 3) := by decide +kernel
theorem dX1_existing_4 : decode cX1_existing 4 = .ok (.iload_n 1, 1) := by decide +kernel
theorem dX1_existing_5 : decode cX1_existing 5 = .ok (.aload_n 0, 1) := by decide +kernel
theorem dX1_existing_6 : decode cX1_existing 6 = .ok (.getfield 11, 3) := by decide +kernel
theorem dX1_existing_9 : decode cX1_existing 9 = .ok (.arraylength, 1) := by decide +kernel
theorem dX1_existing_10 : decode cX1_existing 10 = .ok (.if_icmp .lt 13, 3) := by decide +kernel
theorem dX1_existing_13 : decode cX1_existing 13 = .ok (.new 120, 3) := by decide +kernel
theorem dX1_existing_16 : decode cX1_existing 16 = .ok (.dup, 1) := by decide +kernel
theorem dX1_existing_17 : decode cX1_existing 17 = .ok (.ldc 122, 2) := by decide +kernel
theorem dX1_existing_19 : decode cX1_existing 19 = .ok (.invokespecial 124, 3) := by decide +kernel
theorem dX1_existing_22 : decode cX1_existing 22 = .ok (.athrow, 1) := by decide +kernel
theorem dX1_existing_23 : decode cX1_existing 23 = .ok (.aload_n 0, 1) := by decide +kernel
theorem dX1_existing_24 : decode cX1_existing 24 = .ok (.getfield 11, 3) := by decide +kernel
theorem dX1_existing_27 : decode cX1_existing 27 = .ok (.iload_n 1, 1) := by decide +kernel
theorem dX1_existing_28 : decode cX1_existing 28 = .ok (.aaload, 1) := by decide +kernel
theorem dX1_existing_29 : decode cX1_existing 29 = .ok (.astore_n 2, 1) := by decide +kernel
theorem dX1_existing_30 : decode cX1_existing 30 = .ok (.aload_n 2, 1) := by decide +kernel
theorem dX1_existing_31 : decode cX1_existing 31 = .ok (.ifnonnull 13, 3) := by decide +kernel
theorem dX1_existing_34 : decode cX1_existing 34 = .ok (.new 120, 3) := by decide +kernel
theorem dX1_existing_37 : decode cX1_existing 37 = .ok (.dup, 1) := by decide +kernel
theorem dX1_existing_38 : decode cX1_existing 38 = .ok (.ldc 122, 2) := by decide +kernel
theorem dX1_existing_40 : decode cX1_existing 40 = .ok (.invokespecial 124, 3) := by decide +kernel
theorem dX1_existing_43 : decode cX1_existing 43 = .ok (.athrow, 1) := by decide +kernel
theorem dX1_existing_44 : decode cX1_existing 44 = .ok (.aload_n 2, 1) := by decide +kernel
theorem dX1_existing_45 : decode cX1_existing 45 = .ok (.areturn, 1) := by decide +kernel
theorem dX1_checkMonth_0 : decode cX1_checkMonth 0 = .ok (.iload_n 0, 1) := by decide +kernel
theorem dX1_checkMonth_1 : decode cX1_checkMonth 1 = .ok (.ifCond .lt 9, 3) := by decide +kernel
theorem dX1_checkMonth_4 : decode cX1_checkMonth 4 = .ok (.iload_n 0, 1) := by decide +kernel
theorem dX1_checkMonth_5 : decode cX1_checkMonth 5 = .ok (.bipush 48, 2) := by decide +kernel
theorem dX1_checkMonth_7 : decode cX1_checkMonth 7 = .ok (.if_icmp .lt 13, 3) := by decide +kernel
theorem dX1_checkMonth_10 : decode cX1_checkMonth 10 = .ok (.new 120, 3) := by decide +kernel
theorem dX1_checkMonth_13 : decode cX1_checkMonth 13 = .ok (.dup, 1) := by decide +kernel
theorem dX1_checkMonth_14 : decode cX1_checkMonth 14 = .ok (.ldc 125, 2) := by decide +kernel
theorem dX1_checkMonth_16 : decode cX1_checkMonth 16 = .ok (.invokespecial 124, 3) := by decide +kernel
theorem dX1_checkMonth_19 : decode cX1_checkMonth 19 = .ok (.athrow, 1) := by decide +kernel
theorem dX1_checkMonth_20 : decode cX1_checkMonth 20 = .ok (.return_, 1) := by decide +kernel
theorem dX1_checkFact_0 : decode cX1_checkFact 0 = .ok (.iload_n 0, 1) := by decide +kernel
theorem dX1_checkFact_1 : decode cX1_checkFact 1 = .ok (.ifCond .lt 8, 3) := by decide +kernel
theorem dX1_checkFact_4 : decode cX1_checkFact 4 = .ok (.iload_n 0, 1) := by decide +kernel
theorem dX1_checkFact_5 : decode cX1_checkFact 5 = .ok (.iconst 5, 1) := by decide +kernel
theorem dX1_checkFact_6 : decode cX1_checkFact 6 = .ok (.if_icmp .lt 13, 3) := by decide +kernel
theorem dX1_checkFact_9 : decode cX1_checkFact 9 = .ok (.new 41, 3) := by decide +kernel
theorem dX1_checkFact_12 : decode cX1_checkFact 12 = .ok (.dup, 1) := by decide +kernel
theorem dX1_checkFact_13 : decode cX1_checkFact 13 = .ok (.ldc 127, 2) := by decide +kernel
theorem dX1_checkFact_15 : decode cX1_checkFact 15 = .ok (.invokespecial 45, 3) := by decide +kernel
theorem dX1_checkFact_18 : decode cX1_checkFact 18 = .ok (.athrow, 1) := by decide +kernel
theorem dX1_checkFact_19 : decode cX1_checkFact 19 = .ok (.return_, 1) := by decide +kernel
theorem dX1_monthCountedFrom_0 : decode cX1_monthCountedFrom 0 = .ok (.iload_n 0, 1) := by decide +kernel
theorem dX1_monthCountedFrom_1 : decode cX1_monthCountedFrom 1 = .ok (.bipush 30, 2) := by decide +kernel
theorem dX1_monthCountedFrom_3 : decode cX1_monthCountedFrom 3 = .ok (.idiv, 1) := by decide +kernel
theorem dX1_monthCountedFrom_4 : decode cX1_monthCountedFrom 4 = .ok (.istore_n 1, 1) := by decide +kernel
theorem dX1_monthCountedFrom_5 : decode cX1_monthCountedFrom 5 = .ok (.iload_n 0, 1) := by decide +kernel
theorem dX1_monthCountedFrom_6 : decode cX1_monthCountedFrom 6 = .ok (.bipush 30, 2) := by decide +kernel
theorem dX1_monthCountedFrom_8 : decode cX1_monthCountedFrom 8 = .ok (.irem, 1) := by decide +kernel
theorem dX1_monthCountedFrom_9 : decode cX1_monthCountedFrom 9 = .ok (.bipush 15, 2) := by decide +kernel
theorem dX1_monthCountedFrom_11 : decode cX1_monthCountedFrom 11 = .ok (.if_icmp .ge 7, 3) := by decide +kernel
theorem dX1_monthCountedFrom_14 : decode cX1_monthCountedFrom 14 = .ok (.iload_n 1, 1) := by decide +kernel
theorem dX1_monthCountedFrom_15 : decode cX1_monthCountedFrom 15 = .ok (.goto 6, 3) := by decide +kernel
theorem dX1_monthCountedFrom_18 : decode cX1_monthCountedFrom 18 = .ok (.iload_n 1, 1) := by decide +kernel
theorem dX1_monthCountedFrom_19 : decode cX1_monthCountedFrom 19 = .ok (.iconst 1, 1) := by decide +kernel
theorem dX1_monthCountedFrom_20 : decode cX1_monthCountedFrom 20 = .ok (.iadd, 1) := by decide +kernel
theorem dX1_monthCountedFrom_21 : decode cX1_monthCountedFrom 21 = .ok (.ireturn, 1) := by decide +kernel
theorem dX2_init_0 : decode cX2_init 0 = .ok (.aload_n 0, 1) := by decide +kernel
theorem dX2_init_1 : decode cX2_init 1 = .ok (.invokespecial 1, 3) := by decide +kernel
theorem dX2_init_4 : decode cX2_init 4 = .ok (.aload_n 0, 1) := by decide +kernel
theorem dX2_init_5 : decode cX2_init 5 = .ok (.bipush 6, 2) := by decide +kernel
theorem dX2_init_7 : decode cX2_init 7 = .ok (.newarray .int, 2) := by decide +kernel
theorem dX2_init_9 : decode cX2_init 9 = .ok (.putfield 7, 3) := by decide +kernel
theorem dX2_init_12 : decode cX2_init 12 = .ok (.aload_n 0, 1) := by decide +kernel
theorem dX2_init_13 : decode cX2_init 13 = .ok (.bipush 6, 2) := by decide +kernel
theorem dX2_init_15 : decode cX2_init 15 = .ok (.newarray .int, 2) := by decide +kernel
theorem dX2_init_17 : decode cX2_init 17 = .ok (.putfield 13, 3) := by decide +kernel
theorem dX2_init_20 : decode cX2_init 20 = .ok (.aload_n 0, 1) := by decide +kernel
theorem dX2_init_21 : decode cX2_init 21 = .ok (.sipush 600, 3) := by decide +kernel
theorem dX2_init_24 : decode cX2_init 24 = .ok (.newarray .int, 2) := by decide +kernel
theorem dX2_init_26 : decode cX2_init 26 = .ok (.putfield 16, 3) := by decide +kernel
theorem dX2_init_29 : decode cX2_init 29 = .ok (.aload_n 0, 1) := by decide +kernel
theorem dX2_init_30 : decode cX2_init 30 = .ok (.sipush 600, 3) := by decide +kernel
theorem dX2_init_33 : decode cX2_init 33 = .ok (.newarray .int, 2) := by decide +kernel
theorem dX2_init_35 : decode cX2_init 35 = .ok (.putfield 19, 3) := by decide +kernel
theorem dX2_init_38 : decode cX2_init 38 = .ok (.aload_n 0, 1) := by decide +kernel
theorem dX2_init_39 : decode cX2_init 39 = .ok (.sipush 600, 3) := by decide +kernel
theorem dX2_init_42 : decode cX2_init 42 = .ok (.newarray .int, 2) := by decide +kernel
theorem dX2_init_44 : decode cX2_init 44 = .ok (.putfield 22, 3) := by decide +kernel
theorem dX2_init_47 : decode cX2_init 47 = .ok (.aload_n 0, 1) := by decide +kernel
theorem dX2_init_48 : decode cX2_init 48 = .ok (.sipush 288, 3) := by decide +kernel
theorem dX2_init_51 : decode cX2_init 51 = .ok (.newarray .int, 2) := by decide +kernel
theorem dX2_init_53 : decode cX2_init 53 = .ok (.putfield 25, 3) := by decide +kernel
theorem dX2_init_56 : decode cX2_init 56 = .ok (.aload_n 0, 1) := by decide +kernel
theorem dX2_init_57 : decode cX2_init 57 = .ok (.sipush 288, 3) := by decide +kernel
theorem dX2_init_60 : decode cX2_init 60 = .ok (.newarray .int, 2) := by decide +kernel
theorem dX2_init_62 : decode cX2_init 62 = .ok (.putfield 28, 3) := by decide +kernel
theorem dX2_init_65 : decode cX2_init 65 = .ok (.aload_n 0, 1) := by decide +kernel
theorem dX2_init_66 : decode cX2_init 66 = .ok (.bipush 6, 2) := by decide +kernel
theorem dX2_init_68 : decode cX2_init 68 = .ok (.newarray .int, 2) := by decide +kernel
theorem dX2_init_70 : decode cX2_init 70 = .ok (.putfield 31, 3) := by decide +kernel
theorem dX2_init_73 : decode cX2_init 73 = .ok (.aload_n 0, 1) := by decide +kernel
theorem dX2_init_74 : decode cX2_init 74 = .ok (.bipush 6, 2) := by decide +kernel
theorem dX2_init_76 : decode cX2_init 76 = .ok (.newarray .int, 2) := by decide +kernel
theorem dX2_init_78 : decode cX2_init 78 = .ok (.putfield 34, 3) := by decide +kernel
theorem dX2_init_81 : decode cX2_init 81 = .ok (.aload_n 0, 1) := by decide +kernel
theorem dX2_init_82 : decode cX2_init 82 = .ok (.bipush 6, 2) := by decide +kernel
theorem dX2_init_84 : decode cX2_init 84 = .ok (.newarray .boolean, 2) := by decide +kernel
theorem dX2_init_86 : decode cX2_init 86 = .ok (.putfield 37, 3) := by decide +kernel
theorem dX2_init_89 : decode cX2_init 89 = .ok (.return_, 1) := by decide +kernel
theorem dX2_thrown_0 : decode cX2_thrown 0 = .ok (.aload_n 0, 1) := by decide +kernel
theorem dX2_thrown_1 : decode cX2_thrown 1 = .ok (.getfield 41, 3) := by decide +kernel
theorem dX2_thrown_4 : decode cX2_thrown 4 = .ok (.ireturn, 1) := by decide +kernel
theorem dX2_fails_0 : decode cX2_fails 0 = .ok (.aload_n 0, 1) := by decide +kernel
theorem dX2_fails_1 : decode cX2_fails 1 = .ok (.iload_n 1, 1) := by decide +kernel
theorem dX2_fails_2 : decode cX2_fails 2 = .ok (.putfield 41, 3) := by decide +kernel
theorem dX2_fails_5 : decode cX2_fails 5 = .ok (.iconst 0, 1) := by decide +kernel
theorem dX2_fails_6 : decode cX2_fails 6 = .ok (.ireturn, 1) := by decide +kernel
theorem dX2_in_0 : decode cX2_in 0 = .ok (.iload_n 0, 1) := by decide +kernel
theorem dX2_in_1 : decode cX2_in 1 = .ok (.iload_n 1, 1) := by decide +kernel
theorem dX2_in_2 : decode cX2_in 2 = .ok (.if_icmp .lt 12, 3) := by decide +kernel
theorem dX2_in_5 : decode cX2_in 5 = .ok (.iload_n 0, 1) := by decide +kernel
theorem dX2_in_6 : decode cX2_in 6 = .ok (.iload_n 2, 1) := by decide +kernel
theorem dX2_in_7 : decode cX2_in 7 = .ok (.if_icmp .gt 7, 3) := by decide +kernel
theorem dX2_in_10 : decode cX2_in 10 = .ok (.iconst 1, 1) := by decide +kernel
theorem dX2_in_11 : decode cX2_in 11 = .ok (.goto 4, 3) := by decide +kernel
theorem dX2_in_14 : decode cX2_in 14 = .ok (.iconst 0, 1) := by decide +kernel
theorem dX2_in_15 : decode cX2_in 15 = .ok (.ireturn, 1) := by decide +kernel
set_option maxRecDepth 20000 in
theorem ggX2_isHome_X2_in : GoodIn wsX2_isHome wsX2_in := goodIn_r _ [5] (by decide +kernel) (by decide +kernel)
set_option maxRecDepth 20000 in
theorem gX2_isHome_X2_in : GoodIn wsX2_isHome (va_wsS RX2 48 yX2_in wsX2_in) := goodIn_app (goodIn_of _ (by decide +kernel)) ggX2_isHome_X2_in
theorem dX2_isHome_0 : decode cX2_isHome 0 = .ok (.iload_n 1, 1) := by decide +kernel
theorem dX2_isHome_1 : decode cX2_isHome 1 = .ok (.iconst 0, 1) := by decide +kernel
theorem dX2_isHome_2 : decode cX2_isHome 2 = .ok (.aload_n 0, 1) := by decide +kernel
theorem dX2_isHome_3 : decode cX2_isHome 3 = .ok (.getfield 45, 3) := by decide +kernel
theorem dX2_isHome_6 : decode cX2_isHome 6 = .ok (.iconst 1, 1) := by decide +kernel
theorem dX2_isHome_7 : decode cX2_isHome 7 = .ok (.isub, 1) := by decide +kernel
theorem dX2_isHome_8 : decode cX2_isHome 8 = .ok (.invokestatic 48, 3) := by decide +kernel
theorem dX2_isHome_11 : decode cX2_isHome 11 = .ok (.ireturn, 1) := by decide +kernel
set_option maxRecDepth 20000 in
theorem ggX2_isAsked_X2_isHome : GoodIn wsX2_isAsked wsX2_isHome := goodIn_r _ [6, 7, 8, 9, 5, 10, 11, 12, 13, 14, 15, 16, 17, 18, 19, 20, 21, 22, 23, 24, 25, 26] (by decide +kernel) (by decide +kernel)
set_option maxRecDepth 20000 in
theorem gX2_isAsked_X2_isHome : GoodIn wsX2_isAsked (wsV RX2 52 RX2 yX2_isHome wsX2_isHome) := goodIn_app (goodIn_of _ (by decide +kernel)) ggX2_isAsked_X2_isHome
set_option maxRecDepth 20000 in
theorem ggX2_isAsked_X2_in : GoodIn wsX2_isAsked wsX2_in := goodIn_r _ [10] (by decide +kernel) (by decide +kernel)
set_option maxRecDepth 20000 in
theorem gX2_isAsked_X2_in : GoodIn wsX2_isAsked (va_wsS RX2 48 yX2_in wsX2_in) := goodIn_app (goodIn_of _ (by decide +kernel)) ggX2_isAsked_X2_in
theorem dX2_isAsked_0 : decode cX2_isAsked 0 = .ok (.aload_n 0, 1) := by decide +kernel
theorem dX2_isAsked_1 : decode cX2_isAsked 1 = .ok (.aload_n 0, 1) := by decide +kernel
theorem dX2_isAsked_2 : decode cX2_isAsked 2 = .ok (.iload_n 1, 1) := by decide +kernel
theorem dX2_isAsked_3 : decode cX2_isAsked 3 = .ok (.invokevirtual 52, 3) := by decide +kernel
theorem dX2_isAsked_6 : decode cX2_isAsked 6 = .ok (.ifCond .eq 17, 3) := by decide +kernel
theorem dX2_isAsked_9 : decode cX2_isAsked 9 = .ok (.iload_n 2, 1) := by decide +kernel
theorem dX2_isAsked_10 : decode cX2_isAsked 10 = .ok (.iconst 0, 1) := by decide +kernel
theorem dX2_isAsked_11 : decode cX2_isAsked 11 = .ok (.bipush 47, 2) := by decide +kernel
theorem dX2_isAsked_13 : decode cX2_isAsked 13 = .ok (.invokestatic 48, 3) := by decide +kernel
theorem dX2_isAsked_16 : decode cX2_isAsked 16 = .ok (.ifCond .eq 7, 3) := by decide +kernel
theorem dX2_isAsked_19 : decode cX2_isAsked 19 = .ok (.iconst 0, 1) := by decide +kernel
theorem dX2_isAsked_20 : decode cX2_isAsked 20 = .ok (.goto 4, 3) := by decide +kernel
theorem dX2_isAsked_23 : decode cX2_isAsked 23 = .ok (.iconst 1, 1) := by decide +kernel
theorem dX2_isAsked_24 : decode cX2_isAsked 24 = .ok (.putfield 41, 3) := by decide +kernel
theorem dX2_isAsked_27 : decode cX2_isAsked 27 = .ok (.aload_n 0, 1) := by decide +kernel
theorem dX2_isAsked_28 : decode cX2_isAsked 28 = .ok (.getfield 41, 3) := by decide +kernel
theorem dX2_isAsked_31 : decode cX2_isAsked 31 = .ok (.ifCond .ne 7, 3) := by decide +kernel
theorem dX2_isAsked_34 : decode cX2_isAsked 34 = .ok (.iconst 1, 1) := by decide +kernel
theorem dX2_isAsked_35 : decode cX2_isAsked 35 = .ok (.goto 4, 3) := by decide +kernel
theorem dX2_isAsked_38 : decode cX2_isAsked 38 = .ok (.iconst 0, 1) := by decide +kernel
theorem dX2_isAsked_39 : decode cX2_isAsked 39 = .ok (.ireturn, 1) := by decide +kernel
theorem dX2_lowest_0 : decode cX2_lowest 0 = .ok (.iload_n 0, 1) := by decide +kernel
theorem dX2_lowest_1 : decode cX2_lowest 1 = .ok (.ifCond .ne 7, 3) := by decide +kernel
theorem dX2_lowest_4 : decode cX2_lowest 4 = .ok (.iconst 1, 1) := by decide +kernel
theorem dX2_lowest_5 : decode cX2_lowest 5 = .ok (.goto 4, 3) := by decide +kernel
theorem dX2_lowest_8 : decode cX2_lowest 8 = .ok (.iconst 0, 1) := by decide +kernel
theorem dX2_lowest_9 : decode cX2_lowest 9 = .ok (.ireturn, 1) := by decide +kernel
theorem dX2_greatest_0 : decode cX2_greatest 0 = .ok (.iload_n 0, 1) := by decide +kernel
theorem dX2_greatest_1 : decode cX2_greatest 1 = .ok (.ifCond .ne 7, 3) := by decide +kernel
theorem dX2_greatest_4 : decode cX2_greatest 4 = .ok (.iconst 2, 1) := by decide +kernel
theorem dX2_greatest_5 : decode cX2_greatest 5 = .ok (.goto 25, 3) := by decide +kernel
theorem dX2_greatest_8 : decode cX2_greatest 8 = .ok (.iload_n 0, 1) := by decide +kernel
theorem dX2_greatest_9 : decode cX2_greatest 9 = .ok (.iconst 1, 1) := by decide +kernel
theorem dX2_greatest_10 : decode cX2_greatest 10 = .ok (.if_icmp .ne 8, 3) := by decide +kernel
theorem dX2_greatest_13 : decode cX2_greatest 13 = .ok (.bipush 9, 2) := by decide +kernel
theorem dX2_greatest_15 : decode cX2_greatest 15 = .ok (.goto 15, 3) := by decide +kernel
theorem dX2_greatest_18 : decode cX2_greatest 18 = .ok (.iload_n 0, 1) := by decide +kernel
theorem dX2_greatest_19 : decode cX2_greatest 19 = .ok (.iconst 4, 1) := by decide +kernel
theorem dX2_greatest_20 : decode cX2_greatest 20 = .ok (.if_icmp .ne 8, 3) := by decide +kernel
theorem dX2_greatest_23 : decode cX2_greatest 23 = .ok (.ldc 56, 2) := by decide +kernel
theorem dX2_greatest_25 : decode cX2_greatest 25 = .ok (.goto 5, 3) := by decide +kernel
theorem dX2_greatest_28 : decode cX2_greatest 28 = .ok (.ldc 57, 2) := by decide +kernel
theorem dX2_greatest_30 : decode cX2_greatest 30 = .ok (.ireturn, 1) := by decide +kernel
set_option maxRecDepth 20000 in
theorem ggX2_factOf_X2_lowest : GoodIn wsX2_factOf wsX2_lowest := goodIn_r _ [8] (by decide +kernel) (by decide +kernel)
set_option maxRecDepth 20000 in
theorem gX2_factOf_X2_lowest : GoodIn wsX2_factOf (va_wsS RX2 58 yX2_lowest wsX2_lowest) := goodIn_app (goodIn_of _ (by decide +kernel)) ggX2_factOf_X2_lowest
theorem dX2_factOf_0 : decode cX2_factOf 0 = .ok (.iload_n 2, 1) := by decide +kernel
theorem dX2_factOf_1 : decode cX2_factOf 1 = .ok (.invokestatic 58, 3) := by decide +kernel
theorem dX2_factOf_4 : decode cX2_factOf 4 = .ok (.istore 4, 2) := by decide +kernel
theorem dX2_factOf_6 : decode cX2_factOf 6 = .ok (.iconst (-1), 1) := by decide +kernel
theorem dX2_factOf_7 : decode cX2_factOf 7 = .ok (.istore 5, 2) := by decide +kernel
theorem dX2_factOf_9 : decode cX2_factOf 9 = .ok (.bipush 100, 2) := by decide +kernel
theorem dX2_factOf_11 : decode cX2_factOf 11 = .ok (.iload_n 1, 1) := by decide +kernel
theorem dX2_factOf_12 : decode cX2_factOf 12 = .ok (.imul, 1) := by decide +kernel
theorem dX2_factOf_13 : decode cX2_factOf 13 = .ok (.istore 6, 2) := by decide +kernel
theorem dX2_factOf_15 : decode cX2_factOf 15 = .ok (.iload 6, 2) := by decide +kernel
theorem dX2_factOf_17 : decode cX2_factOf 17 = .ok (.bipush 100, 2) := by decide +kernel
theorem dX2_factOf_19 : decode cX2_factOf 19 = .ok (.iload_n 1, 1) := by decide +kernel
theorem dX2_factOf_20 : decode cX2_factOf 20 = .ok (.imul, 1) := by decide +kernel
theorem dX2_factOf_21 : decode cX2_factOf 21 = .ok (.aload_n 0, 1) := by decide +kernel
theorem dX2_factOf_22 : decode cX2_factOf 22 = .ok (.getfield 13, 3) := by decide +kernel
theorem dX2_factOf_25 : decode cX2_factOf 25 = .ok (.iload_n 1, 1) := by decide +kernel
theorem dX2_factOf_26 : decode cX2_factOf 26 = .ok (.iaload, 1) := by decide +kernel
theorem dX2_factOf_27 : decode cX2_factOf 27 = .ok (.iadd, 1) := by decide +kernel
theorem dX2_factOf_28 : decode cX2_factOf 28 = .ok (.if_icmp .ge 88, 3) := by decide +kernel
theorem dX2_factOf_31 : decode cX2_factOf 31 = .ok (.aload_n 0, 1) := by decide +kernel
theorem dX2_factOf_32 : decode cX2_factOf 32 = .ok (.getfield 16, 3) := by decide +kernel
theorem dX2_factOf_35 : decode cX2_factOf 35 = .ok (.iload 6, 2) := by decide +kernel
theorem dX2_factOf_37 : decode cX2_factOf 37 = .ok (.iaload, 1) := by decide +kernel
theorem dX2_factOf_38 : decode cX2_factOf 38 = .ok (.iload_n 2, 1) := by decide +kernel
theorem dX2_factOf_39 : decode cX2_factOf 39 = .ok (.if_icmp .ne 30, 3) := by decide +kernel
theorem dX2_factOf_42 : decode cX2_factOf 42 = .ok (.aload_n 0, 1) := by decide +kernel
theorem dX2_factOf_43 : decode cX2_factOf 43 = .ok (.getfield 19, 3) := by decide +kernel
end
section
theorem dX2_factOf_46 : decode cX2_factOf 46 = .ok (.iload 6, 2) := by decide +kernel
theorem dX2_factOf_48 : decode cX2_factOf 48 = .ok (.iaload, 1) := by decide +kernel
theorem dX2_factOf_49 : decode cX2_factOf 49 = .ok (.iload_n 3, 1) := by decide +kernel
theorem dX2_factOf_50 : decode cX2_factOf 50 = .ok (.if_icmp .gt 19, 3) := by decide +kernel
theorem dX2_factOf_53 : decode cX2_factOf 53 = .ok (.aload_n 0, 1) := by decide +kernel
theorem dX2_factOf_54 : decode cX2_factOf 54 = .ok (.getfield 19, 3) := by decide +kernel
theorem dX2_factOf_57 : decode cX2_factOf 57 = .ok (.iload 6, 2) := by decide +kernel
theorem dX2_factOf_59 : decode cX2_factOf 59 = .ok (.iaload, 1) := by decide +kernel
theorem dX2_factOf_60 : decode cX2_factOf 60 = .ok (.iload 5, 2) := by decide +kernel
theorem dX2_factOf_62 : decode cX2_factOf 62 = .ok (.if_icmp .lt 7, 3) := by decide +kernel
theorem dX2_factOf_65 : decode cX2_factOf 65 = .ok (.iconst 1, 1) := by decide +kernel
theorem dX2_factOf_66 : decode cX2_factOf 66 = .ok (.goto 4, 3) := by decide +kernel
theorem dX2_factOf_69 : decode cX2_factOf 69 = .ok (.iconst 0, 1) := by decide +kernel
theorem dX2_factOf_70 : decode cX2_factOf 70 = .ok (.istore 7, 2) := by decide +kernel
theorem dX2_factOf_72 : decode cX2_factOf 72 = .ok (.iload 7, 2) := by decide +kernel
theorem dX2_factOf_74 : decode cX2_factOf 74 = .ok (.ifCond .eq 13, 3) := by decide +kernel
theorem dX2_factOf_77 : decode cX2_factOf 77 = .ok (.aload_n 0, 1) := by decide +kernel
theorem dX2_factOf_78 : decode cX2_factOf 78 = .ok (.getfield 22, 3) := by decide +kernel
theorem dX2_factOf_81 : decode cX2_factOf 81 = .ok (.iload 6, 2) := by decide +kernel
theorem dX2_factOf_83 : decode cX2_factOf 83 = .ok (.iaload, 1) := by decide +kernel
theorem dX2_factOf_84 : decode cX2_factOf 84 = .ok (.goto 5, 3) := by decide +kernel
theorem dX2_factOf_87 : decode cX2_factOf 87 = .ok (.iload 4, 2) := by decide +kernel
theorem dX2_factOf_89 : decode cX2_factOf 89 = .ok (.istore 4, 2) := by decide +kernel
theorem dX2_factOf_91 : decode cX2_factOf 91 = .ok (.iload 7, 2) := by decide +kernel
theorem dX2_factOf_93 : decode cX2_factOf 93 = .ok (.ifCond .eq 13, 3) := by decide +kernel
theorem dX2_factOf_96 : decode cX2_factOf 96 = .ok (.aload_n 0, 1) := by decide +kernel
theorem dX2_factOf_97 : decode cX2_factOf 97 = .ok (.getfield 19, 3) := by decide +kernel
theorem dX2_factOf_100 : decode cX2_factOf 100 = .ok (.iload 6, 2) := by decide +kernel
theorem dX2_factOf_102 : decode cX2_factOf 102 = .ok (.iaload, 1) := by decide +kernel
theorem dX2_factOf_103 : decode cX2_factOf 103 = .ok (.goto 5, 3) := by decide +kernel
theorem dX2_factOf_106 : decode cX2_factOf 106 = .ok (.iload 5, 2) := by decide +kernel
theorem dX2_factOf_108 : decode cX2_factOf 108 = .ok (.istore 5, 2) := by decide +kernel
theorem dX2_factOf_110 : decode cX2_factOf 110 = .ok (.iinc 6 1, 3) := by decide +kernel
theorem dX2_factOf_113 : decode cX2_factOf 113 = .ok (.goto (-98), 3) := by decide +kernel
theorem dX2_factOf_116 : decode cX2_factOf 116 = .ok (.iload 4, 2) := by decide +kernel
theorem dX2_factOf_118 : decode cX2_factOf 118 = .ok (.ireturn, 1) := by decide +kernel
set_option maxRecDepth 20000 in
theorem ggX2_needOf_X2_factOf : GoodIn wsX2_needOf wsX2_factOf := goodIn_r _ [6, 7, 8, 9, 10, 11, 12, 5, 13, 14, 15, 16, 17, 18, 19, 20, 21, 22, 23, 24, 25, 26, 27, 28, 29] (by decide +kernel) (by decide +kernel)
set_option maxRecDepth 20000 in
theorem gX2_needOf_X2_factOf : GoodIn wsX2_needOf (wsV RX2 62 RX2 yX2_factOf wsX2_factOf) := goodIn_app (goodIn_of _ (by decide +kernel)) ggX2_needOf_X2_factOf
theorem dX2_needOf_0 : decode cX2_needOf 0 = .ok (.aload_n 0, 1) := by decide +kernel
theorem dX2_needOf_1 : decode cX2_needOf 1 = .ok (.iload_n 1, 1) := by decide +kernel
theorem dX2_needOf_2 : decode cX2_needOf 2 = .ok (.iconst 2, 1) := by decide +kernel
theorem dX2_needOf_3 : decode cX2_needOf 3 = .ok (.iload_n 2, 1) := by decide +kernel
theorem dX2_needOf_4 : decode cX2_needOf 4 = .ok (.invokevirtual 62, 3) := by decide +kernel
theorem dX2_needOf_7 : decode cX2_needOf 7 = .ok (.istore_n 3, 1) := by decide +kernel
theorem dX2_needOf_8 : decode cX2_needOf 8 = .ok (.sipush 30000, 3) := by decide +kernel
theorem dX2_needOf_11 : decode cX2_needOf 11 = .ok (.aload_n 0, 1) := by decide +kernel
theorem dX2_needOf_12 : decode cX2_needOf 12 = .ok (.iload_n 1, 1) := by decide +kernel
theorem dX2_needOf_13 : decode cX2_needOf 13 = .ok (.iconst 0, 1) := by decide +kernel
theorem dX2_needOf_14 : decode cX2_needOf 14 = .ok (.iload_n 2, 1) := by decide +kernel
theorem dX2_needOf_15 : decode cX2_needOf 15 = .ok (.invokevirtual 62, 3) := by decide +kernel
theorem dX2_needOf_18 : decode cX2_needOf 18 = .ok (.iconst 2, 1) := by decide +kernel
theorem dX2_needOf_19 : decode cX2_needOf 19 = .ok (.if_icmp .ne 9, 3) := by decide +kernel
theorem dX2_needOf_22 : decode cX2_needOf 22 = .ok (.sipush 12000, 3) := by decide +kernel
theorem dX2_needOf_25 : decode cX2_needOf 25 = .ok (.goto 4, 3) := by decide +kernel
theorem dX2_needOf_28 : decode cX2_needOf 28 = .ok (.iconst 0, 1) := by decide +kernel
theorem dX2_needOf_29 : decode cX2_needOf 29 = .ok (.iadd, 1) := by decide +kernel
theorem dX2_needOf_30 : decode cX2_needOf 30 = .ok (.sipush 8000, 3) := by decide +kernel
theorem dX2_needOf_33 : decode cX2_needOf 33 = .ok (.aload_n 0, 1) := by decide +kernel
theorem dX2_needOf_34 : decode cX2_needOf 34 = .ok (.iload_n 1, 1) := by decide +kernel
theorem dX2_needOf_35 : decode cX2_needOf 35 = .ok (.iconst 1, 1) := by decide +kernel
theorem dX2_needOf_36 : decode cX2_needOf 36 = .ok (.iload_n 2, 1) := by decide +kernel
theorem dX2_needOf_37 : decode cX2_needOf 37 = .ok (.invokevirtual 62, 3) := by decide +kernel
theorem dX2_needOf_40 : decode cX2_needOf 40 = .ok (.imul, 1) := by decide +kernel
theorem dX2_needOf_41 : decode cX2_needOf 41 = .ok (.iadd, 1) := by decide +kernel
theorem dX2_needOf_42 : decode cX2_needOf 42 = .ok (.iload_n 3, 1) := by decide +kernel
theorem dX2_needOf_43 : decode cX2_needOf 43 = .ok (.ldc 66, 2) := by decide +kernel
theorem dX2_needOf_45 : decode cX2_needOf 45 = .ok (.if_icmp .ge 7, 3) := by decide +kernel
theorem dX2_needOf_48 : decode cX2_needOf 48 = .ok (.iload_n 3, 1) := by decide +kernel
theorem dX2_needOf_49 : decode cX2_needOf 49 = .ok (.goto 5, 3) := by decide +kernel
theorem dX2_needOf_52 : decode cX2_needOf 52 = .ok (.ldc 66, 2) := by decide +kernel
theorem dX2_needOf_54 : decode cX2_needOf 54 = .ok (.iadd, 1) := by decide +kernel
theorem dX2_needOf_55 : decode cX2_needOf 55 = .ok (.ireturn, 1) := by decide +kernel
set_option maxRecDepth 20000 in
theorem ggX2_taperOf_X2_factOf : GoodIn wsX2_taperOf wsX2_factOf := goodIn_r _ [5, 6, 7, 8, 9, 10, 11, 4, 12, 13, 14, 15, 16, 17, 18, 19, 20, 21, 22, 23, 24, 25, 26, 27, 28] (by decide +kernel) (by decide +kernel)
set_option maxRecDepth 20000 in
theorem gX2_taperOf_X2_factOf : GoodIn wsX2_taperOf (wsV RX2 62 RX2 yX2_factOf wsX2_factOf) := goodIn_app (goodIn_of _ (by decide +kernel)) ggX2_taperOf_X2_factOf
theorem dX2_taperOf_0 : decode cX2_taperOf 0 = .ok (.aload_n 0, 1) := by decide +kernel
theorem dX2_taperOf_1 : decode cX2_taperOf 1 = .ok (.iload_n 1, 1) := by decide +kernel
theorem dX2_taperOf_2 : decode cX2_taperOf 2 = .ok (.iconst 3, 1) := by decide +kernel
theorem dX2_taperOf_3 : decode cX2_taperOf 3 = .ok (.iload_n 2, 1) := by decide +kernel
theorem dX2_taperOf_4 : decode cX2_taperOf 4 = .ok (.invokevirtual 62, 3) := by decide +kernel
theorem dX2_taperOf_7 : decode cX2_taperOf 7 = .ok (.sipush 20000, 3) := by decide +kernel
theorem dX2_taperOf_10 : decode cX2_taperOf 10 = .ok (.isub, 1) := by decide +kernel
theorem dX2_taperOf_11 : decode cX2_taperOf 11 = .ok (.istore_n 3, 1) := by decide +kernel
theorem dX2_taperOf_12 : decode cX2_taperOf 12 = .ok (.iload_n 3, 1) := by decide +kernel
theorem dX2_taperOf_13 : decode cX2_taperOf 13 = .ok (.ifCond .le 13, 3) := by decide +kernel
theorem dX2_taperOf_16 : decode cX2_taperOf 16 = .ok (.iload_n 3, 1) := by decide +kernel
theorem dX2_taperOf_17 : decode cX2_taperOf 17 = .ok (.bipush 60, 2) := by decide +kernel
theorem dX2_taperOf_19 : decode cX2_taperOf 19 = .ok (.imul, 1) := by decide +kernel
theorem dX2_taperOf_20 : decode cX2_taperOf 20 = .ok (.bipush 100, 2) := by decide +kernel
theorem dX2_taperOf_22 : decode cX2_taperOf 22 = .ok (.idiv, 1) := by decide +kernel
theorem dX2_taperOf_23 : decode cX2_taperOf 23 = .ok (.goto 4, 3) := by decide +kernel
theorem dX2_taperOf_26 : decode cX2_taperOf 26 = .ok (.iconst 0, 1) := by decide +kernel
theorem dX2_taperOf_27 : decode cX2_taperOf 27 = .ok (.ireturn, 1) := by decide +kernel
set_option maxRecDepth 20000 in
theorem ggX2_tariffOf_X2_factOf : GoodIn wsX2_tariffOf wsX2_factOf := goodIn_r _ [6, 7, 8, 9, 10, 11, 12, 5, 13, 14, 15, 16, 17, 18, 19, 20, 21, 22, 23, 24, 25, 26, 27, 28, 29] (by decide +kernel) (by decide +kernel)
set_option maxRecDepth 20000 in
theorem gX2_tariffOf_X2_factOf : GoodIn wsX2_tariffOf (wsV RX2 62 RX2 yX2_factOf wsX2_factOf) := goodIn_app (goodIn_of _ (by decide +kernel)) ggX2_tariffOf_X2_factOf
theorem dX2_tariffOf_0 : decode cX2_tariffOf 0 = .ok (.aload_n 0, 1) := by decide +kernel
theorem dX2_tariffOf_1 : decode cX2_tariffOf 1 = .ok (.iload_n 1, 1) := by decide +kernel
theorem dX2_tariffOf_2 : decode cX2_tariffOf 2 = .ok (.iconst 4, 1) := by decide +kernel
theorem dX2_tariffOf_3 : decode cX2_tariffOf 3 = .ok (.iload_n 2, 1) := by decide +kernel
theorem dX2_tariffOf_4 : decode cX2_tariffOf 4 = .ok (.invokevirtual 62, 3) := by decide +kernel
theorem dX2_tariffOf_7 : decode cX2_tariffOf 7 = .ok (.ldc 67, 2) := by decide +kernel
theorem dX2_tariffOf_9 : decode cX2_tariffOf 9 = .ok (.isub, 1) := by decide +kernel
theorem dX2_tariffOf_10 : decode cX2_tariffOf 10 = .ok (.istore_n 3, 1) := by decide +kernel
theorem dX2_tariffOf_11 : decode cX2_tariffOf 11 = .ok (.iload_n 3, 1) := by decide +kernel
theorem dX2_tariffOf_12 : decode cX2_tariffOf 12 = .ok (.ifCond .le 19, 3) := by decide +kernel
theorem dX2_tariffOf_15 : decode cX2_tariffOf 15 = .ok (.iload_n 3, 1) := by decide +kernel
theorem dX2_tariffOf_16 : decode cX2_tariffOf 16 = .ok (.sipush 24999, 3) := by decide +kernel
theorem dX2_tariffOf_19 : decode cX2_tariffOf 19 = .ok (.iadd, 1) := by decide +kernel
theorem dX2_tariffOf_20 : decode cX2_tariffOf 20 = .ok (.sipush 25000, 3) := by decide +kernel
theorem dX2_tariffOf_23 : decode cX2_tariffOf 23 = .ok (.idiv, 1) := by decide +kernel
theorem dX2_tariffOf_24 : decode cX2_tariffOf 24 = .ok (.sipush 500, 3) := by decide +kernel
theorem dX2_tariffOf_27 : decode cX2_tariffOf 27 = .ok (.imul, 1) := by decide +kernel
theorem dX2_tariffOf_28 : decode cX2_tariffOf 28 = .ok (.goto 4, 3) := by decide +kernel
theorem dX2_tariffOf_31 : decode cX2_tariffOf 31 = .ok (.iconst 0, 1) := by decide +kernel
theorem dX2_tariffOf_32 : decode cX2_tariffOf 32 = .ok (.ireturn, 1) := by decide +kernel
set_option maxRecDepth 20000 in
theorem ggX2_dueOf_X2_needOf : GoodIn wsX2_dueOf wsX2_needOf := goodIn_r _ [6, 7, 8, 9, 10, 5, 11, 12, 13, 14, 15, 16, 17, 18, 28, 29, 30, 31, 32, 33, 34, 35, 36, 37, 38, 39, 40, 41, 42, 43] (by decide +kernel) (by decide +kernel)
set_option maxRecDepth 20000 in
theorem gX2_dueOf_X2_needOf : GoodIn wsX2_dueOf (wsV RX2 68 RX2 yX2_needOf wsX2_needOf) := goodIn_app (goodIn_of _ (by decide +kernel)) ggX2_dueOf_X2_needOf
set_option maxRecDepth 20000 in
theorem ggX2_dueOf_X2_taperOf : GoodIn wsX2_dueOf wsX2_taperOf := goodIn_r _ [22, 8, 9, 10, 5, 11, 12, 13, 14, 15, 16, 17, 18, 28, 29, 30, 31, 32, 33, 34, 35, 36, 37, 38, 39, 40, 41, 42, 43] (by decide +kernel) (by decide +kernel)
set_option maxRecDepth 20000 in
theorem gX2_dueOf_X2_taperOf : GoodIn wsX2_dueOf (wsV RX2 72 RX2 yX2_taperOf wsX2_taperOf) := goodIn_app (goodIn_of _ (by decide +kernel)) ggX2_dueOf_X2_taperOf
set_option maxRecDepth 20000 in
theorem ggX2_dueOf_X2_tariffOf : GoodIn wsX2_dueOf wsX2_tariffOf := goodIn_r _ [26, 27, 8, 9, 10, 5, 11, 12, 13, 14, 15, 16, 17, 18, 28, 29, 30, 31, 32, 33, 34, 35, 36, 37, 38, 39, 40, 41, 42, 43] (by decide +kernel) (by decide +kernel)
set_option maxRecDepth 20000 in
theorem gX2_dueOf_X2_tariffOf : GoodIn wsX2_dueOf (wsV RX2 75 RX2 yX2_tariffOf wsX2_tariffOf) := goodIn_app (goodIn_of _ (by decide +kernel)) ggX2_dueOf_X2_tariffOf
set_option maxRecDepth 20000 in
theorem ggX2_dueOf_X2_factOf : GoodIn wsX2_dueOf wsX2_factOf := goodIn_r _ [11, 12, 13, 14, 15, 16, 17, 5, 18, 28, 29, 30, 31, 32, 33, 34, 35, 36, 37, 38, 39, 40, 41, 42, 43] (by decide +kernel) (by decide +kernel)
set_option maxRecDepth 20000 in
theorem gX2_dueOf_X2_factOf : GoodIn wsX2_dueOf (wsV RX2 62 RX2 yX2_factOf wsX2_factOf) := goodIn_app (goodIn_of _ (by decide +kernel)) ggX2_dueOf_X2_factOf
theorem dX2_dueOf_0 : decode cX2_dueOf 0 = .ok (.aload_n 0, 1) := by decide +kernel
theorem dX2_dueOf_1 : decode cX2_dueOf 1 = .ok (.iload_n 1, 1) := by decide +kernel
theorem dX2_dueOf_2 : decode cX2_dueOf 2 = .ok (.iload_n 2, 1) := by decide +kernel
theorem dX2_dueOf_3 : decode cX2_dueOf 3 = .ok (.invokevirtual 68, 3) := by decide +kernel
theorem dX2_dueOf_6 : decode cX2_dueOf 6 = .ok (.aload_n 0, 1) := by decide +kernel
theorem dX2_dueOf_7 : decode cX2_dueOf 7 = .ok (.iload_n 1, 1) := by decide +kernel
theorem dX2_dueOf_8 : decode cX2_dueOf 8 = .ok (.iload_n 2, 1) := by decide +kernel
theorem dX2_dueOf_9 : decode cX2_dueOf 9 = .ok (.invokevirtual 72, 3) := by decide +kernel
theorem dX2_dueOf_12 : decode cX2_dueOf 12 = .ok (.isub, 1) := by decide +kernel
theorem dX2_dueOf_13 : decode cX2_dueOf 13 = .ok (.aload_n 0, 1) := by decide +kernel
theorem dX2_dueOf_14 : decode cX2_dueOf 14 = .ok (.iload_n 1, 1) := by decide +kernel
theorem dX2_dueOf_15 : decode cX2_dueOf 15 = .ok (.iload_n 2, 1) := by decide +kernel
theorem dX2_dueOf_16 : decode cX2_dueOf 16 = .ok (.invokevirtual 75, 3) := by decide +kernel
theorem dX2_dueOf_19 : decode cX2_dueOf 19 = .ok (.isub, 1) := by decide +kernel
theorem dX2_dueOf_20 : decode cX2_dueOf 20 = .ok (.istore_n 3, 1) := by decide +kernel
theorem dX2_dueOf_21 : decode cX2_dueOf 21 = .ok (.iload_n 3, 1) := by decide +kernel
theorem dX2_dueOf_22 : decode cX2_dueOf 22 = .ok (.sipush 500, 3) := by decide +kernel
theorem dX2_dueOf_25 : decode cX2_dueOf 25 = .ok (.if_icmp .lt 15, 3) := by decide +kernel
theorem dX2_dueOf_28 : decode cX2_dueOf 28 = .ok (.aload_n 0, 1) := by decide +kernel
theorem dX2_dueOf_29 : decode cX2_dueOf 29 = .ok (.iload_n 1, 1) := by decide +kernel
theorem dX2_dueOf_30 : decode cX2_dueOf 30 = .ok (.iconst 4, 1) := by decide +kernel
theorem dX2_dueOf_31 : decode cX2_dueOf 31 = .ok (.iload_n 2, 1) := by decide +kernel
theorem dX2_dueOf_32 : decode cX2_dueOf 32 = .ok (.invokevirtual 62, 3) := by decide +kernel
theorem dX2_dueOf_35 : decode cX2_dueOf 35 = .ok (.ldc 78, 2) := by decide +kernel
theorem dX2_dueOf_37 : decode cX2_dueOf 37 = .ok (.if_icmp .le 7, 3) := by decide +kernel
theorem dX2_dueOf_40 : decode cX2_dueOf 40 = .ok (.iconst 0, 1) := by decide +kernel
theorem dX2_dueOf_41 : decode cX2_dueOf 41 = .ok (.goto 4, 3) := by decide +kernel
theorem dX2_dueOf_44 : decode cX2_dueOf 44 = .ok (.iload_n 3, 1) := by decide +kernel
theorem dX2_dueOf_45 : decode cX2_dueOf 45 = .ok (.ireturn, 1) := by decide +kernel
set_option maxRecDepth 20000 in
theorem ggX2_openOf_X2_dueOf : GoodIn wsX2_openOf wsX2_dueOf := goodIn_r _ [8, 9, 10, 11, 12, 7, 13, 14, 15, 16, 17, 18, 19, 20, 21, 22, 23, 24, 25, 26, 27, 28, 29, 30, 31, 32, 33, 34, 35, 36, 37, 38, 39, 40, 41, 42, 43, 44, 45, 46, 47, 48, 49, 50] (by decide +kernel) (by decide +kernel)
set_option maxRecDepth 20000 in
theorem gX2_openOf_X2_dueOf : GoodIn wsX2_openOf (wsV RX2 82 RX2 yX2_dueOf wsX2_dueOf) := goodIn_app (goodIn_of _ (by decide +kernel)) ggX2_openOf_X2_dueOf
theorem dX2_openOf_0 : decode cX2_openOf 0 = .ok (.iconst 0, 1) := by decide +kernel
theorem dX2_openOf_1 : decode cX2_openOf 1 = .ok (.istore_n 2, 1) := by decide +kernel
theorem dX2_openOf_2 : decode cX2_openOf 2 = .ok (.aload_n 0, 1) := by decide +kernel
theorem dX2_openOf_3 : decode cX2_openOf 3 = .ok (.getfield 7, 3) := by decide +kernel
theorem dX2_openOf_6 : decode cX2_openOf 6 = .ok (.iload_n 1, 1) := by decide +kernel
theorem dX2_openOf_7 : decode cX2_openOf 7 = .ok (.iaload, 1) := by decide +kernel
theorem dX2_openOf_8 : decode cX2_openOf 8 = .ok (.istore_n 3, 1) := by decide +kernel
theorem dX2_openOf_9 : decode cX2_openOf 9 = .ok (.iload_n 3, 1) := by decide +kernel
theorem dX2_openOf_10 : decode cX2_openOf 10 = .ok (.aload_n 0, 1) := by decide +kernel
theorem dX2_openOf_11 : decode cX2_openOf 11 = .ok (.getfield 79, 3) := by decide +kernel
theorem dX2_openOf_14 : decode cX2_openOf 14 = .ok (.if_icmp .ge 30, 3) := by decide +kernel
theorem dX2_openOf_17 : decode cX2_openOf 17 = .ok (.iload_n 2, 1) := by decide +kernel
theorem dX2_openOf_18 : decode cX2_openOf 18 = .ok (.aload_n 0, 1) := by decide +kernel
theorem dX2_openOf_19 : decode cX2_openOf 19 = .ok (.iload_n 1, 1) := by decide +kernel
theorem dX2_openOf_20 : decode cX2_openOf 20 = .ok (.iload_n 3, 1) := by decide +kernel
theorem dX2_openOf_21 : decode cX2_openOf 21 = .ok (.invokevirtual 82, 3) := by decide +kernel
theorem dX2_openOf_24 : decode cX2_openOf 24 = .ok (.aload_n 0, 1) := by decide +kernel
theorem dX2_openOf_25 : decode cX2_openOf 25 = .ok (.getfield 25, 3) := by decide +kernel
theorem dX2_openOf_28 : decode cX2_openOf 28 = .ok (.bipush 48, 2) := by decide +kernel
theorem dX2_openOf_30 : decode cX2_openOf 30 = .ok (.iload_n 1, 1) := by decide +kernel
theorem dX2_openOf_31 : decode cX2_openOf 31 = .ok (.imul, 1) := by decide +kernel
theorem dX2_openOf_32 : decode cX2_openOf 32 = .ok (.iload_n 3, 1) := by decide +kernel
theorem dX2_openOf_33 : decode cX2_openOf 33 = .ok (.iadd, 1) := by decide +kernel
theorem dX2_openOf_34 : decode cX2_openOf 34 = .ok (.iaload, 1) := by decide +kernel
theorem dX2_openOf_35 : decode cX2_openOf 35 = .ok (.isub, 1) := by decide +kernel
theorem dX2_openOf_36 : decode cX2_openOf 36 = .ok (.iadd, 1) := by decide +kernel
theorem dX2_openOf_37 : decode cX2_openOf 37 = .ok (.istore_n 2, 1) := by decide +kernel
theorem dX2_openOf_38 : decode cX2_openOf 38 = .ok (.iinc 3 1, 3) := by decide +kernel
theorem dX2_openOf_41 : decode cX2_openOf 41 = .ok (.goto (-32), 3) := by decide +kernel
theorem dX2_openOf_44 : decode cX2_openOf 44 = .ok (.iload_n 2, 1) := by decide +kernel
theorem dX2_openOf_45 : decode cX2_openOf 45 = .ok (.ireturn, 1) := by decide +kernel
theorem dX2_least_0 : decode cX2_least 0 = .ok (.iload_n 0, 1) := by decide +kernel
theorem dX2_least_1 : decode cX2_least 1 = .ok (.iload_n 1, 1) := by decide +kernel
theorem dX2_least_2 : decode cX2_least 2 = .ok (.if_icmp .ge 7, 3) := by decide +kernel
theorem dX2_least_5 : decode cX2_least 5 = .ok (.iload_n 0, 1) := by decide +kernel
theorem dX2_least_6 : decode cX2_least 6 = .ok (.goto 4, 3) := by decide +kernel
theorem dX2_least_9 : decode cX2_least 9 = .ok (.iload_n 1, 1) := by decide +kernel
theorem dX2_least_10 : decode cX2_least 10 = .ok (.ireturn, 1) := by decide +kernel
set_option maxRecDepth 20000 in
theorem ggX2_reckons_X2_openOf : GoodIn wsX2_reckons wsX2_openOf := goodIn_r _ [11, 12, 2, 13, 14, 15, 16, 10, 17, 18, 19, 20, 21, 22, 23, 24, 25, 26, 27, 28, 29, 30, 31, 32, 33, 34, 35, 36, 37, 38, 39, 40, 41, 42, 43, 47, 48, 49, 50, 51, 52, 53, 54, 55, 56, 57, 58, 59, 60, 61, 62] (by decide +kernel) (by decide +kernel)
set_option maxRecDepth 20000 in
theorem gX2_reckons_X2_openOf : GoodIn wsX2_reckons (wsV RX2 85 RX2 yX2_openOf wsX2_openOf) := goodIn_app (goodIn_of _ (by decide +kernel)) ggX2_reckons_X2_openOf
set_option maxRecDepth 20000 in
theorem ggX2_reckons_X2_least : GoodIn wsX2_reckons wsX2_least := goodIn_r _ [46] (by decide +kernel) (by decide +kernel)
set_option maxRecDepth 20000 in
theorem gX2_reckons_X2_least : GoodIn wsX2_reckons (va_wsS RX2 88 yX2_least wsX2_least) := goodIn_app (goodIn_of _ (by decide +kernel)) ggX2_reckons_X2_least
set_option maxRecDepth 20000 in
theorem ggX2_reckons_X2_dueOf : GoodIn wsX2_reckons wsX2_dueOf := goodIn_r _ [17, 18, 19, 20, 21, 10, 22, 23, 24, 25, 26, 27, 28, 29, 30, 31, 32, 33, 34, 35, 36, 37, 38, 39, 40, 41, 42, 43, 47, 48, 49, 50, 51, 52, 53, 54, 55, 56, 57, 58, 59, 60, 61, 62] (by decide +kernel) (by decide +kernel)
set_option maxRecDepth 20000 in
theorem gX2_reckons_X2_dueOf : GoodIn wsX2_reckons (wsV RX2 82 RX2 yX2_dueOf wsX2_dueOf) := goodIn_app (goodIn_of _ (by decide +kernel)) ggX2_reckons_X2_dueOf
set_option maxRecDepth 20000 in
theorem ggX2_reckons_X2_factOf : GoodIn wsX2_reckons wsX2_factOf := goodIn_r _ [27, 28, 29, 30, 31, 32, 33, 10, 34, 47, 48, 49, 50, 51, 52, 53, 54, 55, 56, 57, 58, 59, 60, 61, 62] (by decide +kernel) (by decide +kernel)
set_option maxRecDepth 20000 in
theorem gX2_reckons_X2_factOf : GoodIn wsX2_reckons (wsV RX2 62 RX2 yX2_factOf wsX2_factOf) := goodIn_app (goodIn_of _ (by decide +kernel)) ggX2_reckons_X2_factOf
theorem dX2_reckons_0 : decode cX2_reckons 0 = .ok (.aload_n 0, 1) := by decide +kernel
theorem dX2_reckons_1 : decode cX2_reckons 1 = .ok (.iload_n 1, 1) := by decide +kernel
theorem dX2_reckons_2 : decode cX2_reckons 2 = .ok (.invokevirtual 85, 3) := by decide +kernel
theorem dX2_reckons_5 : decode cX2_reckons 5 = .ok (.istore_n 2, 1) := by decide +kernel
theorem dX2_reckons_6 : decode cX2_reckons 6 = .ok (.iload_n 2, 1) := by decide +kernel
theorem dX2_reckons_7 : decode cX2_reckons 7 = .ok (.ifCond .le 16, 3) := by decide +kernel
theorem dX2_reckons_10 : decode cX2_reckons 10 = .ok (.iload_n 2, 1) := by decide +kernel
theorem dX2_reckons_11 : decode cX2_reckons 11 = .ok (.aload_n 0, 1) := by decide +kernel
theorem dX2_reckons_12 : decode cX2_reckons 12 = .ok (.getfield 31, 3) := by decide +kernel
theorem dX2_reckons_15 : decode cX2_reckons 15 = .ok (.iload_n 1, 1) := by decide +kernel
theorem dX2_reckons_16 : decode cX2_reckons 16 = .ok (.iaload, 1) := by decide +kernel
theorem dX2_reckons_17 : decode cX2_reckons 17 = .ok (.invokestatic 88, 3) := by decide +kernel
theorem dX2_reckons_20 : decode cX2_reckons 20 = .ok (.goto 4, 3) := by decide +kernel
theorem dX2_reckons_23 : decode cX2_reckons 23 = .ok (.iconst 0, 1) := by decide +kernel
theorem dX2_reckons_24 : decode cX2_reckons 24 = .ok (.istore_n 3, 1) := by decide +kernel
theorem dX2_reckons_25 : decode cX2_reckons 25 = .ok (.iload_n 2, 1) := by decide +kernel
theorem dX2_reckons_26 : decode cX2_reckons 26 = .ok (.ifCond .le 9, 3) := by decide +kernel
theorem dX2_reckons_29 : decode cX2_reckons 29 = .ok (.iload_n 2, 1) := by decide +kernel
theorem dX2_reckons_30 : decode cX2_reckons 30 = .ok (.iload_n 3, 1) := by decide +kernel
theorem dX2_reckons_31 : decode cX2_reckons 31 = .ok (.isub, 1) := by decide +kernel
theorem dX2_reckons_32 : decode cX2_reckons 32 = .ok (.goto 4, 3) := by decide +kernel
theorem dX2_reckons_35 : decode cX2_reckons 35 = .ok (.iconst 0, 1) := by decide +kernel
theorem dX2_reckons_36 : decode cX2_reckons 36 = .ok (.istore 4, 2) := by decide +kernel
theorem dX2_reckons_38 : decode cX2_reckons 38 = .ok (.aload_n 0, 1) := by decide +kernel
theorem dX2_reckons_39 : decode cX2_reckons 39 = .ok (.iload_n 1, 1) := by decide +kernel
theorem dX2_reckons_40 : decode cX2_reckons 40 = .ok (.aload_n 0, 1) := by decide +kernel
theorem dX2_reckons_41 : decode cX2_reckons 41 = .ok (.getfield 79, 3) := by decide +kernel
theorem dX2_reckons_44 : decode cX2_reckons 44 = .ok (.invokevirtual 82, 3) := by decide +kernel
theorem dX2_reckons_47 : decode cX2_reckons 47 = .ok (.istore 5, 2) := by decide +kernel
theorem dX2_reckons_49 : decode cX2_reckons 49 = .ok (.iload 5, 2) := by decide +kernel
theorem dX2_reckons_51 : decode cX2_reckons 51 = .ok (.aload_n 0, 1) := by decide +kernel
theorem dX2_reckons_52 : decode cX2_reckons 52 = .ok (.iload_n 1, 1) := by decide +kernel
theorem dX2_reckons_53 : decode cX2_reckons 53 = .ok (.iconst 3, 1) := by decide +kernel
theorem dX2_reckons_54 : decode cX2_reckons 54 = .ok (.aload_n 0, 1) := by decide +kernel
theorem dX2_reckons_55 : decode cX2_reckons 55 = .ok (.getfield 79, 3) := by decide +kernel
theorem dX2_reckons_58 : decode cX2_reckons 58 = .ok (.invokevirtual 62, 3) := by decide +kernel
theorem dX2_reckons_61 : decode cX2_reckons 61 = .ok (.iadd, 1) := by decide +kernel
theorem dX2_reckons_62 : decode cX2_reckons 62 = .ok (.sipush 25000, 3) := by decide +kernel
theorem dX2_reckons_65 : decode cX2_reckons 65 = .ok (.isub, 1) := by decide +kernel
theorem dX2_reckons_66 : decode cX2_reckons 66 = .ok (.istore 6, 2) := by decide +kernel
theorem dX2_reckons_68 : decode cX2_reckons 68 = .ok (.aload_n 0, 1) := by decide +kernel
theorem dX2_reckons_69 : decode cX2_reckons 69 = .ok (.iload_n 2, 1) := by decide +kernel
theorem dX2_reckons_70 : decode cX2_reckons 70 = .ok (.ifCond .le 14, 3) := by decide +kernel
theorem dX2_reckons_73 : decode cX2_reckons 73 = .ok (.aload_n 0, 1) := by decide +kernel
theorem dX2_reckons_74 : decode cX2_reckons 74 = .ok (.getfield 31, 3) := by decide +kernel
theorem dX2_reckons_77 : decode cX2_reckons 77 = .ok (.iload_n 1, 1) := by decide +kernel
theorem dX2_reckons_78 : decode cX2_reckons 78 = .ok (.iaload, 1) := by decide +kernel
theorem dX2_reckons_79 : decode cX2_reckons 79 = .ok (.iload_n 3, 1) := by decide +kernel
theorem dX2_reckons_80 : decode cX2_reckons 80 = .ok (.isub, 1) := by decide +kernel
theorem dX2_reckons_81 : decode cX2_reckons 81 = .ok (.goto 11, 3) := by decide +kernel
theorem dX2_reckons_84 : decode cX2_reckons 84 = .ok (.aload_n 0, 1) := by decide +kernel
theorem dX2_reckons_85 : decode cX2_reckons 85 = .ok (.getfield 31, 3) := by decide +kernel
theorem dX2_reckons_88 : decode cX2_reckons 88 = .ok (.iload_n 1, 1) := by decide +kernel
theorem dX2_reckons_89 : decode cX2_reckons 89 = .ok (.iaload, 1) := by decide +kernel
theorem dX2_reckons_90 : decode cX2_reckons 90 = .ok (.iload_n 2, 1) := by decide +kernel
theorem dX2_reckons_91 : decode cX2_reckons 91 = .ok (.isub, 1) := by decide +kernel
theorem dX2_reckons_92 : decode cX2_reckons 92 = .ok (.putfield 91, 3) := by decide +kernel
theorem dX2_reckons_95 : decode cX2_reckons 95 = .ok (.aload_n 0, 1) := by decide +kernel
theorem dX2_reckons_96 : decode cX2_reckons 96 = .ok (.aload_n 0, 1) := by decide +kernel
theorem dX2_reckons_97 : decode cX2_reckons 97 = .ok (.getfield 37, 3) := by decide +kernel
theorem dX2_reckons_100 : decode cX2_reckons 100 = .ok (.iload_n 1, 1) := by decide +kernel
theorem dX2_reckons_101 : decode cX2_reckons 101 = .ok (.baload, 1) := by decide +kernel
theorem dX2_reckons_102 : decode cX2_reckons 102 = .ok (.ifCond .ne 8, 3) := by decide +kernel
theorem dX2_reckons_105 : decode cX2_reckons 105 = .ok (.iload 6, 2) := by decide +kernel
theorem dX2_reckons_107 : decode cX2_reckons 107 = .ok (.ifCond .ge 7, 3) := by decide +kernel
theorem dX2_reckons_110 : decode cX2_reckons 110 = .ok (.iconst 0, 1) := by decide +kernel
theorem dX2_reckons_111 : decode cX2_reckons 111 = .ok (.goto 23, 3) := by decide +kernel
theorem dX2_reckons_114 : decode cX2_reckons 114 = .ok (.aload_n 0, 1) := by decide +kernel
theorem dX2_reckons_115 : decode cX2_reckons 115 = .ok (.getfield 91, 3) := by decide +kernel
theorem dX2_reckons_118 : decode cX2_reckons 118 = .ok (.iload 5, 2) := by decide +kernel
theorem dX2_reckons_120 : decode cX2_reckons 120 = .ok (.bipush 15, 2) := by decide +kernel
theorem dX2_reckons_122 : decode cX2_reckons 122 = .ok (.imul, 1) := by decide +kernel
theorem dX2_reckons_123 : decode cX2_reckons 123 = .ok (.bipush 100, 2) := by decide +kernel
theorem dX2_reckons_125 : decode cX2_reckons 125 = .ok (.idiv, 1) := by decide +kernel
theorem dX2_reckons_126 : decode cX2_reckons 126 = .ok (.iload 6, 2) := by decide +kernel
theorem dX2_reckons_128 : decode cX2_reckons 128 = .ok (.invokestatic 88, 3) := by decide +kernel
theorem dX2_reckons_131 : decode cX2_reckons 131 = .ok (.invokestatic 88, 3) := by decide +kernel
theorem dX2_reckons_134 : decode cX2_reckons 134 = .ok (.putfield 94, 3) := by decide +kernel
theorem dX2_reckons_137 : decode cX2_reckons 137 = .ok (.aload_n 0, 1) := by decide +kernel
theorem dX2_reckons_138 : decode cX2_reckons 138 = .ok (.iload 5, 2) := by decide +kernel
theorem dX2_reckons_140 : decode cX2_reckons 140 = .ok (.aload_n 0, 1) := by decide +kernel
theorem dX2_reckons_141 : decode cX2_reckons 141 = .ok (.getfield 94, 3) := by decide +kernel
theorem dX2_reckons_144 : decode cX2_reckons 144 = .ok (.isub, 1) := by decide +kernel
theorem dX2_reckons_145 : decode cX2_reckons 145 = .ok (.iload 4, 2) := by decide +kernel
theorem dX2_reckons_147 : decode cX2_reckons 147 = .ok (.iadd, 1) := by decide +kernel
theorem dX2_reckons_148 : decode cX2_reckons 148 = .ok (.putfield 97, 3) := by decide +kernel
theorem dX2_reckons_151 : decode cX2_reckons 151 = .ok (.return_, 1) := by decide +kernel
set_option maxRecDepth 20000 in
theorem ggX2_add_X2_fails : GoodIn wsX2_add wsX2_fails := goodIn_r _ [9, 1, 10, 11, 12, 13, 14, 15, 16, 17, 18, 19, 20, 21, 22, 23, 24, 25] (by decide +kernel) (by decide +kernel)
set_option maxRecDepth 20000 in
theorem gX2_add_X2_fails : GoodIn wsX2_add (wsV RX2 100 RX2 yX2_fails wsX2_fails) := goodIn_app (goodIn_of _ (by decide +kernel)) ggX2_add_X2_fails
theorem dX2_add_0 : decode cX2_add 0 = .ok (.aload_n 0, 1) := by decide +kernel
theorem dX2_add_1 : decode cX2_add 1 = .ok (.iconst 0, 1) := by decide +kernel
theorem dX2_add_2 : decode cX2_add 2 = .ok (.putfield 41, 3) := by decide +kernel
theorem dX2_add_5 : decode cX2_add 5 = .ok (.aload_n 0, 1) := by decide +kernel
theorem dX2_add_6 : decode cX2_add 6 = .ok (.getfield 45, 3) := by decide +kernel
theorem dX2_add_9 : decode cX2_add 9 = .ok (.bipush 6, 2) := by decide +kernel
theorem dX2_add_11 : decode cX2_add 11 = .ok (.if_icmp .eq 12, 3) := by decide +kernel
theorem dX2_add_14 : decode cX2_add 14 = .ok (.aload_n 0, 1) := by decide +kernel
theorem dX2_add_15 : decode cX2_add 15 = .ok (.getfield 79, 3) := by decide +kernel
theorem dX2_add_18 : decode cX2_add 18 = .ok (.bipush 48, 2) := by decide +kernel
theorem dX2_add_20 : decode cX2_add 20 = .ok (.if_icmp .ne 9, 3) := by decide +kernel
theorem dX2_add_23 : decode cX2_add 23 = .ok (.aload_n 0, 1) := by decide +kernel
theorem dX2_add_24 : decode cX2_add 24 = .ok (.iconst 1, 1) := by decide +kernel
theorem dX2_add_25 : decode cX2_add 25 = .ok (.invokevirtual 100, 3) := by decide +kernel
theorem dX2_add_28 : decode cX2_add 28 = .ok (.ireturn, 1) := by decide +kernel
theorem dX2_add_29 : decode cX2_add 29 = .ok (.aload_n 0, 1) := by decide +kernel
theorem dX2_add_30 : decode cX2_add 30 = .ok (.getfield 7, 3) := by decide +kernel
theorem dX2_add_33 : decode cX2_add 33 = .ok (.aload_n 0, 1) := by decide +kernel
theorem dX2_add_34 : decode cX2_add 34 = .ok (.getfield 45, 3) := by decide +kernel
theorem dX2_add_37 : decode cX2_add 37 = .ok (.aload_n 0, 1) := by decide +kernel
theorem dX2_add_38 : decode cX2_add 38 = .ok (.getfield 79, 3) := by decide +kernel
theorem dX2_add_41 : decode cX2_add 41 = .ok (.iastore, 1) := by decide +kernel
theorem dX2_add_42 : decode cX2_add 42 = .ok (.aload_n 0, 1) := by decide +kernel
theorem dX2_add_43 : decode cX2_add 43 = .ok (.dup, 1) := by decide +kernel
theorem dX2_add_44 : decode cX2_add 44 = .ok (.getfield 45, 3) := by decide +kernel
theorem dX2_add_47 : decode cX2_add 47 = .ok (.iconst 1, 1) := by decide +kernel
theorem dX2_add_48 : decode cX2_add 48 = .ok (.iadd, 1) := by decide +kernel
theorem dX2_add_49 : decode cX2_add 49 = .ok (.putfield 45, 3) := by decide +kernel
theorem dX2_add_52 : decode cX2_add 52 = .ok (.aload_n 0, 1) := by decide +kernel
theorem dX2_add_53 : decode cX2_add 53 = .ok (.getfield 45, 3) := by decide +kernel
theorem dX2_add_56 : decode cX2_add 56 = .ok (.iconst 1, 1) := by decide +kernel
theorem dX2_add_57 : decode cX2_add 57 = .ok (.isub, 1) := by decide +kernel
theorem dX2_add_58 : decode cX2_add 58 = .ok (.ireturn, 1) := by decide +kernel
set_option maxRecDepth 20000 in
theorem ggX2_tell_X2_isHome : GoodIn wsX2_tell wsX2_isHome := goodIn_r _ [10, 11, 12, 13, 9, 14, 27, 28, 29, 30, 31, 32, 33, 34, 35, 36, 37, 38, 39, 40, 41, 42] (by decide +kernel) (by decide +kernel)
set_option maxRecDepth 20000 in
theorem gX2_tell_X2_isHome : GoodIn wsX2_tell (wsV RX2 52 RX2 yX2_isHome wsX2_isHome) := goodIn_app (goodIn_of _ (by decide +kernel)) ggX2_tell_X2_isHome
set_option maxRecDepth 20000 in
theorem ggX2_tell_X2_fails : GoodIn wsX2_tell wsX2_fails := goodIn_r _ [18, 1, 27, 28, 29, 30, 31, 32, 33, 34, 35, 36, 37, 38, 39, 40, 41, 42] (by decide +kernel) (by decide +kernel)
set_option maxRecDepth 20000 in
theorem gX2_tell_X2_fails : GoodIn wsX2_tell (wsV RX2 100 RX2 yX2_fails wsX2_fails) := goodIn_app (goodIn_of _ (by decide +kernel)) ggX2_tell_X2_fails
set_option maxRecDepth 20000 in
theorem ggX2_tell_X2_in : GoodIn wsX2_tell wsX2_in := goodIn_r _ [14] (by decide +kernel) (by decide +kernel)
set_option maxRecDepth 20000 in
theorem gX2_tell_X2_in : GoodIn wsX2_tell (va_wsS RX2 48 yX2_in wsX2_in) := goodIn_app (goodIn_of _ (by decide +kernel)) ggX2_tell_X2_in
set_option maxRecDepth 20000 in
theorem ggX2_tell_X2_lowest : GoodIn wsX2_tell wsX2_lowest := goodIn_r _ [21] (by decide +kernel) (by decide +kernel)
set_option maxRecDepth 20000 in
theorem gX2_tell_X2_lowest : GoodIn wsX2_tell (va_wsS RX2 58 yX2_lowest wsX2_lowest) := goodIn_app (goodIn_of _ (by decide +kernel)) ggX2_tell_X2_lowest
set_option maxRecDepth 20000 in
theorem ggX2_tell_X2_greatest : GoodIn wsX2_tell wsX2_greatest := goodIn_r _ [24, 25, 26] (by decide +kernel) (by decide +kernel)
set_option maxRecDepth 20000 in
theorem gX2_tell_X2_greatest : GoodIn wsX2_tell (va_wsS RX2 103 yX2_greatest wsX2_greatest) := goodIn_app (goodIn_of _ (by decide +kernel)) ggX2_tell_X2_greatest
theorem dX2_tell_0 : decode cX2_tell 0 = .ok (.aload_n 0, 1) := by decide +kernel
theorem dX2_tell_1 : decode cX2_tell 1 = .ok (.iconst 0, 1) := by decide +kernel
theorem dX2_tell_2 : decode cX2_tell 2 = .ok (.putfield 41, 3) := by decide +kernel
theorem dX2_tell_5 : decode cX2_tell 5 = .ok (.aload_n 0, 1) := by decide +kernel
theorem dX2_tell_6 : decode cX2_tell 6 = .ok (.iload_n 1, 1) := by decide +kernel
theorem dX2_tell_7 : decode cX2_tell 7 = .ok (.invokevirtual 52, 3) := by decide +kernel
theorem dX2_tell_10 : decode cX2_tell 10 = .ok (.ifCond .ne 9, 3) := by decide +kernel
theorem dX2_tell_13 : decode cX2_tell 13 = .ok (.aload_n 0, 1) := by decide +kernel
theorem dX2_tell_14 : decode cX2_tell 14 = .ok (.iconst 1, 1) := by decide +kernel
theorem dX2_tell_15 : decode cX2_tell 15 = .ok (.invokevirtual 100, 3) := by decide +kernel
theorem dX2_tell_18 : decode cX2_tell 18 = .ok (.ireturn, 1) := by decide +kernel
theorem dX2_tell_19 : decode cX2_tell 19 = .ok (.iload_n 2, 1) := by decide +kernel
theorem dX2_tell_20 : decode cX2_tell 20 = .ok (.iconst 0, 1) := by decide +kernel
theorem dX2_tell_21 : decode cX2_tell 21 = .ok (.iconst 4, 1) := by decide +kernel
theorem dX2_tell_22 : decode cX2_tell 22 = .ok (.invokestatic 48, 3) := by decide +kernel
theorem dX2_tell_25 : decode cX2_tell 25 = .ok (.ifCond .eq 30, 3) := by decide +kernel
theorem dX2_tell_28 : decode cX2_tell 28 = .ok (.iload_n 3, 1) := by decide +kernel
theorem dX2_tell_29 : decode cX2_tell 29 = .ok (.iconst 0, 1) := by decide +kernel
theorem dX2_tell_30 : decode cX2_tell 30 = .ok (.sipush 1439, 3) := by decide +kernel
theorem dX2_tell_33 : decode cX2_tell 33 = .ok (.invokestatic 48, 3) := by decide +kernel
theorem dX2_tell_36 : decode cX2_tell 36 = .ok (.ifCond .eq 19, 3) := by decide +kernel
theorem dX2_tell_39 : decode cX2_tell 39 = .ok (.iload 4, 2) := by decide +kernel
theorem dX2_tell_41 : decode cX2_tell 41 = .ok (.iload_n 2, 1) := by decide +kernel
theorem dX2_tell_42 : decode cX2_tell 42 = .ok (.invokestatic 58, 3) := by decide +kernel
theorem dX2_tell_45 : decode cX2_tell 45 = .ok (.iload_n 2, 1) := by decide +kernel
theorem dX2_tell_46 : decode cX2_tell 46 = .ok (.invokestatic 103, 3) := by decide +kernel
theorem dX2_tell_49 : decode cX2_tell 49 = .ok (.invokestatic 48, 3) := by decide +kernel
theorem dX2_tell_52 : decode cX2_tell 52 = .ok (.ifCond .ne 9, 3) := by decide +kernel
theorem dX2_tell_55 : decode cX2_tell 55 = .ok (.aload_n 0, 1) := by decide +kernel
theorem dX2_tell_56 : decode cX2_tell 56 = .ok (.iconst 2, 1) := by decide +kernel
theorem dX2_tell_57 : decode cX2_tell 57 = .ok (.invokevirtual 100, 3) := by decide +kernel
theorem dX2_tell_60 : decode cX2_tell 60 = .ok (.ireturn, 1) := by decide +kernel
theorem dX2_tell_61 : decode cX2_tell 61 = .ok (.aload_n 0, 1) := by decide +kernel
theorem dX2_tell_62 : decode cX2_tell 62 = .ok (.getfield 13, 3) := by decide +kernel
theorem dX2_tell_65 : decode cX2_tell 65 = .ok (.iload_n 1, 1) := by decide +kernel
theorem dX2_tell_66 : decode cX2_tell 66 = .ok (.iaload, 1) := by decide +kernel
theorem dX2_tell_67 : decode cX2_tell 67 = .ok (.bipush 100, 2) := by decide +kernel
theorem dX2_tell_69 : decode cX2_tell 69 = .ok (.if_icmp .ne 9, 3) := by decide +kernel
theorem dX2_tell_72 : decode cX2_tell 72 = .ok (.aload_n 0, 1) := by decide +kernel
theorem dX2_tell_73 : decode cX2_tell 73 = .ok (.iconst 3, 1) := by decide +kernel
theorem dX2_tell_74 : decode cX2_tell 74 = .ok (.invokevirtual 100, 3) := by decide +kernel
theorem dX2_tell_77 : decode cX2_tell 77 = .ok (.ireturn, 1) := by decide +kernel
theorem dX2_tell_78 : decode cX2_tell 78 = .ok (.bipush 100, 2) := by decide +kernel
theorem dX2_tell_80 : decode cX2_tell 80 = .ok (.iload_n 1, 1) := by decide +kernel
theorem dX2_tell_81 : decode cX2_tell 81 = .ok (.imul, 1) := by decide +kernel
theorem dX2_tell_82 : decode cX2_tell 82 = .ok (.aload_n 0, 1) := by decide +kernel
theorem dX2_tell_83 : decode cX2_tell 83 = .ok (.getfield 13, 3) := by decide +kernel
theorem dX2_tell_86 : decode cX2_tell 86 = .ok (.iload_n 1, 1) := by decide +kernel
theorem dX2_tell_87 : decode cX2_tell 87 = .ok (.iaload, 1) := by decide +kernel
theorem dX2_tell_88 : decode cX2_tell 88 = .ok (.iadd, 1) := by decide +kernel
theorem dX2_tell_89 : decode cX2_tell 89 = .ok (.istore 5, 2) := by decide +kernel
theorem dX2_tell_91 : decode cX2_tell 91 = .ok (.aload_n 0, 1) := by decide +kernel
theorem dX2_tell_92 : decode cX2_tell 92 = .ok (.getfield 16, 3) := by decide +kernel
theorem dX2_tell_95 : decode cX2_tell 95 = .ok (.iload 5, 2) := by decide +kernel
theorem dX2_tell_97 : decode cX2_tell 97 = .ok (.iload_n 2, 1) := by decide +kernel
theorem dX2_tell_98 : decode cX2_tell 98 = .ok (.iastore, 1) := by decide +kernel
theorem dX2_tell_99 : decode cX2_tell 99 = .ok (.aload_n 0, 1) := by decide +kernel
theorem dX2_tell_100 : decode cX2_tell 100 = .ok (.getfield 19, 3) := by decide +kernel
theorem dX2_tell_103 : decode cX2_tell 103 = .ok (.iload 5, 2) := by decide +kernel
theorem dX2_tell_105 : decode cX2_tell 105 = .ok (.iload_n 3, 1) := by decide +kernel
theorem dX2_tell_106 : decode cX2_tell 106 = .ok (.bipush 30, 2) := by decide +kernel
theorem dX2_tell_108 : decode cX2_tell 108 = .ok (.idiv, 1) := by decide +kernel
theorem dX2_tell_109 : decode cX2_tell 109 = .ok (.iload_n 3, 1) := by decide +kernel
theorem dX2_tell_110 : decode cX2_tell 110 = .ok (.bipush 30, 2) := by decide +kernel
theorem dX2_tell_112 : decode cX2_tell 112 = .ok (.irem, 1) := by decide +kernel
theorem dX2_tell_113 : decode cX2_tell 113 = .ok (.bipush 15, 2) := by decide +kernel
theorem dX2_tell_115 : decode cX2_tell 115 = .ok (.if_icmp .ge 7, 3) := by decide +kernel
theorem dX2_tell_118 : decode cX2_tell 118 = .ok (.iconst 0, 1) := by decide +kernel
theorem dX2_tell_119 : decode cX2_tell 119 = .ok (.goto 4, 3) := by decide +kernel
theorem dX2_tell_122 : decode cX2_tell 122 = .ok (.iconst 1, 1) := by decide +kernel
theorem dX2_tell_123 : decode cX2_tell 123 = .ok (.iadd, 1) := by decide +kernel
theorem dX2_tell_124 : decode cX2_tell 124 = .ok (.iastore, 1) := by decide +kernel
theorem dX2_tell_125 : decode cX2_tell 125 = .ok (.aload_n 0, 1) := by decide +kernel
theorem dX2_tell_126 : decode cX2_tell 126 = .ok (.getfield 22, 3) := by decide +kernel
theorem dX2_tell_129 : decode cX2_tell 129 = .ok (.iload 5, 2) := by decide +kernel
theorem dX2_tell_131 : decode cX2_tell 131 = .ok (.iload 4, 2) := by decide +kernel
theorem dX2_tell_133 : decode cX2_tell 133 = .ok (.iastore, 1) := by decide +kernel
theorem dX2_tell_134 : decode cX2_tell 134 = .ok (.aload_n 0, 1) := by decide +kernel
theorem dX2_tell_135 : decode cX2_tell 135 = .ok (.getfield 13, 3) := by decide +kernel
theorem dX2_tell_138 : decode cX2_tell 138 = .ok (.iload_n 1, 1) := by decide +kernel
theorem dX2_tell_139 : decode cX2_tell 139 = .ok (.dup2, 1) := by decide +kernel
theorem dX2_tell_140 : decode cX2_tell 140 = .ok (.iaload, 1) := by decide +kernel
theorem dX2_tell_141 : decode cX2_tell 141 = .ok (.iconst 1, 1) := by decide +kernel
theorem dX2_tell_142 : decode cX2_tell 142 = .ok (.iadd, 1) := by decide +kernel
theorem dX2_tell_143 : decode cX2_tell 143 = .ok (.iastore, 1) := by decide +kernel
theorem dX2_tell_144 : decode cX2_tell 144 = .ok (.aload_n 0, 1) := by decide +kernel
theorem dX2_tell_145 : decode cX2_tell 145 = .ok (.getfield 19, 3) := by decide +kernel
theorem dX2_tell_148 : decode cX2_tell 148 = .ok (.iload 5, 2) := by decide +kernel
theorem dX2_tell_150 : decode cX2_tell 150 = .ok (.iaload, 1) := by decide +kernel
theorem dX2_tell_151 : decode cX2_tell 151 = .ok (.ireturn, 1) := by decide +kernel
set_option maxRecDepth 20000 in
theorem ggX2_dispute_X2_isHome : GoodIn wsX2_dispute wsX2_isHome := goodIn_r _ [7, 8, 9, 10, 6, 11, 12, 13, 14, 15, 16, 17, 18, 19, 20, 21, 22, 23, 24, 25, 26, 27] (by decide +kernel) (by decide +kernel)
set_option maxRecDepth 20000 in
theorem gX2_dispute_X2_isHome : GoodIn wsX2_dispute (wsV RX2 52 RX2 yX2_isHome wsX2_isHome) := goodIn_app (goodIn_of _ (by decide +kernel)) ggX2_dispute_X2_isHome
theorem dX2_dispute_0 : decode cX2_dispute 0 = .ok (.aload_n 0, 1) := by decide +kernel
theorem dX2_dispute_1 : decode cX2_dispute 1 = .ok (.aload_n 0, 1) := by decide +kernel
theorem dX2_dispute_2 : decode cX2_dispute 2 = .ok (.iload_n 1, 1) := by decide +kernel
theorem dX2_dispute_3 : decode cX2_dispute 3 = .ok (.invokevirtual 52, 3) := by decide +kernel
theorem dX2_dispute_6 : decode cX2_dispute 6 = .ok (.ifCond .eq 7, 3) := by decide +kernel
theorem dX2_dispute_9 : decode cX2_dispute 9 = .ok (.iconst 0, 1) := by decide +kernel
theorem dX2_dispute_10 : decode cX2_dispute 10 = .ok (.goto 4, 3) := by decide +kernel
theorem dX2_dispute_13 : decode cX2_dispute 13 = .ok (.iconst 1, 1) := by decide +kernel
theorem dX2_dispute_14 : decode cX2_dispute 14 = .ok (.putfield 41, 3) := by decide +kernel
theorem dX2_dispute_17 : decode cX2_dispute 17 = .ok (.aload_n 0, 1) := by decide +kernel
theorem dX2_dispute_18 : decode cX2_dispute 18 = .ok (.getfield 41, 3) := by decide +kernel
theorem dX2_dispute_21 : decode cX2_dispute 21 = .ok (.ifCond .ne 16, 3) := by decide +kernel
theorem dX2_dispute_24 : decode cX2_dispute 24 = .ok (.aload_n 0, 1) := by decide +kernel
theorem dX2_dispute_25 : decode cX2_dispute 25 = .ok (.getfield 37, 3) := by decide +kernel
theorem dX2_dispute_28 : decode cX2_dispute 28 = .ok (.iload_n 1, 1) := by decide +kernel
theorem dX2_dispute_29 : decode cX2_dispute 29 = .ok (.baload, 1) := by decide +kernel
theorem dX2_dispute_30 : decode cX2_dispute 30 = .ok (.ifCond .eq 7, 3) := by decide +kernel
theorem dX2_dispute_33 : decode cX2_dispute 33 = .ok (.iconst 1, 1) := by decide +kernel
theorem dX2_dispute_34 : decode cX2_dispute 34 = .ok (.goto 4, 3) := by decide +kernel
theorem dX2_dispute_37 : decode cX2_dispute 37 = .ok (.iconst 0, 1) := by decide +kernel
theorem dX2_dispute_38 : decode cX2_dispute 38 = .ok (.istore_n 3, 1) := by decide +kernel
theorem dX2_dispute_39 : decode cX2_dispute 39 = .ok (.aload_n 0, 1) := by decide +kernel
theorem dX2_dispute_40 : decode cX2_dispute 40 = .ok (.getfield 41, 3) := by decide +kernel
theorem dX2_dispute_43 : decode cX2_dispute 43 = .ok (.ifCond .ne 10, 3) := by decide +kernel
theorem dX2_dispute_46 : decode cX2_dispute 46 = .ok (.aload_n 0, 1) := by decide +kernel
theorem dX2_dispute_47 : decode cX2_dispute 47 = .ok (.getfield 37, 3) := by decide +kernel
theorem dX2_dispute_50 : decode cX2_dispute 50 = .ok (.iload_n 1, 1) := by decide +kernel
theorem dX2_dispute_51 : decode cX2_dispute 51 = .ok (.iload_n 2, 1) := by decide +kernel
theorem dX2_dispute_52 : decode cX2_dispute 52 = .ok (.bastore, 1) := by decide +kernel
theorem dX2_dispute_53 : decode cX2_dispute 53 = .ok (.iload_n 3, 1) := by decide +kernel
theorem dX2_dispute_54 : decode cX2_dispute 54 = .ok (.ireturn, 1) := by decide +kernel
set_option maxRecDepth 20000 in
theorem ggX2_payBack_X2_isHome : GoodIn wsX2_payBack wsX2_isHome := goodIn_r _ [9, 10, 11, 12, 8, 13, 18, 19, 20, 21, 22, 23, 24, 25, 26, 27, 28, 29, 30, 31, 32, 33] (by decide +kernel) (by decide +kernel)
set_option maxRecDepth 20000 in
theorem gX2_payBack_X2_isHome : GoodIn wsX2_payBack (wsV RX2 52 RX2 yX2_isHome wsX2_isHome) := goodIn_app (goodIn_of _ (by decide +kernel)) ggX2_payBack_X2_isHome
set_option maxRecDepth 20000 in
theorem ggX2_payBack_X2_fails : GoodIn wsX2_payBack wsX2_fails := goodIn_r _ [17, 1, 18, 19, 20, 21, 22, 23, 24, 25, 26, 27, 28, 29, 30, 31, 32, 33] (by decide +kernel) (by decide +kernel)
set_option maxRecDepth 20000 in
theorem gX2_payBack_X2_fails : GoodIn wsX2_payBack (wsV RX2 100 RX2 yX2_fails wsX2_fails) := goodIn_app (goodIn_of _ (by decide +kernel)) ggX2_payBack_X2_fails
set_option maxRecDepth 20000 in
theorem ggX2_payBack_X2_in : GoodIn wsX2_payBack wsX2_in := goodIn_r _ [13] (by decide +kernel) (by decide +kernel)
set_option maxRecDepth 20000 in
theorem gX2_payBack_X2_in : GoodIn wsX2_payBack (va_wsS RX2 48 yX2_in wsX2_in) := goodIn_app (goodIn_of _ (by decide +kernel)) ggX2_payBack_X2_in
theorem dX2_payBack_0 : decode cX2_payBack 0 = .ok (.aload_n 0, 1) := by decide +kernel
theorem dX2_payBack_1 : decode cX2_payBack 1 = .ok (.iconst 0, 1) := by decide +kernel
theorem dX2_payBack_2 : decode cX2_payBack 2 = .ok (.putfield 41, 3) := by decide +kernel
theorem dX2_payBack_5 : decode cX2_payBack 5 = .ok (.aload_n 0, 1) := by decide +kernel
theorem dX2_payBack_6 : decode cX2_payBack 6 = .ok (.iload_n 1, 1) := by decide +kernel
theorem dX2_payBack_7 : decode cX2_payBack 7 = .ok (.invokevirtual 52, 3) := by decide +kernel
theorem dX2_payBack_10 : decode cX2_payBack 10 = .ok (.ifCond .ne 9, 3) := by decide +kernel
theorem dX2_payBack_13 : decode cX2_payBack 13 = .ok (.aload_n 0, 1) := by decide +kernel
theorem dX2_payBack_14 : decode cX2_payBack 14 = .ok (.iconst 1, 1) := by decide +kernel
theorem dX2_payBack_15 : decode cX2_payBack 15 = .ok (.invokevirtual 100, 3) := by decide +kernel
theorem dX2_payBack_18 : decode cX2_payBack 18 = .ok (.ireturn, 1) := by decide +kernel
theorem dX2_payBack_19 : decode cX2_payBack 19 = .ok (.iload_n 2, 1) := by decide +kernel
theorem dX2_payBack_20 : decode cX2_payBack 20 = .ok (.iconst 1, 1) := by decide +kernel
theorem dX2_payBack_21 : decode cX2_payBack 21 = .ok (.ldc 57, 2) := by decide +kernel
theorem dX2_payBack_23 : decode cX2_payBack 23 = .ok (.invokestatic 48, 3) := by decide +kernel
theorem dX2_payBack_26 : decode cX2_payBack 26 = .ok (.ifCond .ne 9, 3) := by decide +kernel
theorem dX2_payBack_29 : decode cX2_payBack 29 = .ok (.aload_n 0, 1) := by decide +kernel
theorem dX2_payBack_30 : decode cX2_payBack 30 = .ok (.iconst 2, 1) := by decide +kernel
theorem dX2_payBack_31 : decode cX2_payBack 31 = .ok (.invokevirtual 100, 3) := by decide +kernel
theorem dX2_payBack_34 : decode cX2_payBack 34 = .ok (.ireturn, 1) := by decide +kernel
theorem dX2_payBack_35 : decode cX2_payBack 35 = .ok (.aload_n 0, 1) := by decide +kernel
theorem dX2_payBack_36 : decode cX2_payBack 36 = .ok (.getfield 31, 3) := by decide +kernel
theorem dX2_payBack_39 : decode cX2_payBack 39 = .ok (.iload_n 1, 1) := by decide +kernel
theorem dX2_payBack_40 : decode cX2_payBack 40 = .ok (.iaload, 1) := by decide +kernel
theorem dX2_payBack_41 : decode cX2_payBack 41 = .ok (.iload_n 2, 1) := by decide +kernel
theorem dX2_payBack_42 : decode cX2_payBack 42 = .ok (.if_icmp .ge 9, 3) := by decide +kernel
theorem dX2_payBack_45 : decode cX2_payBack 45 = .ok (.aload_n 0, 1) := by decide +kernel
theorem dX2_payBack_46 : decode cX2_payBack 46 = .ok (.iconst 3, 1) := by decide +kernel
theorem dX2_payBack_47 : decode cX2_payBack 47 = .ok (.invokevirtual 100, 3) := by decide +kernel
theorem dX2_payBack_50 : decode cX2_payBack 50 = .ok (.ireturn, 1) := by decide +kernel
theorem dX2_payBack_51 : decode cX2_payBack 51 = .ok (.aload_n 0, 1) := by decide +kernel
theorem dX2_payBack_52 : decode cX2_payBack 52 = .ok (.getfield 31, 3) := by decide +kernel
theorem dX2_payBack_55 : decode cX2_payBack 55 = .ok (.iload_n 1, 1) := by decide +kernel
theorem dX2_payBack_56 : decode cX2_payBack 56 = .ok (.dup2, 1) := by decide +kernel
theorem dX2_payBack_57 : decode cX2_payBack 57 = .ok (.iaload, 1) := by decide +kernel
theorem dX2_payBack_58 : decode cX2_payBack 58 = .ok (.iload_n 2, 1) := by decide +kernel
theorem dX2_payBack_59 : decode cX2_payBack 59 = .ok (.isub, 1) := by decide +kernel
theorem dX2_payBack_60 : decode cX2_payBack 60 = .ok (.iastore, 1) := by decide +kernel
theorem dX2_payBack_61 : decode cX2_payBack 61 = .ok (.aload_n 0, 1) := by decide +kernel
theorem dX2_payBack_62 : decode cX2_payBack 62 = .ok (.getfield 34, 3) := by decide +kernel
theorem dX2_payBack_65 : decode cX2_payBack 65 = .ok (.iload_n 1, 1) := by decide +kernel
theorem dX2_payBack_66 : decode cX2_payBack 66 = .ok (.dup2, 1) := by decide +kernel
theorem dX2_payBack_67 : decode cX2_payBack 67 = .ok (.iaload, 1) := by decide +kernel
theorem dX2_payBack_68 : decode cX2_payBack 68 = .ok (.iload_n 2, 1) := by decide +kernel
theorem dX2_payBack_69 : decode cX2_payBack 69 = .ok (.iadd, 1) := by decide +kernel
theorem dX2_payBack_70 : decode cX2_payBack 70 = .ok (.iastore, 1) := by decide +kernel
theorem dX2_payBack_71 : decode cX2_payBack 71 = .ok (.aload_n 0, 1) := by decide +kernel
theorem dX2_payBack_72 : decode cX2_payBack 72 = .ok (.getfield 31, 3) := by decide +kernel
theorem dX2_payBack_75 : decode cX2_payBack 75 = .ok (.iload_n 1, 1) := by decide +kernel
theorem dX2_payBack_76 : decode cX2_payBack 76 = .ok (.iaload, 1) := by decide +kernel
theorem dX2_payBack_77 : decode cX2_payBack 77 = .ok (.ireturn, 1) := by decide +kernel
theorem dX2_households_0 : decode cX2_households 0 = .ok (.aload_n 0, 1) := by decide +kernel
theorem dX2_households_1 : decode cX2_households 1 = .ok (.iconst 0, 1) := by decide +kernel
theorem dX2_households_2 : decode cX2_households 2 = .ok (.putfield 41, 3) := by decide +kernel
theorem dX2_households_5 : decode cX2_households 5 = .ok (.aload_n 0, 1) := by decide +kernel
theorem dX2_households_6 : decode cX2_households 6 = .ok (.getfield 45, 3) := by decide +kernel
theorem dX2_households_9 : decode cX2_households 9 = .ok (.ireturn, 1) := by decide +kernel
set_option maxRecDepth 20000 in
theorem ggX2_close_X2_fails : GoodIn wsX2_close wsX2_fails := goodIn_r _ [16, 1, 59, 60, 61, 62, 63, 64, 65, 66, 67, 68, 69, 70, 71, 72, 73, 74] (by decide +kernel) (by decide +kernel)
set_option maxRecDepth 20000 in
theorem gX2_close_X2_fails : GoodIn wsX2_close (wsV RX2 100 RX2 yX2_fails wsX2_fails) := goodIn_app (goodIn_of _ (by decide +kernel)) ggX2_close_X2_fails
set_option maxRecDepth 20000 in
theorem ggX2_close_X2_reckons : GoodIn wsX2_close wsX2_reckons := goodIn_r _ [20, 4, 2, 5, 21, 6, 9, 22, 23, 24, 15, 25, 10, 11, 26, 27, 28, 29, 30, 31, 32, 33, 34, 35, 36, 37, 38, 39, 40, 41, 42, 43, 44, 45, 46, 47, 48, 49, 50, 51, 52, 53, 54, 55, 56, 57, 58, 59, 60, 61, 62, 63, 64, 65, 66, 67, 68, 69, 70, 71, 72, 73, 74] (by decide +kernel) (by decide +kernel)
set_option maxRecDepth 20000 in
theorem gX2_close_X2_reckons : GoodIn wsX2_close (wsV RX2 106 RX2 yX2_reckons wsX2_reckons) := goodIn_app (goodIn_of _ (by decide +kernel)) ggX2_close_X2_reckons
set_option maxRecDepth 20000 in
theorem ggX2_close_X2_dueOf : GoodIn wsX2_close wsX2_dueOf := goodIn_r _ [29, 30, 31, 32, 33, 15, 34, 35, 36, 37, 38, 39, 40, 41, 42, 43, 44, 45, 46, 47, 48, 49, 50, 51, 52, 53, 54, 55, 59, 60, 61, 62, 63, 64, 65, 66, 67, 68, 69, 70, 71, 72, 73, 74] (by decide +kernel) (by decide +kernel)
set_option maxRecDepth 20000 in
theorem gX2_close_X2_dueOf : GoodIn wsX2_close (wsV RX2 82 RX2 yX2_dueOf wsX2_dueOf) := goodIn_app (goodIn_of _ (by decide +kernel)) ggX2_close_X2_dueOf
theorem dX2_close_0 : decode cX2_close 0 = .ok (.aload_n 0, 1) := by decide +kernel
theorem dX2_close_1 : decode cX2_close 1 = .ok (.iconst 0, 1) := by decide +kernel
theorem dX2_close_2 : decode cX2_close 2 = .ok (.putfield 41, 3) := by decide +kernel
theorem dX2_close_5 : decode cX2_close 5 = .ok (.aload_n 0, 1) := by decide +kernel
theorem dX2_close_6 : decode cX2_close 6 = .ok (.getfield 79, 3) := by decide +kernel
theorem dX2_close_9 : decode cX2_close 9 = .ok (.bipush 48, 2) := by decide +kernel
theorem dX2_close_11 : decode cX2_close 11 = .ok (.if_icmp .ne 9, 3) := by decide +kernel
theorem dX2_close_14 : decode cX2_close 14 = .ok (.aload_n 0, 1) := by decide +kernel
theorem dX2_close_15 : decode cX2_close 15 = .ok (.iconst 1, 1) := by decide +kernel
theorem dX2_close_16 : decode cX2_close 16 = .ok (.invokevirtual 100, 3) := by decide +kernel
theorem dX2_close_19 : decode cX2_close 19 = .ok (.ireturn, 1) := by decide +kernel
theorem dX2_close_20 : decode cX2_close 20 = .ok (.iconst 0, 1) := by decide +kernel
theorem dX2_close_21 : decode cX2_close 21 = .ok (.istore_n 1, 1) := by decide +kernel
theorem dX2_close_22 : decode cX2_close 22 = .ok (.iconst 0, 1) := by decide +kernel
theorem dX2_close_23 : decode cX2_close 23 = .ok (.istore_n 2, 1) := by decide +kernel
theorem dX2_close_24 : decode cX2_close 24 = .ok (.iload_n 2, 1) := by decide +kernel
theorem dX2_close_25 : decode cX2_close 25 = .ok (.aload_n 0, 1) := by decide +kernel
theorem dX2_close_26 : decode cX2_close 26 = .ok (.getfield 45, 3) := by decide +kernel
theorem dX2_close_29 : decode cX2_close 29 = .ok (.if_icmp .ge 105, 3) := by decide +kernel
theorem dX2_close_32 : decode cX2_close 32 = .ok (.aload_n 0, 1) := by decide +kernel
theorem dX2_close_33 : decode cX2_close 33 = .ok (.iload_n 2, 1) := by decide +kernel
theorem dX2_close_34 : decode cX2_close 34 = .ok (.invokevirtual 106, 3) := by decide +kernel
theorem dX2_close_37 : decode cX2_close 37 = .ok (.aload_n 0, 1) := by decide +kernel
theorem dX2_close_38 : decode cX2_close 38 = .ok (.getfield 31, 3) := by decide +kernel
theorem dX2_close_41 : decode cX2_close 41 = .ok (.iload_n 2, 1) := by decide +kernel
theorem dX2_close_42 : decode cX2_close 42 = .ok (.aload_n 0, 1) := by decide +kernel
theorem dX2_close_43 : decode cX2_close 43 = .ok (.getfield 91, 3) := by decide +kernel
theorem dX2_close_46 : decode cX2_close 46 = .ok (.aload_n 0, 1) := by decide +kernel
theorem dX2_close_47 : decode cX2_close 47 = .ok (.getfield 94, 3) := by decide +kernel
theorem dX2_close_50 : decode cX2_close 50 = .ok (.isub, 1) := by decide +kernel
theorem dX2_close_51 : decode cX2_close 51 = .ok (.iastore, 1) := by decide +kernel
theorem dX2_close_52 : decode cX2_close 52 = .ok (.aload_n 0, 1) := by decide +kernel
theorem dX2_close_53 : decode cX2_close 53 = .ok (.getfield 34, 3) := by decide +kernel
theorem dX2_close_56 : decode cX2_close 56 = .ok (.iload_n 2, 1) := by decide +kernel
theorem dX2_close_57 : decode cX2_close 57 = .ok (.dup2, 1) := by decide +kernel
theorem dX2_close_58 : decode cX2_close 58 = .ok (.iaload, 1) := by decide +kernel
theorem dX2_close_59 : decode cX2_close 59 = .ok (.aload_n 0, 1) := by decide +kernel
theorem dX2_close_60 : decode cX2_close 60 = .ok (.getfield 94, 3) := by decide +kernel
theorem dX2_close_63 : decode cX2_close 63 = .ok (.iadd, 1) := by decide +kernel
theorem dX2_close_64 : decode cX2_close 64 = .ok (.iastore, 1) := by decide +kernel
theorem dX2_close_65 : decode cX2_close 65 = .ok (.aload_n 0, 1) := by decide +kernel
theorem dX2_close_66 : decode cX2_close 66 = .ok (.getfield 28, 3) := by decide +kernel
theorem dX2_close_69 : decode cX2_close 69 = .ok (.bipush 48, 2) := by decide +kernel
theorem dX2_close_71 : decode cX2_close 71 = .ok (.iload_n 2, 1) := by decide +kernel
theorem dX2_close_72 : decode cX2_close 72 = .ok (.imul, 1) := by decide +kernel
theorem dX2_close_73 : decode cX2_close 73 = .ok (.aload_n 0, 1) := by decide +kernel
theorem dX2_close_74 : decode cX2_close 74 = .ok (.getfield 79, 3) := by decide +kernel
theorem dX2_close_77 : decode cX2_close 77 = .ok (.iadd, 1) := by decide +kernel
theorem dX2_close_78 : decode cX2_close 78 = .ok (.aload_n 0, 1) := by decide +kernel
theorem dX2_close_79 : decode cX2_close 79 = .ok (.getfield 97, 3) := by decide +kernel
theorem dX2_close_82 : decode cX2_close 82 = .ok (.iastore, 1) := by decide +kernel
theorem dX2_close_83 : decode cX2_close 83 = .ok (.iload_n 1, 1) := by decide +kernel
theorem dX2_close_84 : decode cX2_close 84 = .ok (.aload_n 0, 1) := by decide +kernel
theorem dX2_close_85 : decode cX2_close 85 = .ok (.getfield 97, 3) := by decide +kernel
theorem dX2_close_88 : decode cX2_close 88 = .ok (.iadd, 1) := by decide +kernel
theorem dX2_close_89 : decode cX2_close 89 = .ok (.istore_n 1, 1) := by decide +kernel
theorem dX2_close_90 : decode cX2_close 90 = .ok (.aload_n 0, 1) := by decide +kernel
theorem dX2_close_91 : decode cX2_close 91 = .ok (.getfield 7, 3) := by decide +kernel
theorem dX2_close_94 : decode cX2_close 94 = .ok (.iload_n 2, 1) := by decide +kernel
theorem dX2_close_95 : decode cX2_close 95 = .ok (.iaload, 1) := by decide +kernel
theorem dX2_close_96 : decode cX2_close 96 = .ok (.istore_n 3, 1) := by decide +kernel
theorem dX2_close_97 : decode cX2_close 97 = .ok (.iload_n 3, 1) := by decide +kernel
theorem dX2_close_98 : decode cX2_close 98 = .ok (.aload_n 0, 1) := by decide +kernel
theorem dX2_close_99 : decode cX2_close 99 = .ok (.getfield 79, 3) := by decide +kernel
theorem dX2_close_102 : decode cX2_close 102 = .ok (.if_icmp .gt 26, 3) := by decide +kernel
theorem dX2_close_105 : decode cX2_close 105 = .ok (.aload_n 0, 1) := by decide +kernel
theorem dX2_close_106 : decode cX2_close 106 = .ok (.getfield 25, 3) := by decide +kernel
theorem dX2_close_109 : decode cX2_close 109 = .ok (.bipush 48, 2) := by decide +kernel
theorem dX2_close_111 : decode cX2_close 111 = .ok (.iload_n 2, 1) := by decide +kernel
theorem dX2_close_112 : decode cX2_close 112 = .ok (.imul, 1) := by decide +kernel
theorem dX2_close_113 : decode cX2_close 113 = .ok (.iload_n 3, 1) := by decide +kernel
theorem dX2_close_114 : decode cX2_close 114 = .ok (.iadd, 1) := by decide +kernel
theorem dX2_close_115 : decode cX2_close 115 = .ok (.aload_n 0, 1) := by decide +kernel
theorem dX2_close_116 : decode cX2_close 116 = .ok (.iload_n 2, 1) := by decide +kernel
theorem dX2_close_117 : decode cX2_close 117 = .ok (.iload_n 3, 1) := by decide +kernel
theorem dX2_close_118 : decode cX2_close 118 = .ok (.invokevirtual 82, 3) := by decide +kernel
theorem dX2_close_121 : decode cX2_close 121 = .ok (.iastore, 1) := by decide +kernel
theorem dX2_close_122 : decode cX2_close 122 = .ok (.iinc 3 1, 3) := by decide +kernel
theorem dX2_close_125 : decode cX2_close 125 = .ok (.goto (-28), 3) := by decide +kernel
theorem dX2_close_128 : decode cX2_close 128 = .ok (.iinc 2 1, 3) := by decide +kernel
theorem dX2_close_131 : decode cX2_close 131 = .ok (.goto (-107), 3) := by decide +kernel
theorem dX2_close_134 : decode cX2_close 134 = .ok (.aload_n 0, 1) := by decide +kernel
theorem dX2_close_135 : decode cX2_close 135 = .ok (.dup, 1) := by decide +kernel
theorem dX2_close_136 : decode cX2_close 136 = .ok (.getfield 79, 3) := by decide +kernel
theorem dX2_close_139 : decode cX2_close 139 = .ok (.iconst 1, 1) := by decide +kernel
theorem dX2_close_140 : decode cX2_close 140 = .ok (.iadd, 1) := by decide +kernel
theorem dX2_close_141 : decode cX2_close 141 = .ok (.putfield 79, 3) := by decide +kernel
theorem dX2_close_144 : decode cX2_close 144 = .ok (.iload_n 1, 1) := by decide +kernel
theorem dX2_close_145 : decode cX2_close 145 = .ok (.ireturn, 1) := by decide +kernel
theorem dX2_month_0 : decode cX2_month 0 = .ok (.aload_n 0, 1) := by decide +kernel
theorem dX2_month_1 : decode cX2_month 1 = .ok (.iconst 0, 1) := by decide +kernel
theorem dX2_month_2 : decode cX2_month 2 = .ok (.putfield 41, 3) := by decide +kernel
theorem dX2_month_5 : decode cX2_month 5 = .ok (.aload_n 0, 1) := by decide +kernel
theorem dX2_month_6 : decode cX2_month 6 = .ok (.getfield 79, 3) := by decide +kernel
theorem dX2_month_9 : decode cX2_month 9 = .ok (.bipush 48, 2) := by decide +kernel
theorem dX2_month_11 : decode cX2_month 11 = .ok (.if_icmp .ge 10, 3) := by decide +kernel
theorem dX2_month_14 : decode cX2_month 14 = .ok (.aload_n 0, 1) := by decide +kernel
theorem dX2_month_15 : decode cX2_month 15 = .ok (.getfield 79, 3) := by decide +kernel
theorem dX2_month_18 : decode cX2_month 18 = .ok (.goto 4, 3) := by decide +kernel
theorem dX2_month_21 : decode cX2_month 21 = .ok (.iconst (-1), 1) := by decide +kernel
theorem dX2_month_22 : decode cX2_month 22 = .ok (.ireturn, 1) := by decide +kernel
set_option maxRecDepth 20000 in
theorem ggX2_fact_X2_isAsked : GoodIn wsX2_fact wsX2_isAsked := goodIn_r _ [5, 6, 7, 8, 9, 4, 10, 11, 12, 13, 14, 30, 31, 32, 33, 34, 35, 36, 37, 38, 39, 40, 41, 42, 43, 44, 45] (by decide +kernel) (by decide +kernel)
set_option maxRecDepth 20000 in
theorem gX2_fact_X2_isAsked : GoodIn wsX2_fact (wsV RX2 110 RX2 yX2_isAsked wsX2_isAsked) := goodIn_app (goodIn_of _ (by decide +kernel)) ggX2_fact_X2_isAsked
set_option maxRecDepth 20000 in
theorem ggX2_fact_X2_in : GoodIn wsX2_fact wsX2_in := goodIn_r _ [14] (by decide +kernel) (by decide +kernel)
set_option maxRecDepth 20000 in
theorem gX2_fact_X2_in : GoodIn wsX2_fact (va_wsS RX2 48 yX2_in wsX2_in) := goodIn_app (goodIn_of _ (by decide +kernel)) ggX2_fact_X2_in
set_option maxRecDepth 20000 in
theorem ggX2_fact_X2_factOf : GoodIn wsX2_fact wsX2_factOf := goodIn_r _ [18, 19, 20, 21, 22, 23, 24, 4, 25, 30, 31, 32, 33, 34, 35, 36, 37, 38, 39, 40, 41, 42, 43, 44, 45] (by decide +kernel) (by decide +kernel)
set_option maxRecDepth 20000 in
theorem gX2_fact_X2_factOf : GoodIn wsX2_fact (wsV RX2 62 RX2 yX2_factOf wsX2_factOf) := goodIn_app (goodIn_of _ (by decide +kernel)) ggX2_fact_X2_factOf
set_option maxRecDepth 20000 in
theorem ggX2_fact_X2_fails : GoodIn wsX2_fact wsX2_fails := goodIn_r _ [29, 6, 30, 31, 32, 33, 34, 35, 36, 37, 38, 39, 40, 41, 42, 43, 44, 45] (by decide +kernel) (by decide +kernel)
set_option maxRecDepth 20000 in
theorem gX2_fact_X2_fails : GoodIn wsX2_fact (wsV RX2 100 RX2 yX2_fails wsX2_fails) := goodIn_app (goodIn_of _ (by decide +kernel)) ggX2_fact_X2_fails
theorem dX2_fact_0 : decode cX2_fact 0 = .ok (.aload_n 0, 1) := by decide +kernel
theorem dX2_fact_1 : decode cX2_fact 1 = .ok (.iload_n 1, 1) := by decide +kernel
theorem dX2_fact_2 : decode cX2_fact 2 = .ok (.iload_n 3, 1) := by decide +kernel
theorem dX2_fact_3 : decode cX2_fact 3 = .ok (.invokevirtual 110, 3) := by decide +kernel
theorem dX2_fact_6 : decode cX2_fact 6 = .ok (.ifCond .ne 5, 3) := by decide +kernel
theorem dX2_fact_9 : decode cX2_fact 9 = .ok (.iconst 0, 1) := by decide +kernel
theorem dX2_fact_10 : decode cX2_fact 10 = .ok (.ireturn, 1) := by decide +kernel
theorem dX2_fact_11 : decode cX2_fact 11 = .ok (.iload_n 2, 1) := by decide +kernel
theorem dX2_fact_12 : decode cX2_fact 12 = .ok (.iconst 0, 1) := by decide +kernel
theorem dX2_fact_13 : decode cX2_fact 13 = .ok (.iconst 4, 1) := by decide +kernel
theorem dX2_fact_14 : decode cX2_fact 14 = .ok (.invokestatic 48, 3) := by decide +kernel
theorem dX2_fact_17 : decode cX2_fact 17 = .ok (.ifCond .eq 13, 3) := by decide +kernel
theorem dX2_fact_20 : decode cX2_fact 20 = .ok (.aload_n 0, 1) := by decide +kernel
theorem dX2_fact_21 : decode cX2_fact 21 = .ok (.iload_n 1, 1) := by decide +kernel
theorem dX2_fact_22 : decode cX2_fact 22 = .ok (.iload_n 2, 1) := by decide +kernel
theorem dX2_fact_23 : decode cX2_fact 23 = .ok (.iload_n 3, 1) := by decide +kernel
theorem dX2_fact_24 : decode cX2_fact 24 = .ok (.invokevirtual 62, 3) := by decide +kernel
theorem dX2_fact_27 : decode cX2_fact 27 = .ok (.goto 8, 3) := by decide +kernel
theorem dX2_fact_30 : decode cX2_fact 30 = .ok (.aload_n 0, 1) := by decide +kernel
theorem dX2_fact_31 : decode cX2_fact 31 = .ok (.iconst 2, 1) := by decide +kernel
theorem dX2_fact_32 : decode cX2_fact 32 = .ok (.invokevirtual 100, 3) := by decide +kernel
theorem dX2_fact_35 : decode cX2_fact 35 = .ok (.ireturn, 1) := by decide +kernel
set_option maxRecDepth 20000 in
theorem ggX2_need_X2_isAsked : GoodIn wsX2_need wsX2_isAsked := goodIn_r _ [5, 6, 7, 8, 9, 4, 10, 11, 12, 13, 14, 31, 32, 33, 34, 35, 36, 37, 38, 39, 40, 41, 42, 43, 44, 45, 46] (by decide +kernel) (by decide +kernel)
set_option maxRecDepth 20000 in
theorem gX2_need_X2_isAsked : GoodIn wsX2_need (wsV RX2 110 RX2 yX2_isAsked wsX2_isAsked) := goodIn_app (goodIn_of _ (by decide +kernel)) ggX2_need_X2_isAsked
set_option maxRecDepth 20000 in
theorem ggX2_need_X2_needOf : GoodIn wsX2_need wsX2_needOf := goodIn_r _ [18, 19, 20, 21, 22, 4, 23, 24, 25, 26, 27, 28, 29, 30, 31, 32, 33, 34, 35, 36, 37, 38, 39, 40, 41, 42, 43, 44, 45, 46] (by decide +kernel) (by decide +kernel)
set_option maxRecDepth 20000 in
theorem gX2_need_X2_needOf : GoodIn wsX2_need (wsV RX2 68 RX2 yX2_needOf wsX2_needOf) := goodIn_app (goodIn_of _ (by decide +kernel)) ggX2_need_X2_needOf
theorem dX2_need_0 : decode cX2_need 0 = .ok (.aload_n 0, 1) := by decide +kernel
theorem dX2_need_1 : decode cX2_need 1 = .ok (.iload_n 1, 1) := by decide +kernel
theorem dX2_need_2 : decode cX2_need 2 = .ok (.iload_n 2, 1) := by decide +kernel
theorem dX2_need_3 : decode cX2_need 3 = .ok (.invokevirtual 110, 3) := by decide +kernel
theorem dX2_need_6 : decode cX2_need 6 = .ok (.ifCond .eq 12, 3) := by decide +kernel
theorem dX2_need_9 : decode cX2_need 9 = .ok (.aload_n 0, 1) := by decide +kernel
theorem dX2_need_10 : decode cX2_need 10 = .ok (.iload_n 1, 1) := by decide +kernel
theorem dX2_need_11 : decode cX2_need 11 = .ok (.iload_n 2, 1) := by decide +kernel
theorem dX2_need_12 : decode cX2_need 12 = .ok (.invokevirtual 68, 3) := by decide +kernel
theorem dX2_need_15 : decode cX2_need 15 = .ok (.goto 4, 3) := by decide +kernel
theorem dX2_need_18 : decode cX2_need 18 = .ok (.iconst 0, 1) := by decide +kernel
theorem dX2_need_19 : decode cX2_need 19 = .ok (.ireturn, 1) := by decide +kernel
set_option maxRecDepth 20000 in
theorem ggX2_taper_X2_isAsked : GoodIn wsX2_taper wsX2_isAsked := goodIn_r _ [5, 6, 7, 8, 9, 4, 10, 11, 12, 13, 14, 30, 31, 32, 33, 34, 35, 36, 37, 38, 39, 40, 41, 42, 43, 44, 45] (by decide +kernel) (by decide +kernel)
set_option maxRecDepth 20000 in
theorem gX2_taper_X2_isAsked : GoodIn wsX2_taper (wsV RX2 110 RX2 yX2_isAsked wsX2_isAsked) := goodIn_app (goodIn_of _ (by decide +kernel)) ggX2_taper_X2_isAsked
set_option maxRecDepth 20000 in
theorem ggX2_taper_X2_taperOf : GoodIn wsX2_taper wsX2_taperOf := goodIn_r _ [18, 19, 20, 21, 4, 22, 23, 24, 25, 26, 27, 28, 29, 30, 31, 32, 33, 34, 35, 36, 37, 38, 39, 40, 41, 42, 43, 44, 45] (by decide +kernel) (by decide +kernel)
set_option maxRecDepth 20000 in
theorem gX2_taper_X2_taperOf : GoodIn wsX2_taper (wsV RX2 72 RX2 yX2_taperOf wsX2_taperOf) := goodIn_app (goodIn_of _ (by decide +kernel)) ggX2_taper_X2_taperOf
theorem dX2_taper_0 : decode cX2_taper 0 = .ok (.aload_n 0, 1) := by decide +kernel
theorem dX2_taper_1 : decode cX2_taper 1 = .ok (.iload_n 1, 1) := by decide +kernel
theorem dX2_taper_2 : decode cX2_taper 2 = .ok (.iload_n 2, 1) := by decide +kernel
theorem dX2_taper_3 : decode cX2_taper 3 = .ok (.invokevirtual 110, 3) := by decide +kernel
theorem dX2_taper_6 : decode cX2_taper 6 = .ok (.ifCond .eq 12, 3) := by decide +kernel
theorem dX2_taper_9 : decode cX2_taper 9 = .ok (.aload_n 0, 1) := by decide +kernel
theorem dX2_taper_10 : decode cX2_taper 10 = .ok (.iload_n 1, 1) := by decide +kernel
theorem dX2_taper_11 : decode cX2_taper 11 = .ok (.iload_n 2, 1) := by decide +kernel
theorem dX2_taper_12 : decode cX2_taper 12 = .ok (.invokevirtual 72, 3) := by decide +kernel
theorem dX2_taper_15 : decode cX2_taper 15 = .ok (.goto 4, 3) := by decide +kernel
theorem dX2_taper_18 : decode cX2_taper 18 = .ok (.iconst 0, 1) := by decide +kernel
theorem dX2_taper_19 : decode cX2_taper 19 = .ok (.ireturn, 1) := by decide +kernel
set_option maxRecDepth 20000 in
theorem ggX2_tariff_X2_isAsked : GoodIn wsX2_tariff wsX2_isAsked := goodIn_r _ [5, 6, 7, 8, 9, 4, 10, 11, 12, 13, 14, 31, 32, 33, 34, 35, 36, 37, 38, 39, 40, 41, 42, 43, 44, 45, 46] (by decide +kernel) (by decide +kernel)
set_option maxRecDepth 20000 in
theorem gX2_tariff_X2_isAsked : GoodIn wsX2_tariff (wsV RX2 110 RX2 yX2_isAsked wsX2_isAsked) := goodIn_app (goodIn_of _ (by decide +kernel)) ggX2_tariff_X2_isAsked
set_option maxRecDepth 20000 in
theorem ggX2_tariff_X2_tariffOf : GoodIn wsX2_tariff wsX2_tariffOf := goodIn_r _ [18, 19, 20, 21, 22, 4, 23, 24, 25, 26, 27, 28, 29, 30, 31, 32, 33, 34, 35, 36, 37, 38, 39, 40, 41, 42, 43, 44, 45, 46] (by decide +kernel) (by decide +kernel)
set_option maxRecDepth 20000 in
theorem gX2_tariff_X2_tariffOf : GoodIn wsX2_tariff (wsV RX2 75 RX2 yX2_tariffOf wsX2_tariffOf) := goodIn_app (goodIn_of _ (by decide +kernel)) ggX2_tariff_X2_tariffOf
theorem dX2_tariff_0 : decode cX2_tariff 0 = .ok (.aload_n 0, 1) := by decide +kernel
theorem dX2_tariff_1 : decode cX2_tariff 1 = .ok (.iload_n 1, 1) := by decide +kernel
theorem dX2_tariff_2 : decode cX2_tariff 2 = .ok (.iload_n 2, 1) := by decide +kernel
theorem dX2_tariff_3 : decode cX2_tariff 3 = .ok (.invokevirtual 110, 3) := by decide +kernel
theorem dX2_tariff_6 : decode cX2_tariff 6 = .ok (.ifCond .eq 12, 3) := by decide +kernel
theorem dX2_tariff_9 : decode cX2_tariff 9 = .ok (.aload_n 0, 1) := by decide +kernel
theorem dX2_tariff_10 : decode cX2_tariff 10 = .ok (.iload_n 1, 1) := by decide +kernel
theorem dX2_tariff_11 : decode cX2_tariff 11 = .ok (.iload_n 2, 1) := by decide +kernel
theorem dX2_tariff_12 : decode cX2_tariff 12 = .ok (.invokevirtual 75, 3) := by decide +kernel
theorem dX2_tariff_15 : decode cX2_tariff 15 = .ok (.goto 4, 3) := by decide +kernel
theorem dX2_tariff_18 : decode cX2_tariff 18 = .ok (.iconst 0, 1) := by decide +kernel
theorem dX2_tariff_19 : decode cX2_tariff 19 = .ok (.ireturn, 1) := by decide +kernel
set_option maxRecDepth 20000 in
theorem ggX2_due_X2_isAsked : GoodIn wsX2_due wsX2_isAsked := goodIn_r _ [5, 6, 7, 8, 9, 4, 10, 11, 12, 13, 14, 45, 46, 47, 48, 49, 50, 51, 52, 53, 54, 55, 56, 57, 58, 59, 60] (by decide +kernel) (by decide +kernel)
set_option maxRecDepth 20000 in
theorem gX2_due_X2_isAsked : GoodIn wsX2_due (wsV RX2 110 RX2 yX2_isAsked wsX2_isAsked) := goodIn_app (goodIn_of _ (by decide +kernel)) ggX2_due_X2_isAsked
set_option maxRecDepth 20000 in
theorem ggX2_due_X2_dueOf : GoodIn wsX2_due wsX2_dueOf := goodIn_r _ [18, 19, 20, 21, 22, 4, 23, 24, 25, 26, 27, 28, 29, 30, 31, 32, 33, 34, 35, 36, 37, 38, 39, 40, 41, 42, 43, 44, 45, 46, 47, 48, 49, 50, 51, 52, 53, 54, 55, 56, 57, 58, 59, 60] (by decide +kernel) (by decide +kernel)
set_option maxRecDepth 20000 in
theorem gX2_due_X2_dueOf : GoodIn wsX2_due (wsV RX2 82 RX2 yX2_dueOf wsX2_dueOf) := goodIn_app (goodIn_of _ (by decide +kernel)) ggX2_due_X2_dueOf
theorem dX2_due_0 : decode cX2_due 0 = .ok (.aload_n 0, 1) := by decide +kernel
theorem dX2_due_1 : decode cX2_due 1 = .ok (.iload_n 1, 1) := by decide +kernel
theorem dX2_due_2 : decode cX2_due 2 = .ok (.iload_n 2, 1) := by decide +kernel
theorem dX2_due_3 : decode cX2_due 3 = .ok (.invokevirtual 110, 3) := by decide +kernel
theorem dX2_due_6 : decode cX2_due 6 = .ok (.ifCond .eq 12, 3) := by decide +kernel
theorem dX2_due_9 : decode cX2_due 9 = .ok (.aload_n 0, 1) := by decide +kernel
theorem dX2_due_10 : decode cX2_due 10 = .ok (.iload_n 1, 1) := by decide +kernel
theorem dX2_due_11 : decode cX2_due 11 = .ok (.iload_n 2, 1) := by decide +kernel
theorem dX2_due_12 : decode cX2_due 12 = .ok (.invokevirtual 82, 3) := by decide +kernel
theorem dX2_due_15 : decode cX2_due 15 = .ok (.goto 4, 3) := by decide +kernel
theorem dX2_due_18 : decode cX2_due 18 = .ok (.iconst 0, 1) := by decide +kernel
theorem dX2_due_19 : decode cX2_due 19 = .ok (.ireturn, 1) := by decide +kernel
set_option maxRecDepth 20000 in
theorem ggX2_unassessed_X2_isHome : GoodIn wsX2_unassessed wsX2_isHome := goodIn_r _ [6, 7, 8, 9, 5, 10, 52, 53, 54, 55, 56, 57, 58, 59, 60, 61, 62, 63, 64, 65, 66, 67] (by decide +kernel) (by decide +kernel)
set_option maxRecDepth 20000 in
theorem gX2_unassessed_X2_isHome : GoodIn wsX2_unassessed (wsV RX2 52 RX2 yX2_isHome wsX2_isHome) := goodIn_app (goodIn_of _ (by decide +kernel)) ggX2_unassessed_X2_isHome
set_option maxRecDepth 20000 in
theorem ggX2_unassessed_X2_openOf : GoodIn wsX2_unassessed wsX2_openOf := goodIn_r _ [14, 15, 16, 17, 18, 19, 20, 5, 21, 22, 23, 24, 25, 26, 27, 28, 29, 30, 31, 32, 33, 34, 35, 36, 37, 38, 39, 40, 41, 42, 43, 44, 45, 46, 47, 52, 53, 54, 55, 56, 57, 58, 59, 60, 61, 62, 63, 64, 65, 66, 67] (by decide +kernel) (by decide +kernel)
set_option maxRecDepth 20000 in
theorem gX2_unassessed_X2_openOf : GoodIn wsX2_unassessed (wsV RX2 85 RX2 yX2_openOf wsX2_openOf) := goodIn_app (goodIn_of _ (by decide +kernel)) ggX2_unassessed_X2_openOf
set_option maxRecDepth 20000 in
theorem ggX2_unassessed_X2_fails : GoodIn wsX2_unassessed wsX2_fails := goodIn_r _ [51, 1, 52, 53, 54, 55, 56, 57, 58, 59, 60, 61, 62, 63, 64, 65, 66, 67] (by decide +kernel) (by decide +kernel)
set_option maxRecDepth 20000 in
theorem gX2_unassessed_X2_fails : GoodIn wsX2_unassessed (wsV RX2 100 RX2 yX2_fails wsX2_fails) := goodIn_app (goodIn_of _ (by decide +kernel)) ggX2_unassessed_X2_fails
theorem dX2_unassessed_0 : decode cX2_unassessed 0 = .ok (.aload_n 0, 1) := by decide +kernel
theorem dX2_unassessed_1 : decode cX2_unassessed 1 = .ok (.iconst 0, 1) := by decide +kernel
theorem dX2_unassessed_2 : decode cX2_unassessed 2 = .ok (.putfield 41, 3) := by decide +kernel
theorem dX2_unassessed_5 : decode cX2_unassessed 5 = .ok (.aload_n 0, 1) := by decide +kernel
theorem dX2_unassessed_6 : decode cX2_unassessed 6 = .ok (.iload_n 1, 1) := by decide +kernel
theorem dX2_unassessed_7 : decode cX2_unassessed 7 = .ok (.invokevirtual 52, 3) := by decide +kernel
theorem dX2_unassessed_10 : decode cX2_unassessed 10 = .ok (.ifCond .eq 11, 3) := by decide +kernel
theorem dX2_unassessed_13 : decode cX2_unassessed 13 = .ok (.aload_n 0, 1) := by decide +kernel
theorem dX2_unassessed_14 : decode cX2_unassessed 14 = .ok (.iload_n 1, 1) := by decide +kernel
theorem dX2_unassessed_15 : decode cX2_unassessed 15 = .ok (.invokevirtual 85, 3) := by decide +kernel
theorem dX2_unassessed_18 : decode cX2_unassessed 18 = .ok (.goto 8, 3) := by decide +kernel
theorem dX2_unassessed_21 : decode cX2_unassessed 21 = .ok (.aload_n 0, 1) := by decide +kernel
theorem dX2_unassessed_22 : decode cX2_unassessed 22 = .ok (.iconst 1, 1) := by decide +kernel
theorem dX2_unassessed_23 : decode cX2_unassessed 23 = .ok (.invokevirtual 100, 3) := by decide +kernel
theorem dX2_unassessed_26 : decode cX2_unassessed 26 = .ok (.ireturn, 1) := by decide +kernel
set_option maxRecDepth 20000 in
theorem ggX2_wouldPay_X2_isHome : GoodIn wsX2_wouldPay wsX2_isHome := goodIn_r _ [8, 9, 10, 11, 7, 12, 64, 65, 66, 67, 68, 69, 70, 71, 72, 73, 74, 75, 76, 77, 78, 79] (by decide +kernel) (by decide +kernel)
set_option maxRecDepth 20000 in
theorem gX2_wouldPay_X2_isHome : GoodIn wsX2_wouldPay (wsV RX2 52 RX2 yX2_isHome wsX2_isHome) := goodIn_app (goodIn_of _ (by decide +kernel)) ggX2_wouldPay_X2_isHome
set_option maxRecDepth 20000 in
theorem ggX2_wouldPay_X2_fails : GoodIn wsX2_wouldPay wsX2_fails := goodIn_r _ [16, 1, 64, 65, 66, 67, 68, 69, 70, 71, 72, 73, 74, 75, 76, 77, 78, 79] (by decide +kernel) (by decide +kernel)
set_option maxRecDepth 20000 in
theorem gX2_wouldPay_X2_fails : GoodIn wsX2_wouldPay (wsV RX2 100 RX2 yX2_fails wsX2_fails) := goodIn_app (goodIn_of _ (by decide +kernel)) ggX2_wouldPay_X2_fails
set_option maxRecDepth 20000 in
theorem ggX2_wouldPay_X2_reckons : GoodIn wsX2_wouldPay wsX2_reckons := goodIn_r _ [20, 21, 2, 22, 23, 24, 3, 25, 26, 27, 7, 28, 29, 30, 31, 32, 33, 34, 35, 36, 37, 38, 39, 40, 41, 42, 43, 44, 45, 46, 47, 48, 49, 50, 51, 52, 53, 54, 55, 56, 57, 58, 59, 60, 61, 62, 63, 64, 65, 66, 67, 68, 69, 70, 71, 72, 73, 74, 75, 76, 77, 78, 79] (by decide +kernel) (by decide +kernel)
set_option maxRecDepth 20000 in
theorem gX2_wouldPay_X2_reckons : GoodIn wsX2_wouldPay (wsV RX2 106 RX2 yX2_reckons wsX2_reckons) := goodIn_app (goodIn_of _ (by decide +kernel)) ggX2_wouldPay_X2_reckons
theorem dX2_wouldPay_0 : decode cX2_wouldPay 0 = .ok (.aload_n 0, 1) := by decide +kernel
theorem dX2_wouldPay_1 : decode cX2_wouldPay 1 = .ok (.iconst 0, 1) := by decide +kernel
theorem dX2_wouldPay_2 : decode cX2_wouldPay 2 = .ok (.putfield 41, 3) := by decide +kernel
theorem dX2_wouldPay_5 : decode cX2_wouldPay 5 = .ok (.aload_n 0, 1) := by decide +kernel
theorem dX2_wouldPay_6 : decode cX2_wouldPay 6 = .ok (.iload_n 1, 1) := by decide +kernel
theorem dX2_wouldPay_7 : decode cX2_wouldPay 7 = .ok (.invokevirtual 52, 3) := by decide +kernel
theorem dX2_wouldPay_10 : decode cX2_wouldPay 10 = .ok (.ifCond .ne 9, 3) := by decide +kernel
theorem dX2_wouldPay_13 : decode cX2_wouldPay 13 = .ok (.aload_n 0, 1) := by decide +kernel
theorem dX2_wouldPay_14 : decode cX2_wouldPay 14 = .ok (.iconst 1, 1) := by decide +kernel
theorem dX2_wouldPay_15 : decode cX2_wouldPay 15 = .ok (.invokevirtual 100, 3) := by decide +kernel
theorem dX2_wouldPay_18 : decode cX2_wouldPay 18 = .ok (.ireturn, 1) := by decide +kernel
theorem dX2_wouldPay_19 : decode cX2_wouldPay 19 = .ok (.aload_n 0, 1) := by decide +kernel
theorem dX2_wouldPay_20 : decode cX2_wouldPay 20 = .ok (.getfield 79, 3) := by decide +kernel
theorem dX2_wouldPay_23 : decode cX2_wouldPay 23 = .ok (.bipush 48, 2) := by decide +kernel
theorem dX2_wouldPay_25 : decode cX2_wouldPay 25 = .ok (.if_icmp .ne 5, 3) := by decide +kernel
theorem dX2_wouldPay_28 : decode cX2_wouldPay 28 = .ok (.iconst 0, 1) := by decide +kernel
theorem dX2_wouldPay_29 : decode cX2_wouldPay 29 = .ok (.ireturn, 1) := by decide +kernel
theorem dX2_wouldPay_30 : decode cX2_wouldPay 30 = .ok (.aload_n 0, 1) := by decide +kernel
theorem dX2_wouldPay_31 : decode cX2_wouldPay 31 = .ok (.iload_n 1, 1) := by decide +kernel
theorem dX2_wouldPay_32 : decode cX2_wouldPay 32 = .ok (.invokevirtual 106, 3) := by decide +kernel
theorem dX2_wouldPay_35 : decode cX2_wouldPay 35 = .ok (.aload_n 0, 1) := by decide +kernel
theorem dX2_wouldPay_36 : decode cX2_wouldPay 36 = .ok (.getfield 97, 3) := by decide +kernel
theorem dX2_wouldPay_39 : decode cX2_wouldPay 39 = .ok (.ireturn, 1) := by decide +kernel
set_option maxRecDepth 20000 in
theorem ggX2_assessed_X2_isAsked : GoodIn wsX2_assessed wsX2_isAsked := goodIn_r _ [6, 7, 8, 9, 10, 5, 11, 12, 13, 14, 15, 16, 17, 18, 19, 20, 21, 22, 23, 24, 25, 26, 27, 28, 29, 30, 31] (by decide +kernel) (by decide +kernel)
set_option maxRecDepth 20000 in
theorem gX2_assessed_X2_isAsked : GoodIn wsX2_assessed (wsV RX2 110 RX2 yX2_isAsked wsX2_isAsked) := goodIn_app (goodIn_of _ (by decide +kernel)) ggX2_assessed_X2_isAsked
theorem dX2_assessed_0 : decode cX2_assessed 0 = .ok (.aload_n 0, 1) := by decide +kernel
theorem dX2_assessed_1 : decode cX2_assessed 1 = .ok (.iload_n 1, 1) := by decide +kernel
theorem dX2_assessed_2 : decode cX2_assessed 2 = .ok (.iload_n 2, 1) := by decide +kernel
theorem dX2_assessed_3 : decode cX2_assessed 3 = .ok (.invokevirtual 110, 3) := by decide +kernel
theorem dX2_assessed_6 : decode cX2_assessed 6 = .ok (.ifCond .eq 17, 3) := by decide +kernel
theorem dX2_assessed_9 : decode cX2_assessed 9 = .ok (.aload_n 0, 1) := by decide +kernel
theorem dX2_assessed_10 : decode cX2_assessed 10 = .ok (.getfield 25, 3) := by decide +kernel
theorem dX2_assessed_13 : decode cX2_assessed 13 = .ok (.bipush 48, 2) := by decide +kernel
theorem dX2_assessed_15 : decode cX2_assessed 15 = .ok (.iload_n 1, 1) := by decide +kernel
theorem dX2_assessed_16 : decode cX2_assessed 16 = .ok (.imul, 1) := by decide +kernel
theorem dX2_assessed_17 : decode cX2_assessed 17 = .ok (.iload_n 2, 1) := by decide +kernel
theorem dX2_assessed_18 : decode cX2_assessed 18 = .ok (.iadd, 1) := by decide +kernel
theorem dX2_assessed_19 : decode cX2_assessed 19 = .ok (.iaload, 1) := by decide +kernel
theorem dX2_assessed_20 : decode cX2_assessed 20 = .ok (.goto 4, 3) := by decide +kernel
theorem dX2_assessed_23 : decode cX2_assessed 23 = .ok (.iconst 0, 1) := by decide +kernel
theorem dX2_assessed_24 : decode cX2_assessed 24 = .ok (.ireturn, 1) := by decide +kernel
set_option maxRecDepth 20000 in
theorem ggX2_paid_X2_isAsked : GoodIn wsX2_paid wsX2_isAsked := goodIn_r _ [6, 7, 8, 9, 10, 5, 11, 12, 13, 14, 15, 16, 17, 18, 19, 20, 21, 22, 23, 24, 25, 26, 27, 28, 29, 30, 31] (by decide +kernel) (by decide +kernel)
set_option maxRecDepth 20000 in
theorem gX2_paid_X2_isAsked : GoodIn wsX2_paid (wsV RX2 110 RX2 yX2_isAsked wsX2_isAsked) := goodIn_app (goodIn_of _ (by decide +kernel)) ggX2_paid_X2_isAsked
theorem dX2_paid_0 : decode cX2_paid 0 = .ok (.aload_n 0, 1) := by decide +kernel
theorem dX2_paid_1 : decode cX2_paid 1 = .ok (.iload_n 1, 1) := by decide +kernel
theorem dX2_paid_2 : decode cX2_paid 2 = .ok (.iload_n 2, 1) := by decide +kernel
theorem dX2_paid_3 : decode cX2_paid 3 = .ok (.invokevirtual 110, 3) := by decide +kernel
theorem dX2_paid_6 : decode cX2_paid 6 = .ok (.ifCond .eq 17, 3) := by decide +kernel
theorem dX2_paid_9 : decode cX2_paid 9 = .ok (.aload_n 0, 1) := by decide +kernel
theorem dX2_paid_10 : decode cX2_paid 10 = .ok (.getfield 28, 3) := by decide +kernel
theorem dX2_paid_13 : decode cX2_paid 13 = .ok (.bipush 48, 2) := by decide +kernel
theorem dX2_paid_15 : decode cX2_paid 15 = .ok (.iload_n 1, 1) := by decide +kernel
theorem dX2_paid_16 : decode cX2_paid 16 = .ok (.imul, 1) := by decide +kernel
theorem dX2_paid_17 : decode cX2_paid 17 = .ok (.iload_n 2, 1) := by decide +kernel
theorem dX2_paid_18 : decode cX2_paid 18 = .ok (.iadd, 1) := by decide +kernel
theorem dX2_paid_19 : decode cX2_paid 19 = .ok (.iaload, 1) := by decide +kernel
theorem dX2_paid_20 : decode cX2_paid 20 = .ok (.goto 4, 3) := by decide +kernel
theorem dX2_paid_23 : decode cX2_paid 23 = .ok (.iconst 0, 1) := by decide +kernel
theorem dX2_paid_24 : decode cX2_paid 24 = .ok (.ireturn, 1) := by decide +kernel
set_option maxRecDepth 20000 in
theorem ggX2_debt_X2_isHome : GoodIn wsX2_debt wsX2_isHome := goodIn_r _ [7, 8, 9, 10, 6, 11, 16, 17, 18, 19, 20, 21, 22, 23, 24, 25, 26, 27, 28, 29, 30, 31] (by decide +kernel) (by decide +kernel)
set_option maxRecDepth 20000 in
theorem gX2_debt_X2_isHome : GoodIn wsX2_debt (wsV RX2 52 RX2 yX2_isHome wsX2_isHome) := goodIn_app (goodIn_of _ (by decide +kernel)) ggX2_debt_X2_isHome
set_option maxRecDepth 20000 in
theorem ggX2_debt_X2_fails : GoodIn wsX2_debt wsX2_fails := goodIn_r _ [15, 1, 16, 17, 18, 19, 20, 21, 22, 23, 24, 25, 26, 27, 28, 29, 30, 31] (by decide +kernel) (by decide +kernel)
set_option maxRecDepth 20000 in
theorem gX2_debt_X2_fails : GoodIn wsX2_debt (wsV RX2 100 RX2 yX2_fails wsX2_fails) := goodIn_app (goodIn_of _ (by decide +kernel)) ggX2_debt_X2_fails
theorem dX2_debt_0 : decode cX2_debt 0 = .ok (.aload_n 0, 1) := by decide +kernel
theorem dX2_debt_1 : decode cX2_debt 1 = .ok (.iconst 0, 1) := by decide +kernel
theorem dX2_debt_2 : decode cX2_debt 2 = .ok (.putfield 41, 3) := by decide +kernel
theorem dX2_debt_5 : decode cX2_debt 5 = .ok (.aload_n 0, 1) := by decide +kernel
theorem dX2_debt_6 : decode cX2_debt 6 = .ok (.iload_n 1, 1) := by decide +kernel
theorem dX2_debt_7 : decode cX2_debt 7 = .ok (.invokevirtual 52, 3) := by decide +kernel
theorem dX2_debt_10 : decode cX2_debt 10 = .ok (.ifCond .eq 12, 3) := by decide +kernel
theorem dX2_debt_13 : decode cX2_debt 13 = .ok (.aload_n 0, 1) := by decide +kernel
theorem dX2_debt_14 : decode cX2_debt 14 = .ok (.getfield 31, 3) := by decide +kernel
theorem dX2_debt_17 : decode cX2_debt 17 = .ok (.iload_n 1, 1) := by decide +kernel
theorem dX2_debt_18 : decode cX2_debt 18 = .ok (.iaload, 1) := by decide +kernel
theorem dX2_debt_19 : decode cX2_debt 19 = .ok (.goto 8, 3) := by decide +kernel
theorem dX2_debt_22 : decode cX2_debt 22 = .ok (.aload_n 0, 1) := by decide +kernel
theorem dX2_debt_23 : decode cX2_debt 23 = .ok (.iconst 1, 1) := by decide +kernel
theorem dX2_debt_24 : decode cX2_debt 24 = .ok (.invokevirtual 100, 3) := by decide +kernel
theorem dX2_debt_27 : decode cX2_debt 27 = .ok (.ireturn, 1) := by decide +kernel
set_option maxRecDepth 20000 in
theorem ggX2_recovered_X2_isHome : GoodIn wsX2_recovered wsX2_isHome := goodIn_r _ [7, 8, 9, 10, 6, 11, 16, 17, 18, 19, 20, 21, 22, 23, 24, 25, 26, 27, 28, 29, 30, 31] (by decide +kernel) (by decide +kernel)
set_option maxRecDepth 20000 in
theorem gX2_recovered_X2_isHome : GoodIn wsX2_recovered (wsV RX2 52 RX2 yX2_isHome wsX2_isHome) := goodIn_app (goodIn_of _ (by decide +kernel)) ggX2_recovered_X2_isHome
set_option maxRecDepth 20000 in
theorem ggX2_recovered_X2_fails : GoodIn wsX2_recovered wsX2_fails := goodIn_r _ [15, 1, 16, 17, 18, 19, 20, 21, 22, 23, 24, 25, 26, 27, 28, 29, 30, 31] (by decide +kernel) (by decide +kernel)
set_option maxRecDepth 20000 in
theorem gX2_recovered_X2_fails : GoodIn wsX2_recovered (wsV RX2 100 RX2 yX2_fails wsX2_fails) := goodIn_app (goodIn_of _ (by decide +kernel)) ggX2_recovered_X2_fails
theorem dX2_recovered_0 : decode cX2_recovered 0 = .ok (.aload_n 0, 1) := by decide +kernel
theorem dX2_recovered_1 : decode cX2_recovered 1 = .ok (.iconst 0, 1) := by decide +kernel
theorem dX2_recovered_2 : decode cX2_recovered 2 = .ok (.putfield 41, 3) := by decide +kernel
theorem dX2_recovered_5 : decode cX2_recovered 5 = .ok (.aload_n 0, 1) := by decide +kernel
theorem dX2_recovered_6 : decode cX2_recovered 6 = .ok (.iload_n 1, 1) := by decide +kernel
theorem dX2_recovered_7 : decode cX2_recovered 7 = .ok (.invokevirtual 52, 3) := by decide +kernel
theorem dX2_recovered_10 : decode cX2_recovered 10 = .ok (.ifCond .eq 12, 3) := by decide +kernel
theorem dX2_recovered_13 : decode cX2_recovered 13 = .ok (.aload_n 0, 1) := by decide +kernel
theorem dX2_recovered_14 : decode cX2_recovered 14 = .ok (.getfield 34, 3) := by decide +kernel
theorem dX2_recovered_17 : decode cX2_recovered 17 = .ok (.iload_n 1, 1) := by decide +kernel
theorem dX2_recovered_18 : decode cX2_recovered 18 = .ok (.iaload, 1) := by decide +kernel
theorem dX2_recovered_19 : decode cX2_recovered 19 = .ok (.goto 8, 3) := by decide +kernel
theorem dX2_recovered_22 : decode cX2_recovered 22 = .ok (.aload_n 0, 1) := by decide +kernel
theorem dX2_recovered_23 : decode cX2_recovered 23 = .ok (.iconst 1, 1) := by decide +kernel
theorem dX2_recovered_24 : decode cX2_recovered 24 = .ok (.invokevirtual 100, 3) := by decide +kernel
theorem dX2_recovered_27 : decode cX2_recovered 27 = .ok (.ireturn, 1) := by decide +kernel
theorem dJ9_max_7cf53_0 : decode cJ9_max_7cf53 0 = .ok (.iload_n 0, 1) := by decide +kernel
theorem dJ9_max_7cf53_1 : decode cJ9_max_7cf53 1 = .ok (.iload_n 1, 1) := by decide +kernel
theorem dJ9_max_7cf53_2 : decode cJ9_max_7cf53 2 = .ok (.if_icmp .lt 7, 3) := by decide +kernel
theorem dJ9_max_7cf53_5 : decode cJ9_max_7cf53 5 = .ok (.iload_n 0, 1) := by decide +kernel
theorem dJ9_max_7cf53_6 : decode cJ9_max_7cf53 6 = .ok (.goto 4, 3) := by decide +kernel
theorem dJ9_max_7cf53_9 : decode cJ9_max_7cf53 9 = .ok (.iload_n 1, 1) := by decide +kernel
theorem dJ9_max_7cf53_10 : decode cJ9_max_7cf53 10 = .ok (.ireturn, 1) := by decide +kernel
theorem dJ9_min_7cf53_0 : decode cJ9_min_7cf53 0 = .ok (.iload_n 0, 1) := by decide +kernel
theorem dJ9_min_7cf53_1 : decode cJ9_min_7cf53 1 = .ok (.iload_n 1, 1) := by decide +kernel
theorem dJ9_min_7cf53_2 : decode cJ9_min_7cf53 2 = .ok (.if_icmp .gt 7, 3) := by decide +kernel
theorem dJ9_min_7cf53_5 : decode cJ9_min_7cf53 5 = .ok (.iload_n 0, 1) := by decide +kernel
theorem dJ9_min_7cf53_6 : decode cJ9_min_7cf53 6 = .ok (.goto 4, 3) := by decide +kernel
theorem dJ9_min_7cf53_9 : decode cJ9_min_7cf53 9 = .ok (.iload_n 1, 1) := by decide +kernel
theorem dJ9_min_7cf53_10 : decode cJ9_min_7cf53 10 = .ok (.ireturn, 1) := by decide +kernel
set_option maxRecDepth 20000 in
theorem ggL_add_X1_add : GoodIn wsL_add wsX1_add := goodIn_ca (goodIn_r _ [6, 7, 8, 9, 10, 11, 12, 13, 14, 15, 16, 17, 18, 19, 20, 21, 22, 23, 24, 25, 26, 27, 28, 29, 30, 31, 32, 33, 34, 35, 36, 37, 38] (by decide +kernel) (by decide +kernel)) (goodIn_sub (fun _ h => List.mem_cons_of_mem _ (List.mem_append_right _ h)) (by decide +kernel))
set_option maxRecDepth 20000 in
theorem gL_add_X1_add : GoodIn wsL_add (wsV RL 7 RX1 yX1_add wsX1_add) := goodIn_app (goodIn_of _ (by decide +kernel)) ggL_add_X1_add
theorem dL_add_0 : decode cL_add 0 = .ok (.aload_n 1, 1) := by decide +kernel
theorem dL_add_1 : decode cL_add 1 = .ok (.iconst 0, 1) := by decide +kernel
theorem dL_add_2 : decode cL_add 2 = .ok (.aload_n 0, 1) := by decide +kernel
theorem dL_add_3 : decode cL_add 3 = .ok (.invokevirtual 7, 3) := by decide +kernel
theorem dL_add_6 : decode cL_add 6 = .ok (.i2l, 1) := by decide +kernel
theorem dL_add_7 : decode cL_add 7 = .ok (.lastore, 1) := by decide +kernel
theorem dL_add_8 : decode cL_add 8 = .ok (.goto 6, 3) := by decide +kernel
theorem dL_add_11 : decode cL_add 11 = .ok (.astore_n 2, 1) := by decide +kernel
theorem dL_add_12 : decode cL_add 12 = .ok (.iconst 1, 1) := by decide +kernel
theorem dL_add_13 : decode cL_add 13 = .ok (.ireturn, 1) := by decide +kernel
theorem dL_add_14 : decode cL_add 14 = .ok (.iconst 0, 1) := by decide +kernel
theorem dL_add_15 : decode cL_add 15 = .ok (.ireturn, 1) := by decide +kernel
set_option maxRecDepth 20000 in
theorem ggL_tell_X1_tell : GoodIn wsL_tell wsX1_tell := goodIn_ca (goodIn_ca (goodIn_ca (goodIn_r _ [8, 9, 10, 11, 12, 13, 14, 15, 16, 17, 7, 18, 19, 20, 21, 22, 23, 24, 25, 26, 27, 28, 29, 30, 31, 32, 33, 34, 35, 36, 37, 38, 39, 40, 41, 42, 43, 44, 45, 46] (by decide +kernel) (by decide +kernel)) (goodIn_sub (fun _ h => List.mem_cons_of_mem _ (List.mem_append_left _ (List.mem_append_left _ (List.mem_append_right _ h)))) (by decide +kernel))) (goodIn_sub (fun _ h => List.mem_cons_of_mem _ (List.mem_append_left _ (List.mem_append_right _ h))) (by decide +kernel))) (goodIn_sub (fun _ h => List.mem_cons_of_mem _ (List.mem_append_right _ h)) (by decide +kernel))
set_option maxRecDepth 20000 in
theorem gL_tell_X1_tell : GoodIn wsL_tell (wsV RL 15 RX1 yX1_tell wsX1_tell) := goodIn_app (goodIn_of _ (by decide +kernel)) ggL_tell_X1_tell
theorem dL_tell_0 : decode cL_tell 0 = .ok (.aload 5, 2) := by decide +kernel
theorem dL_tell_2 : decode cL_tell 2 = .ok (.iconst 0, 1) := by decide +kernel
theorem dL_tell_3 : decode cL_tell 3 = .ok (.aload_n 0, 1) := by decide +kernel
theorem dL_tell_4 : decode cL_tell 4 = .ok (.iload_n 1, 1) := by decide +kernel
theorem dL_tell_5 : decode cL_tell 5 = .ok (.iload_n 2, 1) := by decide +kernel
theorem dL_tell_6 : decode cL_tell 6 = .ok (.iload_n 3, 1) := by decide +kernel
theorem dL_tell_7 : decode cL_tell 7 = .ok (.iload 4, 2) := by decide +kernel
theorem dL_tell_9 : decode cL_tell 9 = .ok (.invokevirtual 15, 3) := by decide +kernel
theorem dL_tell_12 : decode cL_tell 12 = .ok (.i2l, 1) := by decide +kernel
theorem dL_tell_13 : decode cL_tell 13 = .ok (.lastore, 1) := by decide +kernel
theorem dL_tell_14 : decode cL_tell 14 = .ok (.goto 15, 3) := by decide +kernel
theorem dL_tell_17 : decode cL_tell 17 = .ok (.astore 6, 2) := by decide +kernel
theorem dL_tell_19 : decode cL_tell 19 = .ok (.iconst 1, 1) := by decide +kernel
theorem dL_tell_20 : decode cL_tell 20 = .ok (.ireturn, 1) := by decide +kernel
theorem dL_tell_21 : decode cL_tell 21 = .ok (.astore 6, 2) := by decide +kernel
theorem dL_tell_23 : decode cL_tell 23 = .ok (.iconst 2, 1) := by decide +kernel
theorem dL_tell_24 : decode cL_tell 24 = .ok (.ireturn, 1) := by decide +kernel
theorem dL_tell_25 : decode cL_tell 25 = .ok (.astore 6, 2) := by decide +kernel
theorem dL_tell_27 : decode cL_tell 27 = .ok (.iconst 3, 1) := by decide +kernel
theorem dL_tell_28 : decode cL_tell 28 = .ok (.ireturn, 1) := by decide +kernel
theorem dL_tell_29 : decode cL_tell 29 = .ok (.iconst 0, 1) := by decide +kernel
theorem dL_tell_30 : decode cL_tell 30 = .ok (.ireturn, 1) := by decide +kernel
set_option maxRecDepth 20000 in
theorem ggL_dispute_X1_dispute : GoodIn wsL_dispute wsX1_dispute := goodIn_ca (goodIn_r _ [6, 7, 8, 9, 5, 10, 11, 12, 13, 14, 15, 16, 17, 18, 19, 20, 21, 22, 23, 24, 25] (by decide +kernel) (by decide +kernel)) (goodIn_sub (fun _ h => List.mem_cons_of_mem _ (List.mem_append_right _ h)) (by decide +kernel))
set_option maxRecDepth 20000 in
theorem gL_dispute_X1_dispute : GoodIn wsL_dispute (wsV RL 23 RX1 yX1_dispute wsX1_dispute) := goodIn_app (goodIn_of _ (by decide +kernel)) ggL_dispute_X1_dispute
theorem dL_dispute_0 : decode cL_dispute 0 = .ok (.aload_n 3, 1) := by decide +kernel
theorem dL_dispute_1 : decode cL_dispute 1 = .ok (.iconst 0, 1) := by decide +kernel
theorem dL_dispute_2 : decode cL_dispute 2 = .ok (.aload_n 0, 1) := by decide +kernel
theorem dL_dispute_3 : decode cL_dispute 3 = .ok (.iload_n 1, 1) := by decide +kernel
theorem dL_dispute_4 : decode cL_dispute 4 = .ok (.iload_n 2, 1) := by decide +kernel
theorem dL_dispute_5 : decode cL_dispute 5 = .ok (.invokevirtual 23, 3) := by decide +kernel
theorem dL_dispute_8 : decode cL_dispute 8 = .ok (.ifCond .eq 7, 3) := by decide +kernel
theorem dL_dispute_11 : decode cL_dispute 11 = .ok (.lconst 1, 1) := by decide +kernel
theorem dL_dispute_12 : decode cL_dispute 12 = .ok (.goto 4, 3) := by decide +kernel
theorem dL_dispute_15 : decode cL_dispute 15 = .ok (.lconst 0, 1) := by decide +kernel
theorem dL_dispute_16 : decode cL_dispute 16 = .ok (.lastore, 1) := by decide +kernel
theorem dL_dispute_17 : decode cL_dispute 17 = .ok (.goto 7, 3) := by decide +kernel
theorem dL_dispute_20 : decode cL_dispute 20 = .ok (.astore 4, 2) := by decide +kernel
theorem dL_dispute_22 : decode cL_dispute 22 = .ok (.iconst 1, 1) := by decide +kernel
theorem dL_dispute_23 : decode cL_dispute 23 = .ok (.ireturn, 1) := by decide +kernel
theorem dL_dispute_24 : decode cL_dispute 24 = .ok (.iconst 0, 1) := by decide +kernel
theorem dL_dispute_25 : decode cL_dispute 25 = .ok (.ireturn, 1) := by decide +kernel
set_option maxRecDepth 20000 in
theorem ggL_payBack_X1_payBack : GoodIn wsL_payBack wsX1_payBack := goodIn_ca (goodIn_ca (goodIn_ca (goodIn_r _ [8, 9, 10, 11, 12, 13, 14, 15, 16, 7, 17, 18, 19, 20, 21, 22, 23, 24, 25, 26, 27, 28, 29, 30, 31, 32, 33, 34, 35, 36, 37, 38] (by decide +kernel) (by decide +kernel)) (goodIn_sub (fun _ h => List.mem_cons_of_mem _ (List.mem_append_left _ (List.mem_append_left _ (List.mem_append_right _ h)))) (by decide +kernel))) (goodIn_sub (fun _ h => List.mem_cons_of_mem _ (List.mem_append_left _ (List.mem_append_right _ h))) (by decide +kernel))) (goodIn_sub (fun _ h => List.mem_cons_of_mem _ (List.mem_append_right _ h)) (by decide +kernel))
set_option maxRecDepth 20000 in
theorem gL_payBack_X1_payBack : GoodIn wsL_payBack (wsV RL 27 RX1 yX1_payBack wsX1_payBack) := goodIn_app (goodIn_of _ (by decide +kernel)) ggL_payBack_X1_payBack
theorem dL_payBack_0 : decode cL_payBack 0 = .ok (.aload_n 3, 1) := by decide +kernel
theorem dL_payBack_1 : decode cL_payBack 1 = .ok (.iconst 0, 1) := by decide +kernel
theorem dL_payBack_2 : decode cL_payBack 2 = .ok (.aload_n 0, 1) := by decide +kernel
theorem dL_payBack_3 : decode cL_payBack 3 = .ok (.iload_n 1, 1) := by decide +kernel
theorem dL_payBack_4 : decode cL_payBack 4 = .ok (.iload_n 2, 1) := by decide +kernel
theorem dL_payBack_5 : decode cL_payBack 5 = .ok (.invokevirtual 27, 3) := by decide +kernel
theorem dL_payBack_8 : decode cL_payBack 8 = .ok (.i2l, 1) := by decide +kernel
theorem dL_payBack_9 : decode cL_payBack 9 = .ok (.lastore, 1) := by decide +kernel
theorem dL_payBack_10 : decode cL_payBack 10 = .ok (.goto 15, 3) := by decide +kernel
theorem dL_payBack_13 : decode cL_payBack 13 = .ok (.astore 4, 2) := by decide +kernel
theorem dL_payBack_15 : decode cL_payBack 15 = .ok (.iconst 1, 1) := by decide +kernel
theorem dL_payBack_16 : decode cL_payBack 16 = .ok (.ireturn, 1) := by decide +kernel
theorem dL_payBack_17 : decode cL_payBack 17 = .ok (.astore 4, 2) := by decide +kernel
theorem dL_payBack_19 : decode cL_payBack 19 = .ok (.iconst 2, 1) := by decide +kernel
theorem dL_payBack_20 : decode cL_payBack 20 = .ok (.ireturn, 1) := by decide +kernel
theorem dL_payBack_21 : decode cL_payBack 21 = .ok (.astore 4, 2) := by decide +kernel
theorem dL_payBack_23 : decode cL_payBack 23 = .ok (.iconst 3, 1) := by decide +kernel
theorem dL_payBack_24 : decode cL_payBack 24 = .ok (.ireturn, 1) := by decide +kernel
theorem dL_payBack_25 : decode cL_payBack 25 = .ok (.iconst 0, 1) := by decide +kernel
theorem dL_payBack_26 : decode cL_payBack 26 = .ok (.ireturn, 1) := by decide +kernel
set_option maxRecDepth 20000 in
theorem ggL_close_X1_close : GoodIn wsL_close wsX1_close := goodIn_ca (goodIn_r _ [6, 7, 8, 9, 10, 11, 12, 13, 14, 15, 16, 17, 18, 19, 20, 21, 22, 23, 24, 25, 26, 27, 28, 29, 30, 31, 32, 33, 34, 35, 36, 37, 38, 39, 40, 41, 42, 43, 44, 45, 46, 47, 48, 49, 50, 51, 52, 53, 54, 55, 56, 57, 58, 59, 60, 61, 62, 63, 64, 65, 66, 67, 68, 69, 70, 71, 72, 73, 74, 75, 76, 77, 78, 79, 80, 81, 82, 83] (by decide +kernel) (by decide +kernel)) (goodIn_sub (fun _ h => List.mem_cons_of_mem _ (List.mem_append_right _ h)) (by decide +kernel))
set_option maxRecDepth 20000 in
theorem gL_close_X1_close : GoodIn wsL_close (wsV RL 31 RX1 yX1_close wsX1_close) := goodIn_app (goodIn_of _ (by decide +kernel)) ggL_close_X1_close
theorem dL_close_0 : decode cL_close 0 = .ok (.aload_n 1, 1) := by decide +kernel
theorem dL_close_1 : decode cL_close 1 = .ok (.iconst 0, 1) := by decide +kernel
theorem dL_close_2 : decode cL_close 2 = .ok (.aload_n 0, 1) := by decide +kernel
end
section
theorem dL_close_3 : decode cL_close 3 = .ok (.invokevirtual 31, 3) := by decide +kernel
theorem dL_close_6 : decode cL_close 6 = .ok (.i2l, 1) := by decide +kernel
theorem dL_close_7 : decode cL_close 7 = .ok (.lastore, 1) := by decide +kernel
theorem dL_close_8 : decode cL_close 8 = .ok (.goto 6, 3) := by decide +kernel
theorem dL_close_11 : decode cL_close 11 = .ok (.astore_n 2, 1) := by decide +kernel
theorem dL_close_12 : decode cL_close 12 = .ok (.iconst 1, 1) := by decide +kernel
theorem dL_close_13 : decode cL_close 13 = .ok (.ireturn, 1) := by decide +kernel
theorem dL_close_14 : decode cL_close 14 = .ok (.iconst 0, 1) := by decide +kernel
theorem dL_close_15 : decode cL_close 15 = .ok (.ireturn, 1) := by decide +kernel
set_option maxRecDepth 20000 in
theorem ggL_fact_X1_fact : GoodIn wsL_fact wsX1_fact := goodIn_ca (goodIn_ca (goodIn_r _ [7, 8, 9, 10, 6, 11, 12, 13, 14, 15, 16, 17, 18, 19, 20, 21, 22, 23, 24, 25, 26, 27, 28, 29, 30, 31, 32, 33, 34] (by decide +kernel) (by decide +kernel)) (goodIn_sub (fun _ h => List.mem_cons_of_mem _ (List.mem_append_left _ (List.mem_append_right _ h))) (by decide +kernel))) (goodIn_sub (fun _ h => List.mem_cons_of_mem _ (List.mem_append_right _ h)) (by decide +kernel))
set_option maxRecDepth 20000 in
theorem gL_fact_X1_fact : GoodIn wsL_fact (wsV RL 34 RX1 yX1_fact wsX1_fact) := goodIn_app (goodIn_of _ (by decide +kernel)) ggL_fact_X1_fact
theorem dL_fact_0 : decode cL_fact 0 = .ok (.aload 4, 2) := by decide +kernel
theorem dL_fact_2 : decode cL_fact 2 = .ok (.iconst 0, 1) := by decide +kernel
theorem dL_fact_3 : decode cL_fact 3 = .ok (.aload_n 0, 1) := by decide +kernel
theorem dL_fact_4 : decode cL_fact 4 = .ok (.iload_n 1, 1) := by decide +kernel
theorem dL_fact_5 : decode cL_fact 5 = .ok (.iload_n 2, 1) := by decide +kernel
theorem dL_fact_6 : decode cL_fact 6 = .ok (.iload_n 3, 1) := by decide +kernel
theorem dL_fact_7 : decode cL_fact 7 = .ok (.invokevirtual 34, 3) := by decide +kernel
theorem dL_fact_10 : decode cL_fact 10 = .ok (.i2l, 1) := by decide +kernel
theorem dL_fact_11 : decode cL_fact 11 = .ok (.lastore, 1) := by decide +kernel
theorem dL_fact_12 : decode cL_fact 12 = .ok (.goto 11, 3) := by decide +kernel
theorem dL_fact_15 : decode cL_fact 15 = .ok (.astore 5, 2) := by decide +kernel
theorem dL_fact_17 : decode cL_fact 17 = .ok (.iconst 1, 1) := by decide +kernel
theorem dL_fact_18 : decode cL_fact 18 = .ok (.ireturn, 1) := by decide +kernel
theorem dL_fact_19 : decode cL_fact 19 = .ok (.astore 5, 2) := by decide +kernel
theorem dL_fact_21 : decode cL_fact 21 = .ok (.iconst 2, 1) := by decide +kernel
theorem dL_fact_22 : decode cL_fact 22 = .ok (.ireturn, 1) := by decide +kernel
theorem dL_fact_23 : decode cL_fact 23 = .ok (.iconst 0, 1) := by decide +kernel
theorem dL_fact_24 : decode cL_fact 24 = .ok (.ireturn, 1) := by decide +kernel
set_option maxRecDepth 20000 in
theorem ggL_need_X1_need : GoodIn wsL_need wsX1_need := goodIn_ca (goodIn_r _ [6, 7, 8, 9, 5, 10, 11, 12, 13, 14, 15, 16, 17, 18, 19, 20, 21, 22, 23, 24, 25, 26, 27, 28, 29, 30, 31, 32, 33, 34, 35, 36, 37, 38] (by decide +kernel) (by decide +kernel)) (goodIn_sub (fun _ h => List.mem_cons_of_mem _ (List.mem_append_right _ h)) (by decide +kernel))
set_option maxRecDepth 20000 in
theorem gL_need_X1_need : GoodIn wsL_need (wsV RL 38 RX1 yX1_need wsX1_need) := goodIn_app (goodIn_of _ (by decide +kernel)) ggL_need_X1_need
theorem dL_need_0 : decode cL_need 0 = .ok (.aload_n 3, 1) := by decide +kernel
theorem dL_need_1 : decode cL_need 1 = .ok (.iconst 0, 1) := by decide +kernel
theorem dL_need_2 : decode cL_need 2 = .ok (.aload_n 0, 1) := by decide +kernel
theorem dL_need_3 : decode cL_need 3 = .ok (.iload_n 1, 1) := by decide +kernel
theorem dL_need_4 : decode cL_need 4 = .ok (.iload_n 2, 1) := by decide +kernel
theorem dL_need_5 : decode cL_need 5 = .ok (.invokevirtual 38, 3) := by decide +kernel
theorem dL_need_8 : decode cL_need 8 = .ok (.i2l, 1) := by decide +kernel
theorem dL_need_9 : decode cL_need 9 = .ok (.lastore, 1) := by decide +kernel
theorem dL_need_10 : decode cL_need 10 = .ok (.goto 7, 3) := by decide +kernel
theorem dL_need_13 : decode cL_need 13 = .ok (.astore 4, 2) := by decide +kernel
theorem dL_need_15 : decode cL_need 15 = .ok (.iconst 1, 1) := by decide +kernel
theorem dL_need_16 : decode cL_need 16 = .ok (.ireturn, 1) := by decide +kernel
theorem dL_need_17 : decode cL_need 17 = .ok (.iconst 0, 1) := by decide +kernel
theorem dL_need_18 : decode cL_need 18 = .ok (.ireturn, 1) := by decide +kernel
set_option maxRecDepth 20000 in
theorem ggL_taper_X1_taper : GoodIn wsL_taper wsX1_taper := goodIn_ca (goodIn_r _ [6, 7, 8, 9, 5, 10, 11, 12, 13, 14, 15, 16, 17, 18, 19, 20, 21, 22, 23, 24, 25, 26, 27, 28, 29, 30, 31, 32, 33, 34, 35, 36, 37] (by decide +kernel) (by decide +kernel)) (goodIn_sub (fun _ h => List.mem_cons_of_mem _ (List.mem_append_right _ h)) (by decide +kernel))
set_option maxRecDepth 20000 in
theorem gL_taper_X1_taper : GoodIn wsL_taper (wsV RL 41 RX1 yX1_taper wsX1_taper) := goodIn_app (goodIn_of _ (by decide +kernel)) ggL_taper_X1_taper
theorem dL_taper_0 : decode cL_taper 0 = .ok (.aload_n 3, 1) := by decide +kernel
theorem dL_taper_1 : decode cL_taper 1 = .ok (.iconst 0, 1) := by decide +kernel
theorem dL_taper_2 : decode cL_taper 2 = .ok (.aload_n 0, 1) := by decide +kernel
theorem dL_taper_3 : decode cL_taper 3 = .ok (.iload_n 1, 1) := by decide +kernel
theorem dL_taper_4 : decode cL_taper 4 = .ok (.iload_n 2, 1) := by decide +kernel
theorem dL_taper_5 : decode cL_taper 5 = .ok (.invokevirtual 41, 3) := by decide +kernel
theorem dL_taper_8 : decode cL_taper 8 = .ok (.i2l, 1) := by decide +kernel
theorem dL_taper_9 : decode cL_taper 9 = .ok (.lastore, 1) := by decide +kernel
theorem dL_taper_10 : decode cL_taper 10 = .ok (.goto 7, 3) := by decide +kernel
theorem dL_taper_13 : decode cL_taper 13 = .ok (.astore 4, 2) := by decide +kernel
theorem dL_taper_15 : decode cL_taper 15 = .ok (.iconst 1, 1) := by decide +kernel
theorem dL_taper_16 : decode cL_taper 16 = .ok (.ireturn, 1) := by decide +kernel
theorem dL_taper_17 : decode cL_taper 17 = .ok (.iconst 0, 1) := by decide +kernel
theorem dL_taper_18 : decode cL_taper 18 = .ok (.ireturn, 1) := by decide +kernel
set_option maxRecDepth 20000 in
theorem ggL_tariff_X1_tariff : GoodIn wsL_tariff wsX1_tariff := goodIn_ca (goodIn_r _ [6, 7, 8, 9, 5, 10, 11, 12, 13, 14, 15, 16, 17, 18, 19, 20, 21, 22, 23, 24, 25, 26, 27, 28, 29, 30, 31, 32, 33, 34, 35, 36, 37, 38] (by decide +kernel) (by decide +kernel)) (goodIn_sub (fun _ h => List.mem_cons_of_mem _ (List.mem_append_right _ h)) (by decide +kernel))
set_option maxRecDepth 20000 in
theorem gL_tariff_X1_tariff : GoodIn wsL_tariff (wsV RL 44 RX1 yX1_tariff wsX1_tariff) := goodIn_app (goodIn_of _ (by decide +kernel)) ggL_tariff_X1_tariff
theorem dL_tariff_0 : decode cL_tariff 0 = .ok (.aload_n 3, 1) := by decide +kernel
theorem dL_tariff_1 : decode cL_tariff 1 = .ok (.iconst 0, 1) := by decide +kernel
theorem dL_tariff_2 : decode cL_tariff 2 = .ok (.aload_n 0, 1) := by decide +kernel
theorem dL_tariff_3 : decode cL_tariff 3 = .ok (.iload_n 1, 1) := by decide +kernel
theorem dL_tariff_4 : decode cL_tariff 4 = .ok (.iload_n 2, 1) := by decide +kernel
theorem dL_tariff_5 : decode cL_tariff 5 = .ok (.invokevirtual 44, 3) := by decide +kernel
theorem dL_tariff_8 : decode cL_tariff 8 = .ok (.i2l, 1) := by decide +kernel
theorem dL_tariff_9 : decode cL_tariff 9 = .ok (.lastore, 1) := by decide +kernel
theorem dL_tariff_10 : decode cL_tariff 10 = .ok (.goto 7, 3) := by decide +kernel
theorem dL_tariff_13 : decode cL_tariff 13 = .ok (.astore 4, 2) := by decide +kernel
theorem dL_tariff_15 : decode cL_tariff 15 = .ok (.iconst 1, 1) := by decide +kernel
theorem dL_tariff_16 : decode cL_tariff 16 = .ok (.ireturn, 1) := by decide +kernel
theorem dL_tariff_17 : decode cL_tariff 17 = .ok (.iconst 0, 1) := by decide +kernel
theorem dL_tariff_18 : decode cL_tariff 18 = .ok (.ireturn, 1) := by decide +kernel
set_option maxRecDepth 20000 in
theorem ggL_due_X1_due : GoodIn wsL_due wsX1_due := goodIn_ca (goodIn_r _ [6, 7, 8, 9, 5, 10, 11, 12, 13, 14, 15, 16, 17, 18, 19, 20, 21, 22, 23, 24, 25, 26, 27, 28, 29, 30, 31, 32, 33, 34, 35, 36, 37, 38, 39, 40, 41, 42, 43, 44, 45, 46, 47, 48, 49, 50, 51, 52, 53, 54, 55] (by decide +kernel) (by decide +kernel)) (goodIn_sub (fun _ h => List.mem_cons_of_mem _ (List.mem_append_right _ h)) (by decide +kernel))
set_option maxRecDepth 20000 in
theorem gL_due_X1_due : GoodIn wsL_due (wsV RL 47 RX1 yX1_due wsX1_due) := goodIn_app (goodIn_of _ (by decide +kernel)) ggL_due_X1_due
theorem dL_due_0 : decode cL_due 0 = .ok (.aload_n 3, 1) := by decide +kernel
theorem dL_due_1 : decode cL_due 1 = .ok (.iconst 0, 1) := by decide +kernel
theorem dL_due_2 : decode cL_due 2 = .ok (.aload_n 0, 1) := by decide +kernel
theorem dL_due_3 : decode cL_due 3 = .ok (.iload_n 1, 1) := by decide +kernel
theorem dL_due_4 : decode cL_due 4 = .ok (.iload_n 2, 1) := by decide +kernel
theorem dL_due_5 : decode cL_due 5 = .ok (.invokevirtual 47, 3) := by decide +kernel
theorem dL_due_8 : decode cL_due 8 = .ok (.i2l, 1) := by decide +kernel
theorem dL_due_9 : decode cL_due 9 = .ok (.lastore, 1) := by decide +kernel
theorem dL_due_10 : decode cL_due 10 = .ok (.goto 7, 3) := by decide +kernel
theorem dL_due_13 : decode cL_due 13 = .ok (.astore 4, 2) := by decide +kernel
theorem dL_due_15 : decode cL_due 15 = .ok (.iconst 1, 1) := by decide +kernel
theorem dL_due_16 : decode cL_due 16 = .ok (.ireturn, 1) := by decide +kernel
theorem dL_due_17 : decode cL_due 17 = .ok (.iconst 0, 1) := by decide +kernel
theorem dL_due_18 : decode cL_due 18 = .ok (.ireturn, 1) := by decide +kernel
set_option maxRecDepth 20000 in
theorem ggL_unassessed_X1_unassessed : GoodIn wsL_unassessed wsX1_unassessed := goodIn_ca (goodIn_r _ [6, 7, 8, 9, 10, 5, 11, 12, 13, 14, 15, 16, 17, 18, 19, 20, 21, 22, 23, 24, 25, 26, 27, 28, 29, 30, 31, 32, 33, 34, 35, 36, 37, 38, 39, 40, 41, 42, 43, 44, 45, 46, 47, 48, 49, 50, 51, 52, 53, 54, 55, 56, 57, 58, 59] (by decide +kernel) (by decide +kernel)) (goodIn_sub (fun _ h => List.mem_cons_of_mem _ (List.mem_append_right _ h)) (by decide +kernel))
set_option maxRecDepth 20000 in
theorem gL_unassessed_X1_unassessed : GoodIn wsL_unassessed (wsV RL 50 RX1 yX1_unassessed wsX1_unassessed) := goodIn_app (goodIn_of _ (by decide +kernel)) ggL_unassessed_X1_unassessed
theorem dL_unassessed_0 : decode cL_unassessed 0 = .ok (.aload_n 2, 1) := by decide +kernel
theorem dL_unassessed_1 : decode cL_unassessed 1 = .ok (.iconst 0, 1) := by decide +kernel
theorem dL_unassessed_2 : decode cL_unassessed 2 = .ok (.aload_n 0, 1) := by decide +kernel
theorem dL_unassessed_3 : decode cL_unassessed 3 = .ok (.iload_n 1, 1) := by decide +kernel
theorem dL_unassessed_4 : decode cL_unassessed 4 = .ok (.invokevirtual 50, 3) := by decide +kernel
theorem dL_unassessed_7 : decode cL_unassessed 7 = .ok (.i2l, 1) := by decide +kernel
theorem dL_unassessed_8 : decode cL_unassessed 8 = .ok (.lastore, 1) := by decide +kernel
theorem dL_unassessed_9 : decode cL_unassessed 9 = .ok (.goto 6, 3) := by decide +kernel
theorem dL_unassessed_12 : decode cL_unassessed 12 = .ok (.astore_n 3, 1) := by decide +kernel
theorem dL_unassessed_13 : decode cL_unassessed 13 = .ok (.iconst 1, 1) := by decide +kernel
theorem dL_unassessed_14 : decode cL_unassessed 14 = .ok (.ireturn, 1) := by decide +kernel
theorem dL_unassessed_15 : decode cL_unassessed 15 = .ok (.iconst 0, 1) := by decide +kernel
theorem dL_unassessed_16 : decode cL_unassessed 16 = .ok (.ireturn, 1) := by decide +kernel
set_option maxRecDepth 20000 in
theorem ggL_wouldPay_X1_wouldPay : GoodIn wsL_wouldPay wsX1_wouldPay := goodIn_ca (goodIn_r _ [6, 7, 8, 9, 10, 5, 11, 12, 13, 14, 15, 16, 17, 18, 19, 20, 21, 22, 23, 24, 25, 26, 27, 28, 29, 30, 31, 32, 33, 34, 35, 36, 37, 38, 39, 40, 41, 42, 43, 44, 45, 46, 47, 48, 49, 50, 51, 52, 53, 54, 55, 56, 57, 58, 59, 60, 61, 62, 63, 64, 65, 66, 67, 68, 69, 70, 71, 72, 73, 74, 75, 76, 77] (by decide +kernel) (by decide +kernel)) (goodIn_sub (fun _ h => List.mem_cons_of_mem _ (List.mem_append_right _ h)) (by decide +kernel))
set_option maxRecDepth 20000 in
theorem gL_wouldPay_X1_wouldPay : GoodIn wsL_wouldPay (wsV RL 54 RX1 yX1_wouldPay wsX1_wouldPay) := goodIn_app (goodIn_of _ (by decide +kernel)) ggL_wouldPay_X1_wouldPay
theorem dL_wouldPay_0 : decode cL_wouldPay 0 = .ok (.aload_n 2, 1) := by decide +kernel
theorem dL_wouldPay_1 : decode cL_wouldPay 1 = .ok (.iconst 0, 1) := by decide +kernel
theorem dL_wouldPay_2 : decode cL_wouldPay 2 = .ok (.aload_n 0, 1) := by decide +kernel
theorem dL_wouldPay_3 : decode cL_wouldPay 3 = .ok (.iload_n 1, 1) := by decide +kernel
theorem dL_wouldPay_4 : decode cL_wouldPay 4 = .ok (.invokevirtual 54, 3) := by decide +kernel
theorem dL_wouldPay_7 : decode cL_wouldPay 7 = .ok (.i2l, 1) := by decide +kernel
theorem dL_wouldPay_8 : decode cL_wouldPay 8 = .ok (.lastore, 1) := by decide +kernel
theorem dL_wouldPay_9 : decode cL_wouldPay 9 = .ok (.goto 6, 3) := by decide +kernel
theorem dL_wouldPay_12 : decode cL_wouldPay 12 = .ok (.astore_n 3, 1) := by decide +kernel
theorem dL_wouldPay_13 : decode cL_wouldPay 13 = .ok (.iconst 1, 1) := by decide +kernel
theorem dL_wouldPay_14 : decode cL_wouldPay 14 = .ok (.ireturn, 1) := by decide +kernel
theorem dL_wouldPay_15 : decode cL_wouldPay 15 = .ok (.iconst 0, 1) := by decide +kernel
theorem dL_wouldPay_16 : decode cL_wouldPay 16 = .ok (.ireturn, 1) := by decide +kernel
set_option maxRecDepth 20000 in
theorem ggL_assessed_X1_assessed : GoodIn wsL_assessed wsX1_assessed := goodIn_ca (goodIn_r _ [6, 7, 8, 9, 5, 10, 11, 12, 13, 14, 15, 16, 17, 18, 19, 20, 21, 22, 23, 24, 25, 26, 27, 28] (by decide +kernel) (by decide +kernel)) (goodIn_sub (fun _ h => List.mem_cons_of_mem _ (List.mem_append_right _ h)) (by decide +kernel))
set_option maxRecDepth 20000 in
theorem gL_assessed_X1_assessed : GoodIn wsL_assessed (wsV RL 57 RX1 yX1_assessed wsX1_assessed) := goodIn_app (goodIn_of _ (by decide +kernel)) ggL_assessed_X1_assessed
theorem dL_assessed_0 : decode cL_assessed 0 = .ok (.aload_n 3, 1) := by decide +kernel
theorem dL_assessed_1 : decode cL_assessed 1 = .ok (.iconst 0, 1) := by decide +kernel
theorem dL_assessed_2 : decode cL_assessed 2 = .ok (.aload_n 0, 1) := by decide +kernel
theorem dL_assessed_3 : decode cL_assessed 3 = .ok (.iload_n 1, 1) := by decide +kernel
theorem dL_assessed_4 : decode cL_assessed 4 = .ok (.iload_n 2, 1) := by decide +kernel
theorem dL_assessed_5 : decode cL_assessed 5 = .ok (.invokevirtual 57, 3) := by decide +kernel
theorem dL_assessed_8 : decode cL_assessed 8 = .ok (.i2l, 1) := by decide +kernel
theorem dL_assessed_9 : decode cL_assessed 9 = .ok (.lastore, 1) := by decide +kernel
theorem dL_assessed_10 : decode cL_assessed 10 = .ok (.goto 7, 3) := by decide +kernel
theorem dL_assessed_13 : decode cL_assessed 13 = .ok (.astore 4, 2) := by decide +kernel
theorem dL_assessed_15 : decode cL_assessed 15 = .ok (.iconst 1, 1) := by decide +kernel
theorem dL_assessed_16 : decode cL_assessed 16 = .ok (.ireturn, 1) := by decide +kernel
theorem dL_assessed_17 : decode cL_assessed 17 = .ok (.iconst 0, 1) := by decide +kernel
theorem dL_assessed_18 : decode cL_assessed 18 = .ok (.ireturn, 1) := by decide +kernel
set_option maxRecDepth 20000 in
theorem ggL_paid_X1_paid : GoodIn wsL_paid wsX1_paid := goodIn_ca (goodIn_r _ [6, 7, 8, 9, 5, 10, 11, 12, 13, 14, 15, 16, 17, 18, 19, 20, 21, 22, 23, 24, 25, 26, 27, 28] (by decide +kernel) (by decide +kernel)) (goodIn_sub (fun _ h => List.mem_cons_of_mem _ (List.mem_append_right _ h)) (by decide +kernel))
set_option maxRecDepth 20000 in
theorem gL_paid_X1_paid : GoodIn wsL_paid (wsV RL 60 RX1 yX1_paid wsX1_paid) := goodIn_app (goodIn_of _ (by decide +kernel)) ggL_paid_X1_paid
theorem dL_paid_0 : decode cL_paid 0 = .ok (.aload_n 3, 1) := by decide +kernel
theorem dL_paid_1 : decode cL_paid 1 = .ok (.iconst 0, 1) := by decide +kernel
theorem dL_paid_2 : decode cL_paid 2 = .ok (.aload_n 0, 1) := by decide +kernel
theorem dL_paid_3 : decode cL_paid 3 = .ok (.iload_n 1, 1) := by decide +kernel
theorem dL_paid_4 : decode cL_paid 4 = .ok (.iload_n 2, 1) := by decide +kernel
theorem dL_paid_5 : decode cL_paid 5 = .ok (.invokevirtual 60, 3) := by decide +kernel
theorem dL_paid_8 : decode cL_paid 8 = .ok (.i2l, 1) := by decide +kernel
theorem dL_paid_9 : decode cL_paid 9 = .ok (.lastore, 1) := by decide +kernel
theorem dL_paid_10 : decode cL_paid 10 = .ok (.goto 7, 3) := by decide +kernel
theorem dL_paid_13 : decode cL_paid 13 = .ok (.astore 4, 2) := by decide +kernel
theorem dL_paid_15 : decode cL_paid 15 = .ok (.iconst 1, 1) := by decide +kernel
theorem dL_paid_16 : decode cL_paid 16 = .ok (.ireturn, 1) := by decide +kernel
theorem dL_paid_17 : decode cL_paid 17 = .ok (.iconst 0, 1) := by decide +kernel
theorem dL_paid_18 : decode cL_paid 18 = .ok (.ireturn, 1) := by decide +kernel
set_option maxRecDepth 20000 in
theorem ggL_debt_X1_debt : GoodIn wsL_debt wsX1_debt := goodIn_ca (goodIn_r _ [6, 7, 8, 9, 5, 10, 11, 12, 13, 14, 15, 16, 17, 18, 19, 20, 21, 22, 23, 24, 25] (by decide +kernel) (by decide +kernel)) (goodIn_sub (fun _ h => List.mem_cons_of_mem _ (List.mem_append_right _ h)) (by decide +kernel))
set_option maxRecDepth 20000 in
theorem gL_debt_X1_debt : GoodIn wsL_debt (wsV RL 63 RX1 yX1_debt wsX1_debt) := goodIn_app (goodIn_of _ (by decide +kernel)) ggL_debt_X1_debt
theorem dL_debt_0 : decode cL_debt 0 = .ok (.aload_n 2, 1) := by decide +kernel
theorem dL_debt_1 : decode cL_debt 1 = .ok (.iconst 0, 1) := by decide +kernel
theorem dL_debt_2 : decode cL_debt 2 = .ok (.aload_n 0, 1) := by decide +kernel
theorem dL_debt_3 : decode cL_debt 3 = .ok (.iload_n 1, 1) := by decide +kernel
theorem dL_debt_4 : decode cL_debt 4 = .ok (.invokevirtual 63, 3) := by decide +kernel
theorem dL_debt_7 : decode cL_debt 7 = .ok (.i2l, 1) := by decide +kernel
theorem dL_debt_8 : decode cL_debt 8 = .ok (.lastore, 1) := by decide +kernel
theorem dL_debt_9 : decode cL_debt 9 = .ok (.goto 6, 3) := by decide +kernel
theorem dL_debt_12 : decode cL_debt 12 = .ok (.astore_n 3, 1) := by decide +kernel
theorem dL_debt_13 : decode cL_debt 13 = .ok (.iconst 1, 1) := by decide +kernel
theorem dL_debt_14 : decode cL_debt 14 = .ok (.ireturn, 1) := by decide +kernel
theorem dL_debt_15 : decode cL_debt 15 = .ok (.iconst 0, 1) := by decide +kernel
theorem dL_debt_16 : decode cL_debt 16 = .ok (.ireturn, 1) := by decide +kernel
set_option maxRecDepth 20000 in
theorem ggL_recovered_X1_recovered : GoodIn wsL_recovered wsX1_recovered := goodIn_ca (goodIn_r _ [6, 7, 8, 9, 5, 10, 11, 12, 13, 14, 15, 16, 17, 18, 19, 20, 21, 22, 23, 24, 25] (by decide +kernel) (by decide +kernel)) (goodIn_sub (fun _ h => List.mem_cons_of_mem _ (List.mem_append_right _ h)) (by decide +kernel))
set_option maxRecDepth 20000 in
theorem gL_recovered_X1_recovered : GoodIn wsL_recovered (wsV RL 66 RX1 yX1_recovered wsX1_recovered) := goodIn_app (goodIn_of _ (by decide +kernel)) ggL_recovered_X1_recovered
theorem dL_recovered_0 : decode cL_recovered 0 = .ok (.aload_n 2, 1) := by decide +kernel
theorem dL_recovered_1 : decode cL_recovered 1 = .ok (.iconst 0, 1) := by decide +kernel
theorem dL_recovered_2 : decode cL_recovered 2 = .ok (.aload_n 0, 1) := by decide +kernel
theorem dL_recovered_3 : decode cL_recovered 3 = .ok (.iload_n 1, 1) := by decide +kernel
theorem dL_recovered_4 : decode cL_recovered 4 = .ok (.invokevirtual 66, 3) := by decide +kernel
theorem dL_recovered_7 : decode cL_recovered 7 = .ok (.i2l, 1) := by decide +kernel
theorem dL_recovered_8 : decode cL_recovered 8 = .ok (.lastore, 1) := by decide +kernel
theorem dL_recovered_9 : decode cL_recovered 9 = .ok (.goto 6, 3) := by decide +kernel
theorem dL_recovered_12 : decode cL_recovered 12 = .ok (.astore_n 3, 1) := by decide +kernel
theorem dL_recovered_13 : decode cL_recovered 13 = .ok (.iconst 1, 1) := by decide +kernel
theorem dL_recovered_14 : decode cL_recovered 14 = .ok (.ireturn, 1) := by decide +kernel
theorem dL_recovered_15 : decode cL_recovered 15 = .ok (.iconst 0, 1) := by decide +kernel
theorem dL_recovered_16 : decode cL_recovered 16 = .ok (.ireturn, 1) := by decide +kernel
set_option maxRecDepth 20000 in
theorem ggL_law_X1_init : GoodIn wsL_law wsX1_init := goodIn_r _ [9, 10, 11, 12, 13, 14, 15, 16, 389, 390, 391] (by decide +kernel) (by decide +kernel)
set_option maxRecDepth 20000 in
theorem gL_law_X1_init : GoodIn wsL_law (wsX1_init) := ggL_law_X1_init
set_option maxRecDepth 20000 in
theorem ggL_law_X2_init : GoodIn wsL_law wsX2_init := goodIn_r _ [19, 20, 11, 12, 21, 22, 23, 24, 25, 26, 27, 28, 29, 30, 31, 32, 392, 393, 394, 395, 396, 397, 398, 399, 400, 401, 402, 403, 404, 405, 406, 407] (by decide +kernel) (by decide +kernel)
set_option maxRecDepth 20000 in
theorem gL_law_X2_init : GoodIn wsL_law (wsX2_init) := ggL_law_X2_init
set_option maxRecDepth 20000 in
theorem ggL_law_L_add : GoodIn wsL_law wsL_add := goodIn_ca (goodIn_r _ [36, 37, 38, 39, 40, 2, 41, 42, 43, 15, 14, 16, 13, 44, 45, 46, 47, 48, 11, 12, 49, 50, 21, 51, 52, 53, 54, 389, 390, 391, 408, 409, 410, 411, 412, 413, 414, 415, 416] (by decide +kernel) (by decide +kernel)) (goodIn_sub (fun _ h => List.mem_append_left _ (List.mem_append_left _ (List.mem_append_right _ h))) (by decide +kernel))
set_option maxRecDepth 20000 in
theorem gL_law_L_add : GoodIn wsL_law (va_wsS RL 73 yL_add wsL_add) := goodIn_app (goodIn_of _ (by decide +kernel)) ggL_law_L_add
set_option maxRecDepth 20000 in
theorem ggL_law_X2_add : GoodIn wsL_law wsX2_add := goodIn_r _ [58, 59, 60, 61, 22, 62, 63, 64, 5, 65, 392, 393, 394, 395, 396, 397, 398, 399, 400, 401, 402, 403, 404, 405, 406, 407] (by decide +kernel) (by decide +kernel)
set_option maxRecDepth 20000 in
theorem gL_law_X2_add : GoodIn wsL_law (wsV RL 78 RX2 yX2_add wsX2_add) := goodIn_app (goodIn_of _ (by decide +kernel)) ggL_law_X2_add
set_option maxRecDepth 20000 in
theorem ggL_law_X2_thrown : GoodIn wsL_law wsX2_thrown := goodIn_r _ [69, 59, 392, 393, 394, 395, 396, 397, 398, 399, 400, 401, 402, 403, 404, 405, 406, 407] (by decide +kernel) (by decide +kernel)
set_option maxRecDepth 20000 in
theorem gL_law_X2_thrown : GoodIn wsL_law (wsV RL 79 RX2 yX2_thrown wsX2_thrown) := goodIn_app (goodIn_of _ (by decide +kernel)) ggL_law_X2_thrown
set_option maxRecDepth 20000 in
theorem ggL_law_L_tell : GoodIn wsL_law wsL_tell := goodIn_ca (goodIn_ca (goodIn_ca (goodIn_r _ [72, 73, 74, 37, 75, 76, 77, 2, 78, 79, 80, 42, 43, 81, 82, 83, 84, 85, 86, 87, 88, 14, 89, 90, 91, 92, 93, 94, 95, 45, 96, 97, 98, 52, 51, 408, 409, 410, 411, 412, 413, 414, 415, 416, 389, 390, 391] (by decide +kernel) (by decide +kernel)) (goodIn_sub (fun _ h => List.mem_append_left _ (List.mem_append_right _ h)) (by decide +kernel))) (goodIn_sub (fun _ h => List.mem_append_left _ (List.mem_append_left _ (List.mem_append_right _ h))) (by decide +kernel))) (goodIn_sub (fun _ h => List.mem_append_right _ h) (by decide +kernel))
set_option maxRecDepth 20000 in
theorem gL_law_L_tell : GoodIn wsL_law (va_wsS RL 82 yL_tell wsL_tell) := goodIn_app (goodIn_of _ (by decide +kernel)) ggL_law_L_tell
set_option maxRecDepth 20000 in
theorem ggL_law_X2_tell : GoodIn wsL_law wsX2_tell := goodIn_r _ [102, 59, 23, 24, 25, 26, 103, 104, 105, 5, 106, 60, 107, 108, 109, 62, 63, 64, 65, 110, 111, 112, 113, 114, 115, 116, 117, 392, 393, 394, 395, 396, 397, 398, 399, 400, 401, 402, 403, 404, 405, 406, 407] (by decide +kernel) (by decide +kernel)
set_option maxRecDepth 20000 in
theorem gL_law_X2_tell : GoodIn wsL_law (wsV RL 85 RX2 yX2_tell wsX2_tell) := goodIn_app (goodIn_of _ (by decide +kernel)) ggL_law_X2_tell
set_option maxRecDepth 20000 in
theorem ggL_law_L_dispute : GoodIn wsL_law wsL_dispute := goodIn_ca (goodIn_r _ [120, 73, 121, 122, 123, 2, 124, 83, 84, 85, 86, 87, 88, 14, 408, 409, 410, 411, 412, 413, 414, 415, 416, 389, 390, 391] (by decide +kernel) (by decide +kernel)) (goodIn_sub (fun _ h => List.mem_append_right _ h) (by decide +kernel))
set_option maxRecDepth 20000 in
theorem gL_law_L_dispute : GoodIn wsL_law (va_wsS RL 86 yL_dispute wsL_dispute) := goodIn_app (goodIn_of _ (by decide +kernel)) ggL_law_L_dispute
set_option maxRecDepth 20000 in
theorem ggL_law_X2_dispute : GoodIn wsL_law wsX2_dispute := goodIn_r _ [128, 59, 32, 103, 104, 105, 5, 106, 60, 107, 108, 109, 392, 393, 394, 395, 396, 397, 398, 399, 400, 401, 402, 403, 404, 405, 406, 407] (by decide +kernel) (by decide +kernel)
set_option maxRecDepth 20000 in
theorem gL_law_X2_dispute : GoodIn wsL_law (wsV RL 89 RX2 yX2_dispute wsX2_dispute) := goodIn_app (goodIn_of _ (by decide +kernel)) ggL_law_X2_dispute
set_option maxRecDepth 20000 in
theorem ggL_law_L_payBack : GoodIn wsL_law wsL_payBack := goodIn_ca (goodIn_ca (goodIn_ca (goodIn_r _ [131, 73, 74, 37, 132, 133, 134, 2, 135, 79, 80, 42, 43, 136, 83, 84, 85, 86, 87, 88, 14, 137, 45, 138, 139, 140, 141, 408, 409, 410, 411, 412, 413, 414, 415, 416, 389, 390, 391] (by decide +kernel) (by decide +kernel)) (goodIn_sub (fun _ h => List.mem_append_left _ (List.mem_append_right _ h)) (by decide +kernel))) (goodIn_sub (fun _ h => List.mem_append_left _ (List.mem_append_left _ (List.mem_append_right _ h))) (by decide +kernel))) (goodIn_sub (fun _ h => List.mem_append_right _ h) (by decide +kernel))
set_option maxRecDepth 20000 in
theorem gL_law_L_payBack : GoodIn wsL_law (va_wsS RL 90 yL_payBack wsL_payBack) := goodIn_app (goodIn_of _ (by decide +kernel)) ggL_law_L_payBack
set_option maxRecDepth 20000 in
theorem ggL_law_X2_payBack : GoodIn wsL_law wsX2_payBack := goodIn_r _ [145, 59, 117, 29, 30, 103, 104, 105, 5, 106, 60, 107, 108, 109, 62, 63, 64, 65, 392, 393, 394, 395, 396, 397, 398, 399, 400, 401, 402, 403, 404, 405, 406, 407] (by decide +kernel) (by decide +kernel)
set_option maxRecDepth 20000 in
theorem gL_law_X2_payBack : GoodIn wsL_law (wsV RL 93 RX2 yX2_payBack wsX2_payBack) := goodIn_app (goodIn_of _ (by decide +kernel)) ggL_law_X2_payBack
set_option maxRecDepth 20000 in
theorem ggL_law_X1_households : GoodIn wsL_law wsX1_households := goodIn_r _ [149, 15, 389, 390, 391] (by decide +kernel) (by decide +kernel)
set_option maxRecDepth 20000 in
theorem gL_law_X1_households : GoodIn wsL_law (wsV RL 94 RX1 yX1_households wsX1_households) := goodIn_app (goodIn_of _ (by decide +kernel)) ggL_law_X1_households
set_option maxRecDepth 20000 in
theorem ggL_law_X2_households : GoodIn wsL_law wsX2_households := goodIn_r _ [153, 59, 60, 392, 393, 394, 395, 396, 397, 398, 399, 400, 401, 402, 403, 404, 405, 406, 407] (by decide +kernel) (by decide +kernel)
set_option maxRecDepth 20000 in
theorem gL_law_X2_households : GoodIn wsL_law (wsV RL 97 RX2 yX2_households wsX2_households) := goodIn_app (goodIn_of _ (by decide +kernel)) ggL_law_X2_households
set_option maxRecDepth 20000 in
theorem ggL_law_L_close : GoodIn wsL_law wsL_close := goodIn_ca (goodIn_r _ [156, 37, 157, 158, 159, 2, 160, 42, 43, 16, 14, 161, 45, 162, 163, 140, 49, 53, 54, 164, 165, 166, 167, 168, 169, 170, 171, 172, 173, 174, 175, 51, 176, 177, 178, 179, 180, 181, 182, 183, 184, 185, 186, 187, 188, 189, 190, 191, 192, 193, 194, 195, 196, 197, 198, 199, 200, 201, 202, 203, 204, 205, 206, 207, 208, 209, 210, 211, 137, 138, 139, 141, 389, 390, 391, 408, 409, 410, 411, 412, 413, 414, 415, 416] (by decide +kernel) (by decide +kernel)) (goodIn_sub (fun _ h => List.mem_append_left _ (List.mem_append_left _ (List.mem_append_right _ h))) (by decide +kernel))
set_option maxRecDepth 20000 in
theorem gL_law_L_close : GoodIn wsL_law (va_wsS RL 98 yL_close wsL_close) := goodIn_app (goodIn_of _ (by decide +kernel)) ggL_law_L_close
set_option maxRecDepth 20000 in
theorem ggL_law_X2_close : GoodIn wsL_law wsX2_close := goodIn_r _ [215, 59, 61, 60, 29, 216, 217, 30, 28, 218, 22, 27, 62, 63, 64, 5, 65, 219, 220, 221, 222, 32, 223, 224, 225, 226, 227, 228, 229, 230, 231, 232, 233, 234, 235, 236, 237, 238, 239, 240, 23, 24, 25, 26, 110, 111, 112, 241, 242, 243, 244, 245, 246, 247, 248, 249, 250, 251, 252, 392, 393, 394, 395, 396, 397, 398, 399, 400, 401, 402, 403, 404, 405, 406, 407] (by decide +kernel) (by decide +kernel)
set_option maxRecDepth 20000 in
theorem gL_law_X2_close : GoodIn wsL_law (wsV RL 100 RX2 yX2_close wsX2_close) := goodIn_app (goodIn_of _ (by decide +kernel)) ggL_law_X2_close
set_option maxRecDepth 20000 in
theorem ggL_law_X1_month : GoodIn wsL_law wsX1_month := goodIn_r _ [256, 16, 389, 390, 391] (by decide +kernel) (by decide +kernel)
set_option maxRecDepth 20000 in
theorem gL_law_X1_month : GoodIn wsL_law (wsV RL 101 RX1 yX1_month wsX1_month) := goodIn_app (goodIn_of _ (by decide +kernel)) ggL_law_X1_month
set_option maxRecDepth 20000 in
theorem ggL_law_X2_month : GoodIn wsL_law wsX2_month := goodIn_r _ [260, 59, 61, 392, 393, 394, 395, 396, 397, 398, 399, 400, 401, 402, 403, 404, 405, 406, 407] (by decide +kernel) (by decide +kernel)
set_option maxRecDepth 20000 in
theorem gL_law_X2_month : GoodIn wsL_law (wsV RL 104 RX2 yX2_month wsX2_month) := goodIn_app (goodIn_of _ (by decide +kernel)) ggL_law_X2_month
set_option maxRecDepth 20000 in
theorem ggL_law_L_fact : GoodIn wsL_law wsL_fact := goodIn_ca (goodIn_ca (goodIn_r _ [263, 73, 74, 264, 265, 266, 2, 267, 83, 84, 85, 86, 87, 88, 14, 268, 269, 270, 89, 90, 91, 79, 80, 408, 409, 410, 411, 412, 413, 414, 415, 416, 389, 390, 391] (by decide +kernel) (by decide +kernel)) (goodIn_sub (fun _ h => List.mem_append_right _ h) (by decide +kernel))) (goodIn_sub (fun _ h => List.mem_append_left _ (List.mem_append_right _ h)) (by decide +kernel))
set_option maxRecDepth 20000 in
theorem gL_law_L_fact : GoodIn wsL_law (va_wsS RL 105 yL_fact wsL_fact) := goodIn_app (goodIn_of _ (by decide +kernel)) ggL_law_L_fact
set_option maxRecDepth 20000 in
theorem ggL_law_X2_fact : GoodIn wsL_law wsX2_fact := goodIn_r _ [274, 275, 276, 277, 5, 278, 59, 103, 104, 105, 106, 60, 107, 108, 109, 237, 238, 239, 240, 23, 24, 25, 26, 110, 111, 112, 62, 63, 64, 65, 392, 393, 394, 395, 396, 397, 398, 399, 400, 401, 402, 403, 404, 405, 406, 407] (by decide +kernel) (by decide +kernel)
set_option maxRecDepth 20000 in
theorem gL_law_X2_fact : GoodIn wsL_law (wsV RL 108 RX2 yX2_fact wsX2_fact) := goodIn_app (goodIn_of _ (by decide +kernel)) ggL_law_X2_fact
set_option maxRecDepth 20000 in
theorem ggL_law_L_need : GoodIn wsL_law wsL_need := goodIn_ca (goodIn_r _ [281, 73, 282, 283, 284, 2, 285, 83, 84, 85, 86, 87, 88, 14, 268, 269, 270, 178, 45, 179, 180, 51, 181, 182, 183, 184, 185, 389, 390, 391, 408, 409, 410, 411, 412, 413, 414, 415, 416] (by decide +kernel) (by decide +kernel)) (goodIn_sub (fun _ h => List.mem_append_right _ h) (by decide +kernel))
set_option maxRecDepth 20000 in
theorem gL_law_L_need : GoodIn wsL_law (va_wsS RL 109 yL_need wsL_need) := goodIn_app (goodIn_of _ (by decide +kernel)) ggL_law_L_need
set_option maxRecDepth 20000 in
theorem ggL_law_X2_need : GoodIn wsL_law wsX2_need := goodIn_r _ [289, 275, 276, 277, 5, 278, 59, 103, 104, 105, 106, 60, 107, 108, 109, 232, 233, 234, 235, 236, 237, 238, 239, 240, 23, 24, 25, 26, 110, 111, 112, 392, 393, 394, 395, 396, 397, 398, 399, 400, 401, 402, 403, 404, 405, 406, 407] (by decide +kernel) (by decide +kernel)
set_option maxRecDepth 20000 in
theorem gL_law_X2_need : GoodIn wsL_law (wsV RL 111 RX2 yX2_need wsX2_need) := goodIn_app (goodIn_of _ (by decide +kernel)) ggL_law_X2_need
set_option maxRecDepth 20000 in
theorem ggL_law_L_taper : GoodIn wsL_law wsL_taper := goodIn_ca (goodIn_r _ [292, 73, 293, 294, 295, 2, 296, 83, 84, 85, 86, 87, 88, 14, 268, 269, 270, 187, 45, 188, 189, 51, 190, 191, 184, 192, 389, 390, 391, 408, 409, 410, 411, 412, 413, 414, 415, 416] (by decide +kernel) (by decide +kernel)) (goodIn_sub (fun _ h => List.mem_append_right _ h) (by decide +kernel))
set_option maxRecDepth 20000 in
theorem gL_law_L_taper : GoodIn wsL_law (va_wsS RL 112 yL_taper wsL_taper) := goodIn_app (goodIn_of _ (by decide +kernel)) ggL_law_L_taper
set_option maxRecDepth 20000 in
theorem ggL_law_X2_taper : GoodIn wsL_law wsX2_taper := goodIn_r _ [300, 275, 276, 277, 5, 278, 59, 103, 104, 105, 106, 60, 107, 108, 109, 241, 242, 243, 244, 237, 238, 239, 240, 23, 24, 25, 26, 110, 111, 112, 392, 393, 394, 395, 396, 397, 398, 399, 400, 401, 402, 403, 404, 405, 406, 407] (by decide +kernel) (by decide +kernel)
set_option maxRecDepth 20000 in
theorem gL_law_X2_taper : GoodIn wsL_law (wsV RL 114 RX2 yX2_taper wsX2_taper) := goodIn_app (goodIn_of _ (by decide +kernel)) ggL_law_X2_taper
set_option maxRecDepth 20000 in
theorem ggL_law_L_tariff : GoodIn wsL_law wsL_tariff := goodIn_ca (goodIn_r _ [303, 73, 304, 305, 306, 2, 307, 83, 84, 85, 86, 87, 88, 14, 268, 269, 270, 194, 45, 195, 196, 51, 197, 190, 191, 184, 192, 389, 390, 391, 408, 409, 410, 411, 412, 413, 414, 415, 416] (by decide +kernel) (by decide +kernel)) (goodIn_sub (fun _ h => List.mem_append_right _ h) (by decide +kernel))
set_option maxRecDepth 20000 in
theorem gL_law_L_tariff : GoodIn wsL_law (va_wsS RL 115 yL_tariff wsL_tariff) := goodIn_app (goodIn_of _ (by decide +kernel)) ggL_law_L_tariff
set_option maxRecDepth 20000 in
theorem ggL_law_X2_tariff : GoodIn wsL_law wsX2_tariff := goodIn_r _ [311, 275, 276, 277, 5, 278, 59, 103, 104, 105, 106, 60, 107, 108, 109, 245, 246, 247, 248, 249, 237, 238, 239, 240, 23, 24, 25, 26, 110, 111, 112, 392, 393, 394, 395, 396, 397, 398, 399, 400, 401, 402, 403, 404, 405, 406, 407] (by decide +kernel) (by decide +kernel)
set_option maxRecDepth 20000 in
theorem gL_law_X2_tariff : GoodIn wsL_law (wsV RL 117 RX2 yX2_tariff wsX2_tariff) := goodIn_app (goodIn_of _ (by decide +kernel)) ggL_law_X2_tariff
set_option maxRecDepth 20000 in
theorem ggL_law_L_due : GoodIn wsL_law wsL_due := goodIn_ca (goodIn_r _ [314, 73, 315, 316, 317, 2, 318, 83, 84, 85, 86, 87, 88, 14, 268, 269, 270, 173, 45, 174, 175, 51, 176, 177, 178, 179, 180, 181, 182, 183, 184, 185, 186, 187, 188, 189, 190, 191, 192, 193, 194, 195, 196, 197, 389, 390, 391, 408, 409, 410, 411, 412, 413, 414, 415, 416] (by decide +kernel) (by decide +kernel)) (goodIn_sub (fun _ h => List.mem_append_right _ h) (by decide +kernel))
set_option maxRecDepth 20000 in
theorem gL_law_L_due : GoodIn wsL_law (va_wsS RL 118 yL_due wsL_due) := goodIn_app (goodIn_of _ (by decide +kernel)) ggL_law_L_due
set_option maxRecDepth 20000 in
theorem ggL_law_X2_due : GoodIn wsL_law wsX2_due := goodIn_r _ [322, 275, 276, 277, 5, 278, 59, 103, 104, 105, 106, 60, 107, 108, 109, 227, 228, 229, 230, 231, 232, 233, 234, 235, 236, 237, 238, 239, 240, 23, 24, 25, 26, 110, 111, 112, 241, 242, 243, 244, 245, 246, 247, 248, 249, 392, 393, 394, 395, 396, 397, 398, 399, 400, 401, 402, 403, 404, 405, 406, 407] (by decide +kernel) (by decide +kernel)
set_option maxRecDepth 20000 in
theorem gL_law_X2_due : GoodIn wsL_law (wsV RL 120 RX2 yX2_due wsX2_due) := goodIn_app (goodIn_of _ (by decide +kernel)) ggL_law_X2_due
set_option maxRecDepth 20000 in
theorem ggL_law_L_unassessed : GoodIn wsL_law wsL_unassessed := goodIn_ca (goodIn_r _ [325, 73, 326, 327, 328, 2, 329, 16, 83, 84, 85, 86, 87, 88, 14, 169, 45, 170, 171, 49, 53, 172, 173, 174, 175, 51, 176, 177, 178, 179, 180, 181, 182, 183, 184, 185, 186, 187, 188, 189, 190, 191, 192, 193, 194, 195, 196, 197, 389, 390, 391, 408, 409, 410, 411, 412, 413, 414, 415, 416] (by decide +kernel) (by decide +kernel)) (goodIn_sub (fun _ h => List.mem_append_right _ h) (by decide +kernel))
set_option maxRecDepth 20000 in
theorem gL_law_L_unassessed : GoodIn wsL_law (va_wsS RL 121 yL_unassessed wsL_unassessed) := goodIn_app (goodIn_of _ (by decide +kernel)) ggL_law_L_unassessed
set_option maxRecDepth 20000 in
theorem ggL_law_X2_unassessed : GoodIn wsL_law wsX2_unassessed := goodIn_r _ [333, 59, 103, 104, 105, 5, 106, 60, 107, 108, 109, 223, 224, 225, 226, 22, 61, 27, 227, 228, 229, 230, 231, 232, 233, 234, 235, 236, 237, 238, 239, 240, 23, 24, 25, 26, 110, 111, 112, 241, 242, 243, 244, 245, 246, 247, 248, 249, 62, 63, 64, 65, 392, 393, 394, 395, 396, 397, 398, 399, 400, 401, 402, 403, 404, 405, 406, 407] (by decide +kernel) (by decide +kernel)
set_option maxRecDepth 20000 in
theorem gL_law_X2_unassessed : GoodIn wsL_law (wsV RL 124 RX2 yX2_unassessed wsX2_unassessed) := goodIn_app (goodIn_of _ (by decide +kernel)) ggL_law_X2_unassessed
set_option maxRecDepth 20000 in
theorem ggL_law_L_wouldPay : GoodIn wsL_law wsL_wouldPay := goodIn_ca (goodIn_r _ [336, 73, 337, 338, 339, 2, 340, 16, 83, 84, 85, 86, 87, 88, 14, 165, 45, 166, 167, 168, 169, 170, 171, 49, 53, 172, 173, 174, 175, 51, 176, 177, 178, 179, 180, 181, 182, 183, 184, 185, 186, 187, 188, 189, 190, 191, 192, 193, 194, 195, 196, 197, 198, 199, 200, 201, 140, 202, 203, 204, 205, 206, 207, 208, 209, 210, 389, 390, 391, 408, 409, 410, 411, 412, 413, 414, 415, 416] (by decide +kernel) (by decide +kernel)) (goodIn_sub (fun _ h => List.mem_append_right _ h) (by decide +kernel))
set_option maxRecDepth 20000 in
theorem gL_law_L_wouldPay : GoodIn wsL_law (va_wsS RL 125 yL_wouldPay wsL_wouldPay) := goodIn_app (goodIn_of _ (by decide +kernel)) ggL_law_L_wouldPay
set_option maxRecDepth 20000 in
theorem ggL_law_X2_wouldPay : GoodIn wsL_law wsX2_wouldPay := goodIn_r _ [344, 59, 61, 218, 103, 104, 105, 5, 106, 60, 107, 108, 109, 62, 63, 64, 65, 219, 220, 221, 222, 29, 216, 32, 217, 223, 224, 225, 226, 22, 27, 227, 228, 229, 230, 231, 232, 233, 234, 235, 236, 237, 238, 239, 240, 23, 24, 25, 26, 110, 111, 112, 241, 242, 243, 244, 245, 246, 247, 248, 249, 250, 251, 252, 392, 393, 394, 395, 396, 397, 398, 399, 400, 401, 402, 403, 404, 405, 406, 407] (by decide +kernel) (by decide +kernel)
set_option maxRecDepth 20000 in
theorem gL_law_X2_wouldPay : GoodIn wsL_law (wsV RL 127 RX2 yX2_wouldPay wsX2_wouldPay) := goodIn_app (goodIn_of _ (by decide +kernel)) ggL_law_X2_wouldPay
set_option maxRecDepth 20000 in
theorem ggL_law_L_assessed : GoodIn wsL_law wsL_assessed := goodIn_ca (goodIn_r _ [347, 73, 348, 349, 350, 2, 351, 83, 84, 85, 86, 87, 88, 14, 268, 269, 270, 408, 409, 410, 411, 412, 413, 414, 415, 416, 389, 390, 391] (by decide +kernel) (by decide +kernel)) (goodIn_sub (fun _ h => List.mem_append_right _ h) (by decide +kernel))
set_option maxRecDepth 20000 in
theorem gL_law_L_assessed : GoodIn wsL_law (va_wsS RL 128 yL_assessed wsL_assessed) := goodIn_app (goodIn_of _ (by decide +kernel)) ggL_law_L_assessed
set_option maxRecDepth 20000 in
theorem ggL_law_X2_assessed : GoodIn wsL_law wsX2_assessed := goodIn_r _ [355, 27, 275, 276, 277, 5, 278, 59, 103, 104, 105, 106, 60, 107, 108, 109, 392, 393, 394, 395, 396, 397, 398, 399, 400, 401, 402, 403, 404, 405, 406, 407] (by decide +kernel) (by decide +kernel)
set_option maxRecDepth 20000 in
theorem gL_law_X2_assessed : GoodIn wsL_law (wsV RL 130 RX2 yX2_assessed wsX2_assessed) := goodIn_app (goodIn_of _ (by decide +kernel)) ggL_law_X2_assessed
set_option maxRecDepth 20000 in
theorem ggL_law_L_paid : GoodIn wsL_law wsL_paid := goodIn_ca (goodIn_r _ [358, 73, 359, 360, 361, 2, 362, 83, 84, 85, 86, 87, 88, 14, 268, 269, 270, 408, 409, 410, 411, 412, 413, 414, 415, 416, 389, 390, 391] (by decide +kernel) (by decide +kernel)) (goodIn_sub (fun _ h => List.mem_append_right _ h) (by decide +kernel))
set_option maxRecDepth 20000 in
theorem gL_law_L_paid : GoodIn wsL_law (va_wsS RL 131 yL_paid wsL_paid) := goodIn_app (goodIn_of _ (by decide +kernel)) ggL_law_L_paid
set_option maxRecDepth 20000 in
theorem ggL_law_X2_paid : GoodIn wsL_law wsX2_paid := goodIn_r _ [366, 28, 275, 276, 277, 5, 278, 59, 103, 104, 105, 106, 60, 107, 108, 109, 392, 393, 394, 395, 396, 397, 398, 399, 400, 401, 402, 403, 404, 405, 406, 407] (by decide +kernel) (by decide +kernel)
set_option maxRecDepth 20000 in
theorem gL_law_X2_paid : GoodIn wsL_law (wsV RL 133 RX2 yX2_paid wsX2_paid) := goodIn_app (goodIn_of _ (by decide +kernel)) ggL_law_X2_paid
set_option maxRecDepth 20000 in
theorem ggL_law_L_debt : GoodIn wsL_law wsL_debt := goodIn_ca (goodIn_r _ [369, 73, 370, 371, 372, 2, 373, 83, 84, 85, 86, 87, 88, 14, 408, 409, 410, 411, 412, 413, 414, 415, 416, 389, 390, 391] (by decide +kernel) (by decide +kernel)) (goodIn_sub (fun _ h => List.mem_append_right _ h) (by decide +kernel))
set_option maxRecDepth 20000 in
theorem gL_law_L_debt : GoodIn wsL_law (va_wsS RL 134 yL_debt wsL_debt) := goodIn_app (goodIn_of _ (by decide +kernel)) ggL_law_L_debt
set_option maxRecDepth 20000 in
theorem ggL_law_X2_debt : GoodIn wsL_law wsX2_debt := goodIn_r _ [377, 59, 29, 103, 104, 105, 5, 106, 60, 107, 108, 109, 62, 63, 64, 65, 392, 393, 394, 395, 396, 397, 398, 399, 400, 401, 402, 403, 404, 405, 406, 407] (by decide +kernel) (by decide +kernel)
set_option maxRecDepth 20000 in
theorem gL_law_X2_debt : GoodIn wsL_law (wsV RL 136 RX2 yX2_debt wsX2_debt) := goodIn_app (goodIn_of _ (by decide +kernel)) ggL_law_X2_debt
set_option maxRecDepth 20000 in
theorem ggL_law_L_recovered : GoodIn wsL_law wsL_recovered := goodIn_ca (goodIn_r _ [380, 73, 381, 382, 383, 2, 384, 83, 84, 85, 86, 87, 88, 14, 408, 409, 410, 411, 412, 413, 414, 415, 416, 389, 390, 391] (by decide +kernel) (by decide +kernel)) (goodIn_sub (fun _ h => List.mem_append_right _ h) (by decide +kernel))
set_option maxRecDepth 20000 in
theorem gL_law_L_recovered : GoodIn wsL_law (va_wsS RL 137 yL_recovered wsL_recovered) := goodIn_app (goodIn_of _ (by decide +kernel)) ggL_law_L_recovered
set_option maxRecDepth 20000 in
theorem ggL_law_X2_recovered : GoodIn wsL_law wsX2_recovered := goodIn_r _ [388, 59, 30, 103, 104, 105, 5, 106, 60, 107, 108, 109, 62, 63, 64, 65, 392, 393, 394, 395, 396, 397, 398, 399, 400, 401, 402, 403, 404, 405, 406, 407] (by decide +kernel) (by decide +kernel)
set_option maxRecDepth 20000 in
theorem gL_law_X2_recovered : GoodIn wsL_law (wsV RL 139 RX2 yX2_recovered wsX2_recovered) := goodIn_app (goodIn_of _ (by decide +kernel)) ggL_law_X2_recovered
theorem dL_law_0 : decode cL_law 0 = .ok (.new 8, 3) := by decide +kernel
theorem dL_law_3 : decode cL_law 3 = .ok (.dup, 1) := by decide +kernel
theorem dL_law_4 : decode cL_law 4 = .ok (.invokespecial 69, 3) := by decide +kernel
theorem dL_law_7 : decode cL_law 7 = .ok (.astore_n 1, 1) := by decide +kernel
theorem dL_law_8 : decode cL_law 8 = .ok (.new 70, 3) := by decide +kernel
theorem dL_law_11 : decode cL_law 11 = .ok (.dup, 1) := by decide +kernel
theorem dL_law_12 : decode cL_law 12 = .ok (.invokespecial 72, 3) := by decide +kernel
theorem dL_law_15 : decode cL_law 15 = .ok (.astore_n 2, 1) := by decide +kernel
theorem dL_law_16 : decode cL_law 16 = .ok (.iconst 1, 1) := by decide +kernel
theorem dL_law_17 : decode cL_law 17 = .ok (.newarray .long, 2) := by decide +kernel
theorem dL_law_19 : decode cL_law 19 = .ok (.astore_n 3, 1) := by decide +kernel
theorem dL_law_20 : decode cL_law 20 = .ok (.iconst 0, 1) := by decide +kernel
theorem dL_law_21 : decode cL_law 21 = .ok (.istore 4, 2) := by decide +kernel
theorem dL_law_23 : decode cL_law 23 = .ok (.iload 4, 2) := by decide +kernel
theorem dL_law_25 : decode cL_law 25 = .ok (.aload_n 0, 1) := by decide +kernel
theorem dL_law_26 : decode cL_law 26 = .ok (.arraylength, 1) := by decide +kernel
theorem dL_law_27 : decode cL_law 27 = .ok (.iconst 5, 1) := by decide +kernel
theorem dL_law_28 : decode cL_law 28 = .ok (.isub, 1) := by decide +kernel
theorem dL_law_29 : decode cL_law 29 = .ok (.if_icmp .gt 1178, 3) := by decide +kernel
theorem dL_law_32 : decode cL_law 32 = .ok (.aload_n 0, 1) := by decide +kernel
theorem dL_law_33 : decode cL_law 33 = .ok (.iload 4, 2) := by decide +kernel
theorem dL_law_35 : decode cL_law 35 = .ok (.iaload, 1) := by decide +kernel
theorem dL_law_36 : decode cL_law 36 = .ok (.bipush 31, 2) := by decide +kernel
theorem dL_law_38 : decode cL_law 38 = .ok (.iand, 1) := by decide +kernel
theorem dL_law_39 : decode cL_law 39 = .ok (.tableswitch 1162 0 17 #[85, 129, 221, 312, 380, 393, 437, 450, 530, 598, 666, 734, 802, 858, 914, 982, 1050, 1106], 85) := by decide +kernel
theorem dL_law_124 : decode cL_law 124 = .ok (.aload_n 1, 1) := by decide +kernel
theorem dL_law_125 : decode cL_law 125 = .ok (.aload_n 3, 1) := by decide +kernel
theorem dL_law_126 : decode cL_law 126 = .ok (.invokestatic 73, 3) := by decide +kernel
theorem dL_law_129 : decode cL_law 129 = .ok (.istore 5, 2) := by decide +kernel
theorem dL_law_131 : decode cL_law 131 = .ok (.aload_n 2, 1) := by decide +kernel
theorem dL_law_132 : decode cL_law 132 = .ok (.invokevirtual 78, 3) := by decide +kernel
theorem dL_law_135 : decode cL_law 135 = .ok (.istore 6, 2) := by decide +kernel
theorem dL_law_137 : decode cL_law 137 = .ok (.aload_n 2, 1) := by decide +kernel
theorem dL_law_138 : decode cL_law 138 = .ok (.invokevirtual 79, 3) := by decide +kernel
theorem dL_law_141 : decode cL_law 141 = .ok (.iload 5, 2) := by decide +kernel
theorem dL_law_143 : decode cL_law 143 = .ok (.if_icmp .eq 5, 3) := by decide +kernel
theorem dL_law_146 : decode cL_law 146 = .ok (.iconst 0, 1) := by decide +kernel
theorem dL_law_147 : decode cL_law 147 = .ok (.ireturn, 1) := by decide +kernel
theorem dL_law_148 : decode cL_law 148 = .ok (.iload 5, 2) := by decide +kernel
theorem dL_law_150 : decode cL_law 150 = .ok (.ifCond .ne 15, 3) := by decide +kernel
theorem dL_law_153 : decode cL_law 153 = .ok (.aload_n 3, 1) := by decide +kernel
theorem dL_law_154 : decode cL_law 154 = .ok (.iconst 0, 1) := by decide +kernel
theorem dL_law_155 : decode cL_law 155 = .ok (.laload, 1) := by decide +kernel
theorem dL_law_156 : decode cL_law 156 = .ok (.iload 6, 2) := by decide +kernel
theorem dL_law_158 : decode cL_law 158 = .ok (.i2l, 1) := by decide +kernel
theorem dL_law_159 : decode cL_law 159 = .ok (.lcmp, 1) := by decide +kernel
theorem dL_law_160 : decode cL_law 160 = .ok (.ifCond .eq 5, 3) := by decide +kernel
theorem dL_law_163 : decode cL_law 163 = .ok (.iconst 0, 1) := by decide +kernel
theorem dL_law_164 : decode cL_law 164 = .ok (.ireturn, 1) := by decide +kernel
theorem dL_law_165 : decode cL_law 165 = .ok (.goto 1036, 3) := by decide +kernel
theorem dL_law_168 : decode cL_law 168 = .ok (.aload_n 1, 1) := by decide +kernel
theorem dL_law_169 : decode cL_law 169 = .ok (.aload_n 0, 1) := by decide +kernel
theorem dL_law_170 : decode cL_law 170 = .ok (.iload 4, 2) := by decide +kernel
theorem dL_law_172 : decode cL_law 172 = .ok (.iconst 1, 1) := by decide +kernel
theorem dL_law_173 : decode cL_law 173 = .ok (.iadd, 1) := by decide +kernel
theorem dL_law_174 : decode cL_law 174 = .ok (.iaload, 1) := by decide +kernel
theorem dL_law_175 : decode cL_law 175 = .ok (.aload_n 0, 1) := by decide +kernel
theorem dL_law_176 : decode cL_law 176 = .ok (.iload 4, 2) := by decide +kernel
theorem dL_law_178 : decode cL_law 178 = .ok (.iconst 2, 1) := by decide +kernel
theorem dL_law_179 : decode cL_law 179 = .ok (.iadd, 1) := by decide +kernel
theorem dL_law_180 : decode cL_law 180 = .ok (.iaload, 1) := by decide +kernel
theorem dL_law_181 : decode cL_law 181 = .ok (.aload_n 0, 1) := by decide +kernel
theorem dL_law_182 : decode cL_law 182 = .ok (.iload 4, 2) := by decide +kernel
theorem dL_law_184 : decode cL_law 184 = .ok (.iconst 3, 1) := by decide +kernel
theorem dL_law_185 : decode cL_law 185 = .ok (.iadd, 1) := by decide +kernel
theorem dL_law_186 : decode cL_law 186 = .ok (.iaload, 1) := by decide +kernel
theorem dL_law_187 : decode cL_law 187 = .ok (.aload_n 0, 1) := by decide +kernel
theorem dL_law_188 : decode cL_law 188 = .ok (.iload 4, 2) := by decide +kernel
theorem dL_law_190 : decode cL_law 190 = .ok (.iconst 4, 1) := by decide +kernel
theorem dL_law_191 : decode cL_law 191 = .ok (.iadd, 1) := by decide +kernel
theorem dL_law_192 : decode cL_law 192 = .ok (.iaload, 1) := by decide +kernel
theorem dL_law_193 : decode cL_law 193 = .ok (.aload_n 3, 1) := by decide +kernel
theorem dL_law_194 : decode cL_law 194 = .ok (.invokestatic 82, 3) := by decide +kernel
theorem dL_law_197 : decode cL_law 197 = .ok (.istore 5, 2) := by decide +kernel
theorem dL_law_199 : decode cL_law 199 = .ok (.aload_n 2, 1) := by decide +kernel
theorem dL_law_200 : decode cL_law 200 = .ok (.aload_n 0, 1) := by decide +kernel
theorem dL_law_201 : decode cL_law 201 = .ok (.iload 4, 2) := by decide +kernel
theorem dL_law_203 : decode cL_law 203 = .ok (.iconst 1, 1) := by decide +kernel
theorem dL_law_204 : decode cL_law 204 = .ok (.iadd, 1) := by decide +kernel
theorem dL_law_205 : decode cL_law 205 = .ok (.iaload, 1) := by decide +kernel
theorem dL_law_206 : decode cL_law 206 = .ok (.aload_n 0, 1) := by decide +kernel
theorem dL_law_207 : decode cL_law 207 = .ok (.iload 4, 2) := by decide +kernel
theorem dL_law_209 : decode cL_law 209 = .ok (.iconst 2, 1) := by decide +kernel
theorem dL_law_210 : decode cL_law 210 = .ok (.iadd, 1) := by decide +kernel
theorem dL_law_211 : decode cL_law 211 = .ok (.iaload, 1) := by decide +kernel
theorem dL_law_212 : decode cL_law 212 = .ok (.aload_n 0, 1) := by decide +kernel
theorem dL_law_213 : decode cL_law 213 = .ok (.iload 4, 2) := by decide +kernel
theorem dL_law_215 : decode cL_law 215 = .ok (.iconst 3, 1) := by decide +kernel
theorem dL_law_216 : decode cL_law 216 = .ok (.iadd, 1) := by decide +kernel
theorem dL_law_217 : decode cL_law 217 = .ok (.iaload, 1) := by decide +kernel
theorem dL_law_218 : decode cL_law 218 = .ok (.aload_n 0, 1) := by decide +kernel
theorem dL_law_219 : decode cL_law 219 = .ok (.iload 4, 2) := by decide +kernel
theorem dL_law_221 : decode cL_law 221 = .ok (.iconst 4, 1) := by decide +kernel
theorem dL_law_222 : decode cL_law 222 = .ok (.iadd, 1) := by decide +kernel
theorem dL_law_223 : decode cL_law 223 = .ok (.iaload, 1) := by decide +kernel
theorem dL_law_224 : decode cL_law 224 = .ok (.invokevirtual 85, 3) := by decide +kernel
theorem dL_law_227 : decode cL_law 227 = .ok (.istore 6, 2) := by decide +kernel
theorem dL_law_229 : decode cL_law 229 = .ok (.aload_n 2, 1) := by decide +kernel
theorem dL_law_230 : decode cL_law 230 = .ok (.invokevirtual 79, 3) := by decide +kernel
theorem dL_law_233 : decode cL_law 233 = .ok (.iload 5, 2) := by decide +kernel
theorem dL_law_235 : decode cL_law 235 = .ok (.if_icmp .eq 5, 3) := by decide +kernel
theorem dL_law_238 : decode cL_law 238 = .ok (.iconst 0, 1) := by decide +kernel
theorem dL_law_239 : decode cL_law 239 = .ok (.ireturn, 1) := by decide +kernel
theorem dL_law_240 : decode cL_law 240 = .ok (.iload 5, 2) := by decide +kernel
theorem dL_law_242 : decode cL_law 242 = .ok (.ifCond .ne 15, 3) := by decide +kernel
theorem dL_law_245 : decode cL_law 245 = .ok (.aload_n 3, 1) := by decide +kernel
theorem dL_law_246 : decode cL_law 246 = .ok (.iconst 0, 1) := by decide +kernel
theorem dL_law_247 : decode cL_law 247 = .ok (.laload, 1) := by decide +kernel
theorem dL_law_248 : decode cL_law 248 = .ok (.iload 6, 2) := by decide +kernel
theorem dL_law_250 : decode cL_law 250 = .ok (.i2l, 1) := by decide +kernel
theorem dL_law_251 : decode cL_law 251 = .ok (.lcmp, 1) := by decide +kernel
theorem dL_law_252 : decode cL_law 252 = .ok (.ifCond .eq 5, 3) := by decide +kernel
theorem dL_law_255 : decode cL_law 255 = .ok (.iconst 0, 1) := by decide +kernel
theorem dL_law_256 : decode cL_law 256 = .ok (.ireturn, 1) := by decide +kernel
theorem dL_law_257 : decode cL_law 257 = .ok (.goto 944, 3) := by decide +kernel
theorem dL_law_260 : decode cL_law 260 = .ok (.aload_n 1, 1) := by decide +kernel
theorem dL_law_261 : decode cL_law 261 = .ok (.aload_n 0, 1) := by decide +kernel
theorem dL_law_262 : decode cL_law 262 = .ok (.iload 4, 2) := by decide +kernel
theorem dL_law_264 : decode cL_law 264 = .ok (.iconst 1, 1) := by decide +kernel
theorem dL_law_265 : decode cL_law 265 = .ok (.iadd, 1) := by decide +kernel
theorem dL_law_266 : decode cL_law 266 = .ok (.iaload, 1) := by decide +kernel
theorem dL_law_267 : decode cL_law 267 = .ok (.aload_n 0, 1) := by decide +kernel
theorem dL_law_268 : decode cL_law 268 = .ok (.iload 4, 2) := by decide +kernel
theorem dL_law_270 : decode cL_law 270 = .ok (.iconst 2, 1) := by decide +kernel
theorem dL_law_271 : decode cL_law 271 = .ok (.iadd, 1) := by decide +kernel
theorem dL_law_272 : decode cL_law 272 = .ok (.iaload, 1) := by decide +kernel
theorem dL_law_273 : decode cL_law 273 = .ok (.ifCond .eq 7, 3) := by decide +kernel
theorem dL_law_276 : decode cL_law 276 = .ok (.iconst 1, 1) := by decide +kernel
theorem dL_law_277 : decode cL_law 277 = .ok (.goto 4, 3) := by decide +kernel
theorem dL_law_280 : decode cL_law 280 = .ok (.iconst 0, 1) := by decide +kernel
theorem dL_law_281 : decode cL_law 281 = .ok (.aload_n 3, 1) := by decide +kernel
theorem dL_law_282 : decode cL_law 282 = .ok (.invokestatic 86, 3) := by decide +kernel
theorem dL_law_285 : decode cL_law 285 = .ok (.istore 5, 2) := by decide +kernel
theorem dL_law_287 : decode cL_law 287 = .ok (.aload_n 2, 1) := by decide +kernel
theorem dL_law_288 : decode cL_law 288 = .ok (.aload_n 0, 1) := by decide +kernel
theorem dL_law_289 : decode cL_law 289 = .ok (.iload 4, 2) := by decide +kernel
theorem dL_law_291 : decode cL_law 291 = .ok (.iconst 1, 1) := by decide +kernel
theorem dL_law_292 : decode cL_law 292 = .ok (.iadd, 1) := by decide +kernel
theorem dL_law_293 : decode cL_law 293 = .ok (.iaload, 1) := by decide +kernel
theorem dL_law_294 : decode cL_law 294 = .ok (.aload_n 0, 1) := by decide +kernel
theorem dL_law_295 : decode cL_law 295 = .ok (.iload 4, 2) := by decide +kernel
theorem dL_law_297 : decode cL_law 297 = .ok (.iconst 2, 1) := by decide +kernel
theorem dL_law_298 : decode cL_law 298 = .ok (.iadd, 1) := by decide +kernel
theorem dL_law_299 : decode cL_law 299 = .ok (.iaload, 1) := by decide +kernel
theorem dL_law_300 : decode cL_law 300 = .ok (.ifCond .eq 7, 3) := by decide +kernel
theorem dL_law_303 : decode cL_law 303 = .ok (.iconst 1, 1) := by decide +kernel
theorem dL_law_304 : decode cL_law 304 = .ok (.goto 4, 3) := by decide +kernel
theorem dL_law_307 : decode cL_law 307 = .ok (.iconst 0, 1) := by decide +kernel
theorem dL_law_308 : decode cL_law 308 = .ok (.invokevirtual 89, 3) := by decide +kernel
theorem dL_law_311 : decode cL_law 311 = .ok (.istore 6, 2) := by decide +kernel
theorem dL_law_313 : decode cL_law 313 = .ok (.aload_n 2, 1) := by decide +kernel
theorem dL_law_314 : decode cL_law 314 = .ok (.invokevirtual 79, 3) := by decide +kernel
theorem dL_law_317 : decode cL_law 317 = .ok (.iload 5, 2) := by decide +kernel
theorem dL_law_319 : decode cL_law 319 = .ok (.if_icmp .eq 5, 3) := by decide +kernel
theorem dL_law_322 : decode cL_law 322 = .ok (.iconst 0, 1) := by decide +kernel
theorem dL_law_323 : decode cL_law 323 = .ok (.ireturn, 1) := by decide +kernel
theorem dL_law_324 : decode cL_law 324 = .ok (.iload 5, 2) := by decide +kernel
theorem dL_law_326 : decode cL_law 326 = .ok (.ifCond .ne 22, 3) := by decide +kernel
theorem dL_law_329 : decode cL_law 329 = .ok (.aload_n 3, 1) := by decide +kernel
theorem dL_law_330 : decode cL_law 330 = .ok (.iconst 0, 1) := by decide +kernel
theorem dL_law_331 : decode cL_law 331 = .ok (.laload, 1) := by decide +kernel
theorem dL_law_332 : decode cL_law 332 = .ok (.iload 6, 2) := by decide +kernel
theorem dL_law_334 : decode cL_law 334 = .ok (.ifCond .eq 7, 3) := by decide +kernel
theorem dL_law_337 : decode cL_law 337 = .ok (.lconst 1, 1) := by decide +kernel
theorem dL_law_338 : decode cL_law 338 = .ok (.goto 4, 3) := by decide +kernel
theorem dL_law_341 : decode cL_law 341 = .ok (.lconst 0, 1) := by decide +kernel
theorem dL_law_342 : decode cL_law 342 = .ok (.lcmp, 1) := by decide +kernel
theorem dL_law_343 : decode cL_law 343 = .ok (.ifCond .eq 5, 3) := by decide +kernel
theorem dL_law_346 : decode cL_law 346 = .ok (.iconst 0, 1) := by decide +kernel
theorem dL_law_347 : decode cL_law 347 = .ok (.ireturn, 1) := by decide +kernel
theorem dL_law_348 : decode cL_law 348 = .ok (.goto 853, 3) := by decide +kernel
theorem dL_law_351 : decode cL_law 351 = .ok (.aload_n 1, 1) := by decide +kernel
theorem dL_law_352 : decode cL_law 352 = .ok (.aload_n 0, 1) := by decide +kernel
theorem dL_law_353 : decode cL_law 353 = .ok (.iload 4, 2) := by decide +kernel
theorem dL_law_355 : decode cL_law 355 = .ok (.iconst 1, 1) := by decide +kernel
theorem dL_law_356 : decode cL_law 356 = .ok (.iadd, 1) := by decide +kernel
theorem dL_law_357 : decode cL_law 357 = .ok (.iaload, 1) := by decide +kernel
theorem dL_law_358 : decode cL_law 358 = .ok (.aload_n 0, 1) := by decide +kernel
theorem dL_law_359 : decode cL_law 359 = .ok (.iload 4, 2) := by decide +kernel
theorem dL_law_361 : decode cL_law 361 = .ok (.iconst 2, 1) := by decide +kernel
theorem dL_law_362 : decode cL_law 362 = .ok (.iadd, 1) := by decide +kernel
theorem dL_law_363 : decode cL_law 363 = .ok (.iaload, 1) := by decide +kernel
theorem dL_law_364 : decode cL_law 364 = .ok (.aload_n 3, 1) := by decide +kernel
theorem dL_law_365 : decode cL_law 365 = .ok (.invokestatic 90, 3) := by decide +kernel
theorem dL_law_368 : decode cL_law 368 = .ok (.istore 5, 2) := by decide +kernel
theorem dL_law_370 : decode cL_law 370 = .ok (.aload_n 2, 1) := by decide +kernel
theorem dL_law_371 : decode cL_law 371 = .ok (.aload_n 0, 1) := by decide +kernel
theorem dL_law_372 : decode cL_law 372 = .ok (.iload 4, 2) := by decide +kernel
theorem dL_law_374 : decode cL_law 374 = .ok (.iconst 1, 1) := by decide +kernel
theorem dL_law_375 : decode cL_law 375 = .ok (.iadd, 1) := by decide +kernel
theorem dL_law_376 : decode cL_law 376 = .ok (.iaload, 1) := by decide +kernel
theorem dL_law_377 : decode cL_law 377 = .ok (.aload_n 0, 1) := by decide +kernel
theorem dL_law_378 : decode cL_law 378 = .ok (.iload 4, 2) := by decide +kernel
theorem dL_law_380 : decode cL_law 380 = .ok (.iconst 2, 1) := by decide +kernel
theorem dL_law_381 : decode cL_law 381 = .ok (.iadd, 1) := by decide +kernel
theorem dL_law_382 : decode cL_law 382 = .ok (.iaload, 1) := by decide +kernel
theorem dL_law_383 : decode cL_law 383 = .ok (.invokevirtual 93, 3) := by decide +kernel
theorem dL_law_386 : decode cL_law 386 = .ok (.istore 6, 2) := by decide +kernel
theorem dL_law_388 : decode cL_law 388 = .ok (.aload_n 2, 1) := by decide +kernel
theorem dL_law_389 : decode cL_law 389 = .ok (.invokevirtual 79, 3) := by decide +kernel
theorem dL_law_392 : decode cL_law 392 = .ok (.iload 5, 2) := by decide +kernel
theorem dL_law_394 : decode cL_law 394 = .ok (.if_icmp .eq 5, 3) := by decide +kernel
theorem dL_law_397 : decode cL_law 397 = .ok (.iconst 0, 1) := by decide +kernel
theorem dL_law_398 : decode cL_law 398 = .ok (.ireturn, 1) := by decide +kernel
theorem dL_law_399 : decode cL_law 399 = .ok (.iload 5, 2) := by decide +kernel
theorem dL_law_401 : decode cL_law 401 = .ok (.ifCond .ne 15, 3) := by decide +kernel
theorem dL_law_404 : decode cL_law 404 = .ok (.aload_n 3, 1) := by decide +kernel
theorem dL_law_405 : decode cL_law 405 = .ok (.iconst 0, 1) := by decide +kernel
theorem dL_law_406 : decode cL_law 406 = .ok (.laload, 1) := by decide +kernel
theorem dL_law_407 : decode cL_law 407 = .ok (.iload 6, 2) := by decide +kernel
theorem dL_law_409 : decode cL_law 409 = .ok (.i2l, 1) := by decide +kernel
theorem dL_law_410 : decode cL_law 410 = .ok (.lcmp, 1) := by decide +kernel
theorem dL_law_411 : decode cL_law 411 = .ok (.ifCond .eq 5, 3) := by decide +kernel
theorem dL_law_414 : decode cL_law 414 = .ok (.iconst 0, 1) := by decide +kernel
theorem dL_law_415 : decode cL_law 415 = .ok (.ireturn, 1) := by decide +kernel
theorem dL_law_416 : decode cL_law 416 = .ok (.goto 785, 3) := by decide +kernel
theorem dL_law_419 : decode cL_law 419 = .ok (.aload_n 1, 1) := by decide +kernel
theorem dL_law_420 : decode cL_law 420 = .ok (.invokevirtual 94, 3) := by decide +kernel
theorem dL_law_423 : decode cL_law 423 = .ok (.aload_n 2, 1) := by decide +kernel
theorem dL_law_424 : decode cL_law 424 = .ok (.invokevirtual 97, 3) := by decide +kernel
theorem dL_law_427 : decode cL_law 427 = .ok (.if_icmp .eq 774, 3) := by decide +kernel
theorem dL_law_430 : decode cL_law 430 = .ok (.iconst 0, 1) := by decide +kernel
theorem dL_law_431 : decode cL_law 431 = .ok (.ireturn, 1) := by decide +kernel
theorem dL_law_432 : decode cL_law 432 = .ok (.aload_n 1, 1) := by decide +kernel
theorem dL_law_433 : decode cL_law 433 = .ok (.aload_n 3, 1) := by decide +kernel
theorem dL_law_434 : decode cL_law 434 = .ok (.invokestatic 98, 3) := by decide +kernel
theorem dL_law_437 : decode cL_law 437 = .ok (.istore 5, 2) := by decide +kernel
theorem dL_law_439 : decode cL_law 439 = .ok (.aload_n 2, 1) := by decide +kernel
theorem dL_law_440 : decode cL_law 440 = .ok (.invokevirtual 100, 3) := by decide +kernel
theorem dL_law_443 : decode cL_law 443 = .ok (.istore 6, 2) := by decide +kernel
theorem dL_law_445 : decode cL_law 445 = .ok (.aload_n 2, 1) := by decide +kernel
theorem dL_law_446 : decode cL_law 446 = .ok (.invokevirtual 79, 3) := by decide +kernel
theorem dL_law_449 : decode cL_law 449 = .ok (.iload 5, 2) := by decide +kernel
theorem dL_law_451 : decode cL_law 451 = .ok (.if_icmp .eq 5, 3) := by decide +kernel
theorem dL_law_454 : decode cL_law 454 = .ok (.iconst 0, 1) := by decide +kernel
theorem dL_law_455 : decode cL_law 455 = .ok (.ireturn, 1) := by decide +kernel
theorem dL_law_456 : decode cL_law 456 = .ok (.iload 5, 2) := by decide +kernel
theorem dL_law_458 : decode cL_law 458 = .ok (.ifCond .ne 15, 3) := by decide +kernel
theorem dL_law_461 : decode cL_law 461 = .ok (.aload_n 3, 1) := by decide +kernel
theorem dL_law_462 : decode cL_law 462 = .ok (.iconst 0, 1) := by decide +kernel
theorem dL_law_463 : decode cL_law 463 = .ok (.laload, 1) := by decide +kernel
theorem dL_law_464 : decode cL_law 464 = .ok (.iload 6, 2) := by decide +kernel
theorem dL_law_466 : decode cL_law 466 = .ok (.i2l, 1) := by decide +kernel
theorem dL_law_467 : decode cL_law 467 = .ok (.lcmp, 1) := by decide +kernel
theorem dL_law_468 : decode cL_law 468 = .ok (.ifCond .eq 5, 3) := by decide +kernel
theorem dL_law_471 : decode cL_law 471 = .ok (.iconst 0, 1) := by decide +kernel
theorem dL_law_472 : decode cL_law 472 = .ok (.ireturn, 1) := by decide +kernel
theorem dL_law_473 : decode cL_law 473 = .ok (.goto 728, 3) := by decide +kernel
theorem dL_law_476 : decode cL_law 476 = .ok (.aload_n 1, 1) := by decide +kernel
theorem dL_law_477 : decode cL_law 477 = .ok (.invokevirtual 101, 3) := by decide +kernel
theorem dL_law_480 : decode cL_law 480 = .ok (.aload_n 2, 1) := by decide +kernel
theorem dL_law_481 : decode cL_law 481 = .ok (.invokevirtual 104, 3) := by decide +kernel
theorem dL_law_484 : decode cL_law 484 = .ok (.if_icmp .eq 717, 3) := by decide +kernel
theorem dL_law_487 : decode cL_law 487 = .ok (.iconst 0, 1) := by decide +kernel
theorem dL_law_488 : decode cL_law 488 = .ok (.ireturn, 1) := by decide +kernel
theorem dL_law_489 : decode cL_law 489 = .ok (.aload_n 1, 1) := by decide +kernel
theorem dL_law_490 : decode cL_law 490 = .ok (.aload_n 0, 1) := by decide +kernel
theorem dL_law_491 : decode cL_law 491 = .ok (.iload 4, 2) := by decide +kernel
theorem dL_law_493 : decode cL_law 493 = .ok (.iconst 1, 1) := by decide +kernel
theorem dL_law_494 : decode cL_law 494 = .ok (.iadd, 1) := by decide +kernel
theorem dL_law_495 : decode cL_law 495 = .ok (.iaload, 1) := by decide +kernel
theorem dL_law_496 : decode cL_law 496 = .ok (.aload_n 0, 1) := by decide +kernel
theorem dL_law_497 : decode cL_law 497 = .ok (.iload 4, 2) := by decide +kernel
theorem dL_law_499 : decode cL_law 499 = .ok (.iconst 2, 1) := by decide +kernel
theorem dL_law_500 : decode cL_law 500 = .ok (.iadd, 1) := by decide +kernel
theorem dL_law_501 : decode cL_law 501 = .ok (.iaload, 1) := by decide +kernel
theorem dL_law_502 : decode cL_law 502 = .ok (.aload_n 0, 1) := by decide +kernel
theorem dL_law_503 : decode cL_law 503 = .ok (.iload 4, 2) := by decide +kernel
theorem dL_law_505 : decode cL_law 505 = .ok (.iconst 3, 1) := by decide +kernel
theorem dL_law_506 : decode cL_law 506 = .ok (.iadd, 1) := by decide +kernel
theorem dL_law_507 : decode cL_law 507 = .ok (.iaload, 1) := by decide +kernel
theorem dL_law_508 : decode cL_law 508 = .ok (.aload_n 3, 1) := by decide +kernel
theorem dL_law_509 : decode cL_law 509 = .ok (.invokestatic 105, 3) := by decide +kernel
theorem dL_law_512 : decode cL_law 512 = .ok (.istore 5, 2) := by decide +kernel
theorem dL_law_514 : decode cL_law 514 = .ok (.aload_n 2, 1) := by decide +kernel
theorem dL_law_515 : decode cL_law 515 = .ok (.aload_n 0, 1) := by decide +kernel
theorem dL_law_516 : decode cL_law 516 = .ok (.iload 4, 2) := by decide +kernel
theorem dL_law_518 : decode cL_law 518 = .ok (.iconst 1, 1) := by decide +kernel
theorem dL_law_519 : decode cL_law 519 = .ok (.iadd, 1) := by decide +kernel
theorem dL_law_520 : decode cL_law 520 = .ok (.iaload, 1) := by decide +kernel
theorem dL_law_521 : decode cL_law 521 = .ok (.aload_n 0, 1) := by decide +kernel
theorem dL_law_522 : decode cL_law 522 = .ok (.iload 4, 2) := by decide +kernel
theorem dL_law_524 : decode cL_law 524 = .ok (.iconst 2, 1) := by decide +kernel
theorem dL_law_525 : decode cL_law 525 = .ok (.iadd, 1) := by decide +kernel
theorem dL_law_526 : decode cL_law 526 = .ok (.iaload, 1) := by decide +kernel
theorem dL_law_527 : decode cL_law 527 = .ok (.aload_n 0, 1) := by decide +kernel
theorem dL_law_528 : decode cL_law 528 = .ok (.iload 4, 2) := by decide +kernel
theorem dL_law_530 : decode cL_law 530 = .ok (.iconst 3, 1) := by decide +kernel
theorem dL_law_531 : decode cL_law 531 = .ok (.iadd, 1) := by decide +kernel
theorem dL_law_532 : decode cL_law 532 = .ok (.iaload, 1) := by decide +kernel
theorem dL_law_533 : decode cL_law 533 = .ok (.invokevirtual 108, 3) := by decide +kernel
theorem dL_law_536 : decode cL_law 536 = .ok (.istore 6, 2) := by decide +kernel
theorem dL_law_538 : decode cL_law 538 = .ok (.aload_n 2, 1) := by decide +kernel
theorem dL_law_539 : decode cL_law 539 = .ok (.invokevirtual 79, 3) := by decide +kernel
theorem dL_law_542 : decode cL_law 542 = .ok (.iload 5, 2) := by decide +kernel
theorem dL_law_544 : decode cL_law 544 = .ok (.if_icmp .eq 5, 3) := by decide +kernel
theorem dL_law_547 : decode cL_law 547 = .ok (.iconst 0, 1) := by decide +kernel
theorem dL_law_548 : decode cL_law 548 = .ok (.ireturn, 1) := by decide +kernel
theorem dL_law_549 : decode cL_law 549 = .ok (.iload 5, 2) := by decide +kernel
theorem dL_law_551 : decode cL_law 551 = .ok (.ifCond .ne 15, 3) := by decide +kernel
theorem dL_law_554 : decode cL_law 554 = .ok (.aload_n 3, 1) := by decide +kernel
theorem dL_law_555 : decode cL_law 555 = .ok (.iconst 0, 1) := by decide +kernel
theorem dL_law_556 : decode cL_law 556 = .ok (.laload, 1) := by decide +kernel
theorem dL_law_557 : decode cL_law 557 = .ok (.iload 6, 2) := by decide +kernel
theorem dL_law_559 : decode cL_law 559 = .ok (.i2l, 1) := by decide +kernel
theorem dL_law_560 : decode cL_law 560 = .ok (.lcmp, 1) := by decide +kernel
theorem dL_law_561 : decode cL_law 561 = .ok (.ifCond .eq 5, 3) := by decide +kernel
theorem dL_law_564 : decode cL_law 564 = .ok (.iconst 0, 1) := by decide +kernel
theorem dL_law_565 : decode cL_law 565 = .ok (.ireturn, 1) := by decide +kernel
theorem dL_law_566 : decode cL_law 566 = .ok (.goto 635, 3) := by decide +kernel
theorem dL_law_569 : decode cL_law 569 = .ok (.aload_n 1, 1) := by decide +kernel
theorem dL_law_570 : decode cL_law 570 = .ok (.aload_n 0, 1) := by decide +kernel
theorem dL_law_571 : decode cL_law 571 = .ok (.iload 4, 2) := by decide +kernel
theorem dL_law_573 : decode cL_law 573 = .ok (.iconst 1, 1) := by decide +kernel
theorem dL_law_574 : decode cL_law 574 = .ok (.iadd, 1) := by decide +kernel
theorem dL_law_575 : decode cL_law 575 = .ok (.iaload, 1) := by decide +kernel
theorem dL_law_576 : decode cL_law 576 = .ok (.aload_n 0, 1) := by decide +kernel
theorem dL_law_577 : decode cL_law 577 = .ok (.iload 4, 2) := by decide +kernel
theorem dL_law_579 : decode cL_law 579 = .ok (.iconst 2, 1) := by decide +kernel
theorem dL_law_580 : decode cL_law 580 = .ok (.iadd, 1) := by decide +kernel
theorem dL_law_581 : decode cL_law 581 = .ok (.iaload, 1) := by decide +kernel
theorem dL_law_582 : decode cL_law 582 = .ok (.aload_n 3, 1) := by decide +kernel
theorem dL_law_583 : decode cL_law 583 = .ok (.invokestatic 109, 3) := by decide +kernel
theorem dL_law_586 : decode cL_law 586 = .ok (.istore 5, 2) := by decide +kernel
theorem dL_law_588 : decode cL_law 588 = .ok (.aload_n 2, 1) := by decide +kernel
theorem dL_law_589 : decode cL_law 589 = .ok (.aload_n 0, 1) := by decide +kernel
theorem dL_law_590 : decode cL_law 590 = .ok (.iload 4, 2) := by decide +kernel
theorem dL_law_592 : decode cL_law 592 = .ok (.iconst 1, 1) := by decide +kernel
theorem dL_law_593 : decode cL_law 593 = .ok (.iadd, 1) := by decide +kernel
theorem dL_law_594 : decode cL_law 594 = .ok (.iaload, 1) := by decide +kernel
theorem dL_law_595 : decode cL_law 595 = .ok (.aload_n 0, 1) := by decide +kernel
theorem dL_law_596 : decode cL_law 596 = .ok (.iload 4, 2) := by decide +kernel
theorem dL_law_598 : decode cL_law 598 = .ok (.iconst 2, 1) := by decide +kernel
theorem dL_law_599 : decode cL_law 599 = .ok (.iadd, 1) := by decide +kernel
theorem dL_law_600 : decode cL_law 600 = .ok (.iaload, 1) := by decide +kernel
theorem dL_law_601 : decode cL_law 601 = .ok (.invokevirtual 111, 3) := by decide +kernel
theorem dL_law_604 : decode cL_law 604 = .ok (.istore 6, 2) := by decide +kernel
theorem dL_law_606 : decode cL_law 606 = .ok (.aload_n 2, 1) := by decide +kernel
theorem dL_law_607 : decode cL_law 607 = .ok (.invokevirtual 79, 3) := by decide +kernel
theorem dL_law_610 : decode cL_law 610 = .ok (.iload 5, 2) := by decide +kernel
theorem dL_law_612 : decode cL_law 612 = .ok (.if_icmp .eq 5, 3) := by decide +kernel
theorem dL_law_615 : decode cL_law 615 = .ok (.iconst 0, 1) := by decide +kernel
theorem dL_law_616 : decode cL_law 616 = .ok (.ireturn, 1) := by decide +kernel
theorem dL_law_617 : decode cL_law 617 = .ok (.iload 5, 2) := by decide +kernel
theorem dL_law_619 : decode cL_law 619 = .ok (.ifCond .ne 15, 3) := by decide +kernel
theorem dL_law_622 : decode cL_law 622 = .ok (.aload_n 3, 1) := by decide +kernel
theorem dL_law_623 : decode cL_law 623 = .ok (.iconst 0, 1) := by decide +kernel
theorem dL_law_624 : decode cL_law 624 = .ok (.laload, 1) := by decide +kernel
theorem dL_law_625 : decode cL_law 625 = .ok (.iload 6, 2) := by decide +kernel
theorem dL_law_627 : decode cL_law 627 = .ok (.i2l, 1) := by decide +kernel
theorem dL_law_628 : decode cL_law 628 = .ok (.lcmp, 1) := by decide +kernel
theorem dL_law_629 : decode cL_law 629 = .ok (.ifCond .eq 5, 3) := by decide +kernel
theorem dL_law_632 : decode cL_law 632 = .ok (.iconst 0, 1) := by decide +kernel
theorem dL_law_633 : decode cL_law 633 = .ok (.ireturn, 1) := by decide +kernel
theorem dL_law_634 : decode cL_law 634 = .ok (.goto 567, 3) := by decide +kernel
theorem dL_law_637 : decode cL_law 637 = .ok (.aload_n 1, 1) := by decide +kernel
theorem dL_law_638 : decode cL_law 638 = .ok (.aload_n 0, 1) := by decide +kernel
theorem dL_law_639 : decode cL_law 639 = .ok (.iload 4, 2) := by decide +kernel
theorem dL_law_641 : decode cL_law 641 = .ok (.iconst 1, 1) := by decide +kernel
theorem dL_law_642 : decode cL_law 642 = .ok (.iadd, 1) := by decide +kernel
theorem dL_law_643 : decode cL_law 643 = .ok (.iaload, 1) := by decide +kernel
theorem dL_law_644 : decode cL_law 644 = .ok (.aload_n 0, 1) := by decide +kernel
theorem dL_law_645 : decode cL_law 645 = .ok (.iload 4, 2) := by decide +kernel
theorem dL_law_647 : decode cL_law 647 = .ok (.iconst 2, 1) := by decide +kernel
theorem dL_law_648 : decode cL_law 648 = .ok (.iadd, 1) := by decide +kernel
theorem dL_law_649 : decode cL_law 649 = .ok (.iaload, 1) := by decide +kernel
theorem dL_law_650 : decode cL_law 650 = .ok (.aload_n 3, 1) := by decide +kernel
theorem dL_law_651 : decode cL_law 651 = .ok (.invokestatic 112, 3) := by decide +kernel
theorem dL_law_654 : decode cL_law 654 = .ok (.istore 5, 2) := by decide +kernel
theorem dL_law_656 : decode cL_law 656 = .ok (.aload_n 2, 1) := by decide +kernel
theorem dL_law_657 : decode cL_law 657 = .ok (.aload_n 0, 1) := by decide +kernel
theorem dL_law_658 : decode cL_law 658 = .ok (.iload 4, 2) := by decide +kernel
theorem dL_law_660 : decode cL_law 660 = .ok (.iconst 1, 1) := by decide +kernel
theorem dL_law_661 : decode cL_law 661 = .ok (.iadd, 1) := by decide +kernel
theorem dL_law_662 : decode cL_law 662 = .ok (.iaload, 1) := by decide +kernel
theorem dL_law_663 : decode cL_law 663 = .ok (.aload_n 0, 1) := by decide +kernel
theorem dL_law_664 : decode cL_law 664 = .ok (.iload 4, 2) := by decide +kernel
theorem dL_law_666 : decode cL_law 666 = .ok (.iconst 2, 1) := by decide +kernel
theorem dL_law_667 : decode cL_law 667 = .ok (.iadd, 1) := by decide +kernel
theorem dL_law_668 : decode cL_law 668 = .ok (.iaload, 1) := by decide +kernel
theorem dL_law_669 : decode cL_law 669 = .ok (.invokevirtual 114, 3) := by decide +kernel
theorem dL_law_672 : decode cL_law 672 = .ok (.istore 6, 2) := by decide +kernel
theorem dL_law_674 : decode cL_law 674 = .ok (.aload_n 2, 1) := by decide +kernel
theorem dL_law_675 : decode cL_law 675 = .ok (.invokevirtual 79, 3) := by decide +kernel
theorem dL_law_678 : decode cL_law 678 = .ok (.iload 5, 2) := by decide +kernel
theorem dL_law_680 : decode cL_law 680 = .ok (.if_icmp .eq 5, 3) := by decide +kernel
theorem dL_law_683 : decode cL_law 683 = .ok (.iconst 0, 1) := by decide +kernel
theorem dL_law_684 : decode cL_law 684 = .ok (.ireturn, 1) := by decide +kernel
theorem dL_law_685 : decode cL_law 685 = .ok (.iload 5, 2) := by decide +kernel
theorem dL_law_687 : decode cL_law 687 = .ok (.ifCond .ne 15, 3) := by decide +kernel
theorem dL_law_690 : decode cL_law 690 = .ok (.aload_n 3, 1) := by decide +kernel
theorem dL_law_691 : decode cL_law 691 = .ok (.iconst 0, 1) := by decide +kernel
theorem dL_law_692 : decode cL_law 692 = .ok (.laload, 1) := by decide +kernel
theorem dL_law_693 : decode cL_law 693 = .ok (.iload 6, 2) := by decide +kernel
theorem dL_law_695 : decode cL_law 695 = .ok (.i2l, 1) := by decide +kernel
theorem dL_law_696 : decode cL_law 696 = .ok (.lcmp, 1) := by decide +kernel
theorem dL_law_697 : decode cL_law 697 = .ok (.ifCond .eq 5, 3) := by decide +kernel
theorem dL_law_700 : decode cL_law 700 = .ok (.iconst 0, 1) := by decide +kernel
theorem dL_law_701 : decode cL_law 701 = .ok (.ireturn, 1) := by decide +kernel
theorem dL_law_702 : decode cL_law 702 = .ok (.goto 499, 3) := by decide +kernel
theorem dL_law_705 : decode cL_law 705 = .ok (.aload_n 1, 1) := by decide +kernel
theorem dL_law_706 : decode cL_law 706 = .ok (.aload_n 0, 1) := by decide +kernel
theorem dL_law_707 : decode cL_law 707 = .ok (.iload 4, 2) := by decide +kernel
theorem dL_law_709 : decode cL_law 709 = .ok (.iconst 1, 1) := by decide +kernel
theorem dL_law_710 : decode cL_law 710 = .ok (.iadd, 1) := by decide +kernel
theorem dL_law_711 : decode cL_law 711 = .ok (.iaload, 1) := by decide +kernel
theorem dL_law_712 : decode cL_law 712 = .ok (.aload_n 0, 1) := by decide +kernel
theorem dL_law_713 : decode cL_law 713 = .ok (.iload 4, 2) := by decide +kernel
theorem dL_law_715 : decode cL_law 715 = .ok (.iconst 2, 1) := by decide +kernel
theorem dL_law_716 : decode cL_law 716 = .ok (.iadd, 1) := by decide +kernel
theorem dL_law_717 : decode cL_law 717 = .ok (.iaload, 1) := by decide +kernel
theorem dL_law_718 : decode cL_law 718 = .ok (.aload_n 3, 1) := by decide +kernel
theorem dL_law_719 : decode cL_law 719 = .ok (.invokestatic 115, 3) := by decide +kernel
theorem dL_law_722 : decode cL_law 722 = .ok (.istore 5, 2) := by decide +kernel
theorem dL_law_724 : decode cL_law 724 = .ok (.aload_n 2, 1) := by decide +kernel
theorem dL_law_725 : decode cL_law 725 = .ok (.aload_n 0, 1) := by decide +kernel
theorem dL_law_726 : decode cL_law 726 = .ok (.iload 4, 2) := by decide +kernel
theorem dL_law_728 : decode cL_law 728 = .ok (.iconst 1, 1) := by decide +kernel
theorem dL_law_729 : decode cL_law 729 = .ok (.iadd, 1) := by decide +kernel
theorem dL_law_730 : decode cL_law 730 = .ok (.iaload, 1) := by decide +kernel
theorem dL_law_731 : decode cL_law 731 = .ok (.aload_n 0, 1) := by decide +kernel
theorem dL_law_732 : decode cL_law 732 = .ok (.iload 4, 2) := by decide +kernel
theorem dL_law_734 : decode cL_law 734 = .ok (.iconst 2, 1) := by decide +kernel
theorem dL_law_735 : decode cL_law 735 = .ok (.iadd, 1) := by decide +kernel
theorem dL_law_736 : decode cL_law 736 = .ok (.iaload, 1) := by decide +kernel
theorem dL_law_737 : decode cL_law 737 = .ok (.invokevirtual 117, 3) := by decide +kernel
theorem dL_law_740 : decode cL_law 740 = .ok (.istore 6, 2) := by decide +kernel
theorem dL_law_742 : decode cL_law 742 = .ok (.aload_n 2, 1) := by decide +kernel
theorem dL_law_743 : decode cL_law 743 = .ok (.invokevirtual 79, 3) := by decide +kernel
theorem dL_law_746 : decode cL_law 746 = .ok (.iload 5, 2) := by decide +kernel
theorem dL_law_748 : decode cL_law 748 = .ok (.if_icmp .eq 5, 3) := by decide +kernel
theorem dL_law_751 : decode cL_law 751 = .ok (.iconst 0, 1) := by decide +kernel
theorem dL_law_752 : decode cL_law 752 = .ok (.ireturn, 1) := by decide +kernel
theorem dL_law_753 : decode cL_law 753 = .ok (.iload 5, 2) := by decide +kernel
theorem dL_law_755 : decode cL_law 755 = .ok (.ifCond .ne 15, 3) := by decide +kernel
theorem dL_law_758 : decode cL_law 758 = .ok (.aload_n 3, 1) := by decide +kernel
theorem dL_law_759 : decode cL_law 759 = .ok (.iconst 0, 1) := by decide +kernel
theorem dL_law_760 : decode cL_law 760 = .ok (.laload, 1) := by decide +kernel
theorem dL_law_761 : decode cL_law 761 = .ok (.iload 6, 2) := by decide +kernel
theorem dL_law_763 : decode cL_law 763 = .ok (.i2l, 1) := by decide +kernel
theorem dL_law_764 : decode cL_law 764 = .ok (.lcmp, 1) := by decide +kernel
theorem dL_law_765 : decode cL_law 765 = .ok (.ifCond .eq 5, 3) := by decide +kernel
theorem dL_law_768 : decode cL_law 768 = .ok (.iconst 0, 1) := by decide +kernel
theorem dL_law_769 : decode cL_law 769 = .ok (.ireturn, 1) := by decide +kernel
theorem dL_law_770 : decode cL_law 770 = .ok (.goto 431, 3) := by decide +kernel
theorem dL_law_773 : decode cL_law 773 = .ok (.aload_n 1, 1) := by decide +kernel
theorem dL_law_774 : decode cL_law 774 = .ok (.aload_n 0, 1) := by decide +kernel
theorem dL_law_775 : decode cL_law 775 = .ok (.iload 4, 2) := by decide +kernel
theorem dL_law_777 : decode cL_law 777 = .ok (.iconst 1, 1) := by decide +kernel
theorem dL_law_778 : decode cL_law 778 = .ok (.iadd, 1) := by decide +kernel
theorem dL_law_779 : decode cL_law 779 = .ok (.iaload, 1) := by decide +kernel
theorem dL_law_780 : decode cL_law 780 = .ok (.aload_n 0, 1) := by decide +kernel
theorem dL_law_781 : decode cL_law 781 = .ok (.iload 4, 2) := by decide +kernel
theorem dL_law_783 : decode cL_law 783 = .ok (.iconst 2, 1) := by decide +kernel
theorem dL_law_784 : decode cL_law 784 = .ok (.iadd, 1) := by decide +kernel
theorem dL_law_785 : decode cL_law 785 = .ok (.iaload, 1) := by decide +kernel
theorem dL_law_786 : decode cL_law 786 = .ok (.aload_n 3, 1) := by decide +kernel
theorem dL_law_787 : decode cL_law 787 = .ok (.invokestatic 118, 3) := by decide +kernel
theorem dL_law_790 : decode cL_law 790 = .ok (.istore 5, 2) := by decide +kernel
theorem dL_law_792 : decode cL_law 792 = .ok (.aload_n 2, 1) := by decide +kernel
theorem dL_law_793 : decode cL_law 793 = .ok (.aload_n 0, 1) := by decide +kernel
theorem dL_law_794 : decode cL_law 794 = .ok (.iload 4, 2) := by decide +kernel
theorem dL_law_796 : decode cL_law 796 = .ok (.iconst 1, 1) := by decide +kernel
theorem dL_law_797 : decode cL_law 797 = .ok (.iadd, 1) := by decide +kernel
theorem dL_law_798 : decode cL_law 798 = .ok (.iaload, 1) := by decide +kernel
theorem dL_law_799 : decode cL_law 799 = .ok (.aload_n 0, 1) := by decide +kernel
theorem dL_law_800 : decode cL_law 800 = .ok (.iload 4, 2) := by decide +kernel
theorem dL_law_802 : decode cL_law 802 = .ok (.iconst 2, 1) := by decide +kernel
theorem dL_law_803 : decode cL_law 803 = .ok (.iadd, 1) := by decide +kernel
theorem dL_law_804 : decode cL_law 804 = .ok (.iaload, 1) := by decide +kernel
theorem dL_law_805 : decode cL_law 805 = .ok (.invokevirtual 120, 3) := by decide +kernel
theorem dL_law_808 : decode cL_law 808 = .ok (.istore 6, 2) := by decide +kernel
theorem dL_law_810 : decode cL_law 810 = .ok (.aload_n 2, 1) := by decide +kernel
theorem dL_law_811 : decode cL_law 811 = .ok (.invokevirtual 79, 3) := by decide +kernel
theorem dL_law_814 : decode cL_law 814 = .ok (.iload 5, 2) := by decide +kernel
theorem dL_law_816 : decode cL_law 816 = .ok (.if_icmp .eq 5, 3) := by decide +kernel
theorem dL_law_819 : decode cL_law 819 = .ok (.iconst 0, 1) := by decide +kernel
theorem dL_law_820 : decode cL_law 820 = .ok (.ireturn, 1) := by decide +kernel
theorem dL_law_821 : decode cL_law 821 = .ok (.iload 5, 2) := by decide +kernel
theorem dL_law_823 : decode cL_law 823 = .ok (.ifCond .ne 15, 3) := by decide +kernel
theorem dL_law_826 : decode cL_law 826 = .ok (.aload_n 3, 1) := by decide +kernel
theorem dL_law_827 : decode cL_law 827 = .ok (.iconst 0, 1) := by decide +kernel
theorem dL_law_828 : decode cL_law 828 = .ok (.laload, 1) := by decide +kernel
theorem dL_law_829 : decode cL_law 829 = .ok (.iload 6, 2) := by decide +kernel
theorem dL_law_831 : decode cL_law 831 = .ok (.i2l, 1) := by decide +kernel
theorem dL_law_832 : decode cL_law 832 = .ok (.lcmp, 1) := by decide +kernel
theorem dL_law_833 : decode cL_law 833 = .ok (.ifCond .eq 5, 3) := by decide +kernel
theorem dL_law_836 : decode cL_law 836 = .ok (.iconst 0, 1) := by decide +kernel
theorem dL_law_837 : decode cL_law 837 = .ok (.ireturn, 1) := by decide +kernel
theorem dL_law_838 : decode cL_law 838 = .ok (.goto 363, 3) := by decide +kernel
theorem dL_law_841 : decode cL_law 841 = .ok (.aload_n 1, 1) := by decide +kernel
theorem dL_law_842 : decode cL_law 842 = .ok (.aload_n 0, 1) := by decide +kernel
theorem dL_law_843 : decode cL_law 843 = .ok (.iload 4, 2) := by decide +kernel
theorem dL_law_845 : decode cL_law 845 = .ok (.iconst 1, 1) := by decide +kernel
theorem dL_law_846 : decode cL_law 846 = .ok (.iadd, 1) := by decide +kernel
theorem dL_law_847 : decode cL_law 847 = .ok (.iaload, 1) := by decide +kernel
theorem dL_law_848 : decode cL_law 848 = .ok (.aload_n 3, 1) := by decide +kernel
theorem dL_law_849 : decode cL_law 849 = .ok (.invokestatic 121, 3) := by decide +kernel
theorem dL_law_852 : decode cL_law 852 = .ok (.istore 5, 2) := by decide +kernel
theorem dL_law_854 : decode cL_law 854 = .ok (.aload_n 2, 1) := by decide +kernel
theorem dL_law_855 : decode cL_law 855 = .ok (.aload_n 0, 1) := by decide +kernel
theorem dL_law_856 : decode cL_law 856 = .ok (.iload 4, 2) := by decide +kernel
theorem dL_law_858 : decode cL_law 858 = .ok (.iconst 1, 1) := by decide +kernel
theorem dL_law_859 : decode cL_law 859 = .ok (.iadd, 1) := by decide +kernel
theorem dL_law_860 : decode cL_law 860 = .ok (.iaload, 1) := by decide +kernel
theorem dL_law_861 : decode cL_law 861 = .ok (.invokevirtual 124, 3) := by decide +kernel
theorem dL_law_864 : decode cL_law 864 = .ok (.istore 6, 2) := by decide +kernel
theorem dL_law_866 : decode cL_law 866 = .ok (.aload_n 2, 1) := by decide +kernel
theorem dL_law_867 : decode cL_law 867 = .ok (.invokevirtual 79, 3) := by decide +kernel
theorem dL_law_870 : decode cL_law 870 = .ok (.iload 5, 2) := by decide +kernel
theorem dL_law_872 : decode cL_law 872 = .ok (.if_icmp .eq 5, 3) := by decide +kernel
theorem dL_law_875 : decode cL_law 875 = .ok (.iconst 0, 1) := by decide +kernel
theorem dL_law_876 : decode cL_law 876 = .ok (.ireturn, 1) := by decide +kernel
theorem dL_law_877 : decode cL_law 877 = .ok (.iload 5, 2) := by decide +kernel
theorem dL_law_879 : decode cL_law 879 = .ok (.ifCond .ne 15, 3) := by decide +kernel
theorem dL_law_882 : decode cL_law 882 = .ok (.aload_n 3, 1) := by decide +kernel
theorem dL_law_883 : decode cL_law 883 = .ok (.iconst 0, 1) := by decide +kernel
theorem dL_law_884 : decode cL_law 884 = .ok (.laload, 1) := by decide +kernel
theorem dL_law_885 : decode cL_law 885 = .ok (.iload 6, 2) := by decide +kernel
theorem dL_law_887 : decode cL_law 887 = .ok (.i2l, 1) := by decide +kernel
theorem dL_law_888 : decode cL_law 888 = .ok (.lcmp, 1) := by decide +kernel
theorem dL_law_889 : decode cL_law 889 = .ok (.ifCond .eq 5, 3) := by decide +kernel
theorem dL_law_892 : decode cL_law 892 = .ok (.iconst 0, 1) := by decide +kernel
theorem dL_law_893 : decode cL_law 893 = .ok (.ireturn, 1) := by decide +kernel
theorem dL_law_894 : decode cL_law 894 = .ok (.goto 307, 3) := by decide +kernel
theorem dL_law_897 : decode cL_law 897 = .ok (.aload_n 1, 1) := by decide +kernel
theorem dL_law_898 : decode cL_law 898 = .ok (.aload_n 0, 1) := by decide +kernel
theorem dL_law_899 : decode cL_law 899 = .ok (.iload 4, 2) := by decide +kernel
theorem dL_law_901 : decode cL_law 901 = .ok (.iconst 1, 1) := by decide +kernel
theorem dL_law_902 : decode cL_law 902 = .ok (.iadd, 1) := by decide +kernel
theorem dL_law_903 : decode cL_law 903 = .ok (.iaload, 1) := by decide +kernel
theorem dL_law_904 : decode cL_law 904 = .ok (.aload_n 3, 1) := by decide +kernel
theorem dL_law_905 : decode cL_law 905 = .ok (.invokestatic 125, 3) := by decide +kernel
theorem dL_law_908 : decode cL_law 908 = .ok (.istore 5, 2) := by decide +kernel
theorem dL_law_910 : decode cL_law 910 = .ok (.aload_n 2, 1) := by decide +kernel
theorem dL_law_911 : decode cL_law 911 = .ok (.aload_n 0, 1) := by decide +kernel
theorem dL_law_912 : decode cL_law 912 = .ok (.iload 4, 2) := by decide +kernel
theorem dL_law_914 : decode cL_law 914 = .ok (.iconst 1, 1) := by decide +kernel
theorem dL_law_915 : decode cL_law 915 = .ok (.iadd, 1) := by decide +kernel
theorem dL_law_916 : decode cL_law 916 = .ok (.iaload, 1) := by decide +kernel
theorem dL_law_917 : decode cL_law 917 = .ok (.invokevirtual 127, 3) := by decide +kernel
theorem dL_law_920 : decode cL_law 920 = .ok (.istore 6, 2) := by decide +kernel
theorem dL_law_922 : decode cL_law 922 = .ok (.aload_n 2, 1) := by decide +kernel
theorem dL_law_923 : decode cL_law 923 = .ok (.invokevirtual 79, 3) := by decide +kernel
theorem dL_law_926 : decode cL_law 926 = .ok (.iload 5, 2) := by decide +kernel
theorem dL_law_928 : decode cL_law 928 = .ok (.if_icmp .eq 5, 3) := by decide +kernel
theorem dL_law_931 : decode cL_law 931 = .ok (.iconst 0, 1) := by decide +kernel
theorem dL_law_932 : decode cL_law 932 = .ok (.ireturn, 1) := by decide +kernel
theorem dL_law_933 : decode cL_law 933 = .ok (.iload 5, 2) := by decide +kernel
theorem dL_law_935 : decode cL_law 935 = .ok (.ifCond .ne 15, 3) := by decide +kernel
theorem dL_law_938 : decode cL_law 938 = .ok (.aload_n 3, 1) := by decide +kernel
theorem dL_law_939 : decode cL_law 939 = .ok (.iconst 0, 1) := by decide +kernel
theorem dL_law_940 : decode cL_law 940 = .ok (.laload, 1) := by decide +kernel
theorem dL_law_941 : decode cL_law 941 = .ok (.iload 6, 2) := by decide +kernel
theorem dL_law_943 : decode cL_law 943 = .ok (.i2l, 1) := by decide +kernel
theorem dL_law_944 : decode cL_law 944 = .ok (.lcmp, 1) := by decide +kernel
theorem dL_law_945 : decode cL_law 945 = .ok (.ifCond .eq 5, 3) := by decide +kernel
theorem dL_law_948 : decode cL_law 948 = .ok (.iconst 0, 1) := by decide +kernel
theorem dL_law_949 : decode cL_law 949 = .ok (.ireturn, 1) := by decide +kernel
theorem dL_law_950 : decode cL_law 950 = .ok (.goto 251, 3) := by decide +kernel
theorem dL_law_953 : decode cL_law 953 = .ok (.aload_n 1, 1) := by decide +kernel
theorem dL_law_954 : decode cL_law 954 = .ok (.aload_n 0, 1) := by decide +kernel
theorem dL_law_955 : decode cL_law 955 = .ok (.iload 4, 2) := by decide +kernel
theorem dL_law_957 : decode cL_law 957 = .ok (.iconst 1, 1) := by decide +kernel
theorem dL_law_958 : decode cL_law 958 = .ok (.iadd, 1) := by decide +kernel
theorem dL_law_959 : decode cL_law 959 = .ok (.iaload, 1) := by decide +kernel
theorem dL_law_960 : decode cL_law 960 = .ok (.aload_n 0, 1) := by decide +kernel
theorem dL_law_961 : decode cL_law 961 = .ok (.iload 4, 2) := by decide +kernel
theorem dL_law_963 : decode cL_law 963 = .ok (.iconst 2, 1) := by decide +kernel
theorem dL_law_964 : decode cL_law 964 = .ok (.iadd, 1) := by decide +kernel
theorem dL_law_965 : decode cL_law 965 = .ok (.iaload, 1) := by decide +kernel
theorem dL_law_966 : decode cL_law 966 = .ok (.aload_n 3, 1) := by decide +kernel
theorem dL_law_967 : decode cL_law 967 = .ok (.invokestatic 128, 3) := by decide +kernel
theorem dL_law_970 : decode cL_law 970 = .ok (.istore 5, 2) := by decide +kernel
theorem dL_law_972 : decode cL_law 972 = .ok (.aload_n 2, 1) := by decide +kernel
theorem dL_law_973 : decode cL_law 973 = .ok (.aload_n 0, 1) := by decide +kernel
theorem dL_law_974 : decode cL_law 974 = .ok (.iload 4, 2) := by decide +kernel
theorem dL_law_976 : decode cL_law 976 = .ok (.iconst 1, 1) := by decide +kernel
theorem dL_law_977 : decode cL_law 977 = .ok (.iadd, 1) := by decide +kernel
theorem dL_law_978 : decode cL_law 978 = .ok (.iaload, 1) := by decide +kernel
theorem dL_law_979 : decode cL_law 979 = .ok (.aload_n 0, 1) := by decide +kernel
theorem dL_law_980 : decode cL_law 980 = .ok (.iload 4, 2) := by decide +kernel
theorem dL_law_982 : decode cL_law 982 = .ok (.iconst 2, 1) := by decide +kernel
theorem dL_law_983 : decode cL_law 983 = .ok (.iadd, 1) := by decide +kernel
theorem dL_law_984 : decode cL_law 984 = .ok (.iaload, 1) := by decide +kernel
theorem dL_law_985 : decode cL_law 985 = .ok (.invokevirtual 130, 3) := by decide +kernel
theorem dL_law_988 : decode cL_law 988 = .ok (.istore 6, 2) := by decide +kernel
theorem dL_law_990 : decode cL_law 990 = .ok (.aload_n 2, 1) := by decide +kernel
theorem dL_law_991 : decode cL_law 991 = .ok (.invokevirtual 79, 3) := by decide +kernel
theorem dL_law_994 : decode cL_law 994 = .ok (.iload 5, 2) := by decide +kernel
theorem dL_law_996 : decode cL_law 996 = .ok (.if_icmp .eq 5, 3) := by decide +kernel
theorem dL_law_999 : decode cL_law 999 = .ok (.iconst 0, 1) := by decide +kernel
theorem dL_law_1000 : decode cL_law 1000 = .ok (.ireturn, 1) := by decide +kernel
theorem dL_law_1001 : decode cL_law 1001 = .ok (.iload 5, 2) := by decide +kernel
theorem dL_law_1003 : decode cL_law 1003 = .ok (.ifCond .ne 15, 3) := by decide +kernel
theorem dL_law_1006 : decode cL_law 1006 = .ok (.aload_n 3, 1) := by decide +kernel
theorem dL_law_1007 : decode cL_law 1007 = .ok (.iconst 0, 1) := by decide +kernel
theorem dL_law_1008 : decode cL_law 1008 = .ok (.laload, 1) := by decide +kernel
theorem dL_law_1009 : decode cL_law 1009 = .ok (.iload 6, 2) := by decide +kernel
theorem dL_law_1011 : decode cL_law 1011 = .ok (.i2l, 1) := by decide +kernel
theorem dL_law_1012 : decode cL_law 1012 = .ok (.lcmp, 1) := by decide +kernel
theorem dL_law_1013 : decode cL_law 1013 = .ok (.ifCond .eq 5, 3) := by decide +kernel
theorem dL_law_1016 : decode cL_law 1016 = .ok (.iconst 0, 1) := by decide +kernel
theorem dL_law_1017 : decode cL_law 1017 = .ok (.ireturn, 1) := by decide +kernel
theorem dL_law_1018 : decode cL_law 1018 = .ok (.goto 183, 3) := by decide +kernel
theorem dL_law_1021 : decode cL_law 1021 = .ok (.aload_n 1, 1) := by decide +kernel
theorem dL_law_1022 : decode cL_law 1022 = .ok (.aload_n 0, 1) := by decide +kernel
theorem dL_law_1023 : decode cL_law 1023 = .ok (.iload 4, 2) := by decide +kernel
theorem dL_law_1025 : decode cL_law 1025 = .ok (.iconst 1, 1) := by decide +kernel
theorem dL_law_1026 : decode cL_law 1026 = .ok (.iadd, 1) := by decide +kernel
theorem dL_law_1027 : decode cL_law 1027 = .ok (.iaload, 1) := by decide +kernel
theorem dL_law_1028 : decode cL_law 1028 = .ok (.aload_n 0, 1) := by decide +kernel
theorem dL_law_1029 : decode cL_law 1029 = .ok (.iload 4, 2) := by decide +kernel
theorem dL_law_1031 : decode cL_law 1031 = .ok (.iconst 2, 1) := by decide +kernel
theorem dL_law_1032 : decode cL_law 1032 = .ok (.iadd, 1) := by decide +kernel
theorem dL_law_1033 : decode cL_law 1033 = .ok (.iaload, 1) := by decide +kernel
theorem dL_law_1034 : decode cL_law 1034 = .ok (.aload_n 3, 1) := by decide +kernel
theorem dL_law_1035 : decode cL_law 1035 = .ok (.invokestatic 131, 3) := by decide +kernel
theorem dL_law_1038 : decode cL_law 1038 = .ok (.istore 5, 2) := by decide +kernel
theorem dL_law_1040 : decode cL_law 1040 = .ok (.aload_n 2, 1) := by decide +kernel
theorem dL_law_1041 : decode cL_law 1041 = .ok (.aload_n 0, 1) := by decide +kernel
theorem dL_law_1042 : decode cL_law 1042 = .ok (.iload 4, 2) := by decide +kernel
theorem dL_law_1044 : decode cL_law 1044 = .ok (.iconst 1, 1) := by decide +kernel
theorem dL_law_1045 : decode cL_law 1045 = .ok (.iadd, 1) := by decide +kernel
theorem dL_law_1046 : decode cL_law 1046 = .ok (.iaload, 1) := by decide +kernel
theorem dL_law_1047 : decode cL_law 1047 = .ok (.aload_n 0, 1) := by decide +kernel
theorem dL_law_1048 : decode cL_law 1048 = .ok (.iload 4, 2) := by decide +kernel
theorem dL_law_1050 : decode cL_law 1050 = .ok (.iconst 2, 1) := by decide +kernel
theorem dL_law_1051 : decode cL_law 1051 = .ok (.iadd, 1) := by decide +kernel
theorem dL_law_1052 : decode cL_law 1052 = .ok (.iaload, 1) := by decide +kernel
theorem dL_law_1053 : decode cL_law 1053 = .ok (.invokevirtual 133, 3) := by decide +kernel
theorem dL_law_1056 : decode cL_law 1056 = .ok (.istore 6, 2) := by decide +kernel
theorem dL_law_1058 : decode cL_law 1058 = .ok (.aload_n 2, 1) := by decide +kernel
theorem dL_law_1059 : decode cL_law 1059 = .ok (.invokevirtual 79, 3) := by decide +kernel
theorem dL_law_1062 : decode cL_law 1062 = .ok (.iload 5, 2) := by decide +kernel
theorem dL_law_1064 : decode cL_law 1064 = .ok (.if_icmp .eq 5, 3) := by decide +kernel
theorem dL_law_1067 : decode cL_law 1067 = .ok (.iconst 0, 1) := by decide +kernel
theorem dL_law_1068 : decode cL_law 1068 = .ok (.ireturn, 1) := by decide +kernel
theorem dL_law_1069 : decode cL_law 1069 = .ok (.iload 5, 2) := by decide +kernel
theorem dL_law_1071 : decode cL_law 1071 = .ok (.ifCond .ne 15, 3) := by decide +kernel
theorem dL_law_1074 : decode cL_law 1074 = .ok (.aload_n 3, 1) := by decide +kernel
theorem dL_law_1075 : decode cL_law 1075 = .ok (.iconst 0, 1) := by decide +kernel
theorem dL_law_1076 : decode cL_law 1076 = .ok (.laload, 1) := by decide +kernel
theorem dL_law_1077 : decode cL_law 1077 = .ok (.iload 6, 2) := by decide +kernel
theorem dL_law_1079 : decode cL_law 1079 = .ok (.i2l, 1) := by decide +kernel
theorem dL_law_1080 : decode cL_law 1080 = .ok (.lcmp, 1) := by decide +kernel
theorem dL_law_1081 : decode cL_law 1081 = .ok (.ifCond .eq 5, 3) := by decide +kernel
theorem dL_law_1084 : decode cL_law 1084 = .ok (.iconst 0, 1) := by decide +kernel
theorem dL_law_1085 : decode cL_law 1085 = .ok (.ireturn, 1) := by decide +kernel
theorem dL_law_1086 : decode cL_law 1086 = .ok (.goto 115, 3) := by decide +kernel
theorem dL_law_1089 : decode cL_law 1089 = .ok (.aload_n 1, 1) := by decide +kernel
theorem dL_law_1090 : decode cL_law 1090 = .ok (.aload_n 0, 1) := by decide +kernel
theorem dL_law_1091 : decode cL_law 1091 = .ok (.iload 4, 2) := by decide +kernel
theorem dL_law_1093 : decode cL_law 1093 = .ok (.iconst 1, 1) := by decide +kernel
theorem dL_law_1094 : decode cL_law 1094 = .ok (.iadd, 1) := by decide +kernel
theorem dL_law_1095 : decode cL_law 1095 = .ok (.iaload, 1) := by decide +kernel
theorem dL_law_1096 : decode cL_law 1096 = .ok (.aload_n 3, 1) := by decide +kernel
theorem dL_law_1097 : decode cL_law 1097 = .ok (.invokestatic 134, 3) := by decide +kernel
theorem dL_law_1100 : decode cL_law 1100 = .ok (.istore 5, 2) := by decide +kernel
theorem dL_law_1102 : decode cL_law 1102 = .ok (.aload_n 2, 1) := by decide +kernel
theorem dL_law_1103 : decode cL_law 1103 = .ok (.aload_n 0, 1) := by decide +kernel
theorem dL_law_1104 : decode cL_law 1104 = .ok (.iload 4, 2) := by decide +kernel
theorem dL_law_1106 : decode cL_law 1106 = .ok (.iconst 1, 1) := by decide +kernel
theorem dL_law_1107 : decode cL_law 1107 = .ok (.iadd, 1) := by decide +kernel
theorem dL_law_1108 : decode cL_law 1108 = .ok (.iaload, 1) := by decide +kernel
theorem dL_law_1109 : decode cL_law 1109 = .ok (.invokevirtual 136, 3) := by decide +kernel
theorem dL_law_1112 : decode cL_law 1112 = .ok (.istore 6, 2) := by decide +kernel
theorem dL_law_1114 : decode cL_law 1114 = .ok (.aload_n 2, 1) := by decide +kernel
theorem dL_law_1115 : decode cL_law 1115 = .ok (.invokevirtual 79, 3) := by decide +kernel
theorem dL_law_1118 : decode cL_law 1118 = .ok (.iload 5, 2) := by decide +kernel
theorem dL_law_1120 : decode cL_law 1120 = .ok (.if_icmp .eq 5, 3) := by decide +kernel
theorem dL_law_1123 : decode cL_law 1123 = .ok (.iconst 0, 1) := by decide +kernel
theorem dL_law_1124 : decode cL_law 1124 = .ok (.ireturn, 1) := by decide +kernel
theorem dL_law_1125 : decode cL_law 1125 = .ok (.iload 5, 2) := by decide +kernel
theorem dL_law_1127 : decode cL_law 1127 = .ok (.ifCond .ne 15, 3) := by decide +kernel
theorem dL_law_1130 : decode cL_law 1130 = .ok (.aload_n 3, 1) := by decide +kernel
theorem dL_law_1131 : decode cL_law 1131 = .ok (.iconst 0, 1) := by decide +kernel
theorem dL_law_1132 : decode cL_law 1132 = .ok (.laload, 1) := by decide +kernel
theorem dL_law_1133 : decode cL_law 1133 = .ok (.iload 6, 2) := by decide +kernel
theorem dL_law_1135 : decode cL_law 1135 = .ok (.i2l, 1) := by decide +kernel
theorem dL_law_1136 : decode cL_law 1136 = .ok (.lcmp, 1) := by decide +kernel
theorem dL_law_1137 : decode cL_law 1137 = .ok (.ifCond .eq 5, 3) := by decide +kernel
theorem dL_law_1140 : decode cL_law 1140 = .ok (.iconst 0, 1) := by decide +kernel
theorem dL_law_1141 : decode cL_law 1141 = .ok (.ireturn, 1) := by decide +kernel
theorem dL_law_1142 : decode cL_law 1142 = .ok (.goto 59, 3) := by decide +kernel
theorem dL_law_1145 : decode cL_law 1145 = .ok (.aload_n 1, 1) := by decide +kernel
theorem dL_law_1146 : decode cL_law 1146 = .ok (.aload_n 0, 1) := by decide +kernel
end
section
theorem dL_law_1147 : decode cL_law 1147 = .ok (.iload 4, 2) := by decide +kernel
theorem dL_law_1149 : decode cL_law 1149 = .ok (.iconst 1, 1) := by decide +kernel
theorem dL_law_1150 : decode cL_law 1150 = .ok (.iadd, 1) := by decide +kernel
theorem dL_law_1151 : decode cL_law 1151 = .ok (.iaload, 1) := by decide +kernel
theorem dL_law_1152 : decode cL_law 1152 = .ok (.aload_n 3, 1) := by decide +kernel
theorem dL_law_1153 : decode cL_law 1153 = .ok (.invokestatic 137, 3) := by decide +kernel
theorem dL_law_1156 : decode cL_law 1156 = .ok (.istore 5, 2) := by decide +kernel
theorem dL_law_1158 : decode cL_law 1158 = .ok (.aload_n 2, 1) := by decide +kernel
theorem dL_law_1159 : decode cL_law 1159 = .ok (.aload_n 0, 1) := by decide +kernel
theorem dL_law_1160 : decode cL_law 1160 = .ok (.iload 4, 2) := by decide +kernel
theorem dL_law_1162 : decode cL_law 1162 = .ok (.iconst 1, 1) := by decide +kernel
theorem dL_law_1163 : decode cL_law 1163 = .ok (.iadd, 1) := by decide +kernel
theorem dL_law_1164 : decode cL_law 1164 = .ok (.iaload, 1) := by decide +kernel
theorem dL_law_1165 : decode cL_law 1165 = .ok (.invokevirtual 139, 3) := by decide +kernel
theorem dL_law_1168 : decode cL_law 1168 = .ok (.istore 6, 2) := by decide +kernel
theorem dL_law_1170 : decode cL_law 1170 = .ok (.aload_n 2, 1) := by decide +kernel
theorem dL_law_1171 : decode cL_law 1171 = .ok (.invokevirtual 79, 3) := by decide +kernel
theorem dL_law_1174 : decode cL_law 1174 = .ok (.iload 5, 2) := by decide +kernel
theorem dL_law_1176 : decode cL_law 1176 = .ok (.if_icmp .eq 5, 3) := by decide +kernel
theorem dL_law_1179 : decode cL_law 1179 = .ok (.iconst 0, 1) := by decide +kernel
theorem dL_law_1180 : decode cL_law 1180 = .ok (.ireturn, 1) := by decide +kernel
theorem dL_law_1181 : decode cL_law 1181 = .ok (.iload 5, 2) := by decide +kernel
theorem dL_law_1183 : decode cL_law 1183 = .ok (.ifCond .ne 15, 3) := by decide +kernel
theorem dL_law_1186 : decode cL_law 1186 = .ok (.aload_n 3, 1) := by decide +kernel
theorem dL_law_1187 : decode cL_law 1187 = .ok (.iconst 0, 1) := by decide +kernel
theorem dL_law_1188 : decode cL_law 1188 = .ok (.laload, 1) := by decide +kernel
theorem dL_law_1189 : decode cL_law 1189 = .ok (.iload 6, 2) := by decide +kernel
theorem dL_law_1191 : decode cL_law 1191 = .ok (.i2l, 1) := by decide +kernel
theorem dL_law_1192 : decode cL_law 1192 = .ok (.lcmp, 1) := by decide +kernel
theorem dL_law_1193 : decode cL_law 1193 = .ok (.ifCond .eq 5, 3) := by decide +kernel
theorem dL_law_1196 : decode cL_law 1196 = .ok (.iconst 0, 1) := by decide +kernel
theorem dL_law_1197 : decode cL_law 1197 = .ok (.ireturn, 1) := by decide +kernel
theorem dL_law_1198 : decode cL_law 1198 = .ok (.goto 3, 3) := by decide +kernel
theorem dL_law_1201 : decode cL_law 1201 = .ok (.iinc 4 5, 3) := by decide +kernel
theorem dL_law_1204 : decode cL_law 1204 = .ok (.goto (-1181), 3) := by decide +kernel
theorem dL_law_1207 : decode cL_law 1207 = .ok (.iconst 1, 1) := by decide +kernel
theorem dL_law_1208 : decode cL_law 1208 = .ok (.ireturn, 1) := by decide +kernel
abbrev vwCl : List vw_C := [(RX0, TX0, 9), (RX1, TX1, 3), (RX2, TX2, 16)]
end
section
/-! THE WORLD: numbered cells. 0 the office, 1 its rows, 2 the model, 3 to 12 the model's arrays (by the order of their fields), 13 the law's long array; a household i stands at 14 + 15 i: the object, values (outer, five rows), since (outer, five rows), assessments, payments. What a cell holds of numbers is one function I: cell, place. -/
def tp_ty (cy : Nat → ClassId) : List (ClassId × FieldType) := [(cy 0, .int), (cy 1, .boolean), (cy 2, .long), (cy 3, .object "TaperOffice$Household"), (cy 4, .array .int)]
def tp_rf (n : Nat) (f : Nat → Nat) : Nat → Option Nat := fun j => if j < n then some (f j) else none
def tp_hc (cy : Nat → ClassId) (ad : Nat → Nat) (I : Nat → Nat → Int32) (b : Nat) : Nat → va_E := fun j => match j with
  | 0 => .inr (0, [.ref (ad (b + 1)), .ref (ad (b + 7)), .int (I b 2), .int (I b 3), .ref (ad (b + 13)), .ref (ad (b + 14)), .int (I b 6), .int (I b 7), .int (I b 8)])
  | 1 => .inl (cy 4, 5, .inr (.inr (.inr (.inr (tp_rf 5 (fun f => ad (b + 2 + f)))))))
  | 7 => .inl (cy 4, 5, .inr (.inr (.inr (.inr (tp_rf 5 (fun f => ad (b + 8 + f)))))))
  | j => .inl (cy 0, 48, .inl (I (b + j)))
def tp_c (cy : Nat → ClassId) (n : Nat) (ad : Nat → Nat) (I : Nat → Nat → Int32) (o : Int64) : Nat → va_E := fun k => match k with
  | 0 => .inr (1, [.ref (ad 1), .int (I 0 1), .int (I 0 2)])
  | 1 => .inl (cy 3, 6, .inr (.inr (.inr (.inr (tp_rf n (fun j => ad (14 + 15 * j)))))))
  | 2 => .inr (2, [.int (I 2 0), .int (I 2 1), .int (I 2 2), .ref (ad 3), .ref (ad 4), .ref (ad 5), .ref (ad 6), .ref (ad 7), .ref (ad 8), .ref (ad 9), .ref (ad 10), .ref (ad 11), .ref (ad 12), .int (I 2 13), .int (I 2 14), .int (I 2 15)])
  | 3 => .inl (cy 0, 6, .inl (I 3))
  | 4 => .inl (cy 0, 6, .inl (I 4))
  | 5 => .inl (cy 0, 600, .inl (I 5))
  | 6 => .inl (cy 0, 600, .inl (I 6))
  | 7 => .inl (cy 0, 600, .inl (I 7))
  | 8 => .inl (cy 0, 288, .inl (I 8))
  | 9 => .inl (cy 0, 288, .inl (I 9))
  | 10 => .inl (cy 0, 6, .inl (I 10))
  | 11 => .inl (cy 0, 6, .inl (I 11))
  | 12 => .inl (cy 1, 6, .inl (I 12))
  | 13 => .inl (cy 2, 1, .inr (.inl (fun _ => o)))
  | k + 14 => tp_hc cy ad I (14 + 15 * (k / 15)) (k % 15)
def tp_w (cy : Nat → ClassId) (n : Nat) (ad : Nat → Nat) (I : Nat → Nat → Int32) (o : Int64) : va_W := (List.range (14 + 15 * n)).map (fun k => (ad k, tp_c cy n ad I o k))
section TPW
variable {cy : Nat → ClassId} {n : Nat} {ad : Nat → Nat} {I : Nat → Nat → Int32} {o : Int64}
theorem tp_cH (i : Nat) {j : Nat} (hj : j < 15) : tp_c cy n ad I o (14 + 15 * i + j) = tp_hc cy ad I (14 + 15 * i) j := by
  have e : 14 + 15 * i + j = (15 * i + j) + 14 := by omega
  rw [e]
  show tp_hc cy ad I (14 + 15 * ((15 * i + j) / 15)) ((15 * i + j) % 15) = _
  rw [show (15 * i + j) / 15 = i by omega, show (15 * i + j) % 15 = j by omega]
theorem tp_cH0 (i : Nat) : tp_c cy n ad I o (14 + 15 * i) = tp_hc cy ad I (14 + 15 * i) 0 := tp_cH i (j := 0) (by decide)
theorem tp_hV (i : Nat) {f : Nat} (hf : f < 5) : tp_c cy n ad I o (14 + 15 * i + 2 + f) = .inl (cy 0, 48, .inl (I (14 + 15 * i + 2 + f))) := by
  rw [show 14 + 15 * i + 2 + f = 14 + 15 * i + (2 + f) by omega, tp_cH i (by omega)]
  rcases (show f = 0 ∨ f = 1 ∨ f = 2 ∨ f = 3 ∨ f = 4 by omega) with rfl | rfl | rfl | rfl | rfl <;> rfl
theorem tp_hS (i : Nat) {f : Nat} (hf : f < 5) : tp_c cy n ad I o (14 + 15 * i + 8 + f) = .inl (cy 0, 48, .inl (I (14 + 15 * i + 8 + f))) := by
  rw [show 14 + 15 * i + 8 + f = 14 + 15 * i + (8 + f) by omega, tp_cH i (by omega)]
  rcases (show f = 0 ∨ f = 1 ∨ f = 2 ∨ f = 3 ∨ f = 4 by omega) with rfl | rfl | rfl | rfl | rfl <;> rfl
theorem tp_hA (i : Nat) : tp_c cy n ad I o (14 + 15 * i + 13) = .inl (cy 0, 48, .inl (I (14 + 15 * i + 13))) := by rw [tp_cH i (by decide)]; rfl
theorem tp_hP (i : Nat) : tp_c cy n ad I o (14 + 15 * i + 14) = .inl (cy 0, 48, .inl (I (14 + 15 * i + 14))) := by rw [tp_cH i (by decide)]; rfl
theorem tp_at {k : Nat} (hk : k < 14 + 15 * n) : (tp_w cy n ad I o)[k]? = some (ad k, tp_c cy n ad I o k) := by
  unfold tp_w
  rw [List.getElem?_map, List.getElem?_range hk]
  rfl
theorem tp_hown {I' : Nat → Nat → Int32} (b : Nat) : ∀ j : Nat, I b = I' b → I (b + j) = I' (b + j) → tp_hc cy ad I b j = tp_hc cy ad I' b j := fun j h0 h => by
  unfold tp_hc
  split
  · simp only [h0]
  · rfl
  · rfl
  · simp only [h]
theorem tp_own {I' : Nat → Nat → Int32} {k0 k : Nat} (hne : k ≠ k0) (h : ∀ j, j ≠ k0 → I j = I' j) : tp_c cy n ad I o k = tp_c cy n ad I' o k := by
  unfold tp_c
  split
  case h_15 k' =>
    by_cases h0 : k' % 15 = 0
    · have e : 14 + 15 * (k' / 15) = k' + 14 := by omega
      rw [h0, e]
      have h1 := h (k' + 14) hne
      exact tp_hown (k' + 14) 0 h1 h1
    · have e : 14 + 15 * (k' / 15) + k' % 15 = k' + 14 := by omega
      have h1 := h (k' + 14) hne
      rw [← e] at h1
      generalize 14 + 15 * (k' / 15) = b at h1 ⊢
      generalize k' % 15 = r at h0 h1 ⊢
      unfold tp_hc
      split
      · exact absurd rfl h0
      · rfl
      · rfl
      · simp only [h1]
  all_goals first | rfl | simp only [h _ hne]
theorem tp_set {k : Nat} (hk : k < 14 + 15 * n) {I' : Nat → Nat → Int32} (h : ∀ j, j ≠ k → I j = I' j) {e : va_E} (he : tp_c cy n ad I' o k = e) : (tp_w cy n ad I o).set k (ad k, e) = tp_w cy n ad I' o := by
  subst he
  apply List.ext_getElem?
  intro q
  by_cases hq : q = k
  · subst hq
    rw [tp_at hk, List.getElem?_set_self (by unfold tp_w; simpa using hk)]
  · rw [List.getElem?_set_ne (Ne.symm hq)]
    by_cases hl : q < 14 + 15 * n
    · rw [tp_at hl, tp_at hl, tp_own hq h]
    · rw [List.getElem?_eq_none (by unfold tp_w; simpa using hl), List.getElem?_eq_none (by unfold tp_w; simpa using hl)]
theorem tp_set13 {x : Int64} : (tp_w cy n ad I o).set 13 (ad 13, .inl (cy 2, 1, .inr (.inl (fun _ => x)))) = tp_w cy n ad I x := by
  apply List.ext_getElem?
  intro q
  by_cases hq : q = 13
  · subst hq
    rw [tp_at (by omega), List.getElem?_set_self (by unfold tp_w; simp; omega)]
    rfl
  · rw [List.getElem?_set_ne (Ne.symm hq)]
    by_cases hl : q < 14 + 15 * n
    · rw [tp_at hl, tp_at hl]
      congr 2
      unfold tp_c
      split <;> first | rfl | exact absurd rfl hq
    · rw [List.getElem?_eq_none (by unfold tp_w; simpa using hl), List.getElem?_eq_none (by unfold tp_w; simpa using hl)]
theorem tp_e0 : (tp_w cy n ad I o)[0]? = some (ad 0, .inr (1, [.ref (ad 1), .int (I 0 1), .int (I 0 2)])) := tp_at (by omega)
theorem tp_e2 : (tp_w cy n ad I o)[2]? = some (ad 2, .inr (2, [.int (I 2 0), .int (I 2 1), .int (I 2 2), .ref (ad 3), .ref (ad 4), .ref (ad 5), .ref (ad 6), .ref (ad 7), .ref (ad 8), .ref (ad 9), .ref (ad 10), .ref (ad 11), .ref (ad 12), .int (I 2 13), .int (I 2 14), .int (I 2 15)])) := tp_at (by omega)
theorem tp_eh {i : Nat} (hi : i < n) : (tp_w cy n ad I o)[14 + 15 * i]? = some (ad (14 + 15 * i), .inr (0, [.ref (ad (14 + 15 * i + 1)), .ref (ad (14 + 15 * i + 7)), .int (I (14 + 15 * i) 2), .int (I (14 + 15 * i) 3), .ref (ad (14 + 15 * i + 13)), .ref (ad (14 + 15 * i + 14)), .int (I (14 + 15 * i) 6), .int (I (14 + 15 * i) 7), .int (I (14 + 15 * i) 8)])) := by
  rw [tp_at (by omega), tp_cH0]
  rfl
end TPW
/-- one place of I written -/
def tp_u (I : Nat → Nat → Int32) (k j : Nat) (x : Int32) : Nat → Nat → Int32 := va_up I k (upd (I k) j x)
theorem tp_u_ne {I : Nat → Nat → Int32} {k j : Nat} {x : Int32} : ∀ a, a ≠ k → I a = tp_u I k j x a := fun a h => (va_up_ne I _ h).symm
theorem tp_u_at {I : Nat → Nat → Int32} {k j : Nat} {x : Int32} : tp_u I k j x k = upd (I k) j x := va_up_self I k _
theorem tp_u_oth {I : Nat → Nat → Int32} {k j a : Nat} {x : Int32} (h : a ≠ k) : tp_u I k j x a = I a := va_up_ne I _ h
theorem tp_u_s {I : Nat → Nat → Int32} {k j : Nat} {x : Int32} : tp_u I k j x k j = x := by rw [tp_u_at]; exact pk_us
theorem tp_u_n {I : Nat → Nat → Int32} {k j b : Nat} {x : Int32} (h : b ≠ j) : tp_u I k j x k b = I k b := by rw [tp_u_at]; exact pk_un h
/-- a world in a heap, of a state -/
def tp_P (D : va_G) (cy : Nat → ClassId) (n : Nat) (ad : Nat → Nat) (I : Nat → Nat → Int32) (o : Int64) (sz : Nat) (U : State) : Prop := U.heap.size = sz ∧ va_P D vwCl (tp_w cy n ad I o) U.heap ∧ va_K D vwCl (tp_ty cy) U ∧ va_D (fun _ => True) (tp_w cy n ad I o)
def tp_B (D : va_G) (cy : Nat → ClassId) (n : Nat) (ad : Nat → Nat) (o : Int64) (A : Nat → Prop) (I : Nat → Nat → Int32) (t : State) : Prop := va_P D vwCl (tp_w cy n ad I o) t.heap ∧ va_K D vwCl (tp_ty cy) t ∧ va_D A (tp_w cy n ad I o)
/-- a contract: the answer r, the numbers I' behind it -/
def tp_I (l : Launch) (y : MethodName) (ws : List Cond) (rm : Room) (D : va_G) (cy : Nat → ClassId) (n : Nat) (ad : Nat → Nat) (o : Int64) (as : List Value) (I : Nat → Nat → Int32) (r : Int32) (I' : Nat → Nat → Int32) : Prop :=
  ∀ sz : Nat, Met l y ws rm (va_Pc as (tp_P D cy n ad I o sz)) (va_Qi (fun x u => x = r ∧ u = I') (tp_B D cy n ad o (va_A (tp_w cy n ad I o) sz)) (va_A (tp_w cy n ad I o) sz)) 0 0 (va_A (tp_w cy n ad I o) sz)
def tp_V (l : Launch) (y : MethodName) (ws : List Cond) (rm : Room) (D : va_G) (cy : Nat → ClassId) (n : Nat) (ad : Nat → Nat) (o : Int64) (as : List Value) (I : Nat → Nat → Int32) (I' : Nat → Nat → Int32) : Prop :=
  ∀ sz : Nat, Met l y ws rm (va_Pc as (tp_P D cy n ad I o sz)) (va_Qv (fun u => u = I') (tp_B D cy n ad o (va_A (tp_w cy n ad I o) sz)) (va_A (tp_w cy n ad I o) sz)) 0 0 (va_A (tp_w cy n ad I o) sz)
abbrev tp_rm (fr lo : Nat) : Room := { frames := fr, cells := 0, slots := 0, locals := lo }
/-- a body's start -/
def tp_S (p : Program) (s : State) (m : MethodId) (args : Array Value) (meth : Method) (c : Code) (y : MethodName) (ws : List Cond) (cc : ByteArray) (maxL : Nat) (ret : Option FieldType) (D : va_G) (cy : Nat → ClassId) (n : Nat) (ad : Nat → Nat) (o : Int64) (I : Nat → Nat → Int32) (A : Nat → Prop) (ls : Array Slot) (lv : List (Nat × Value)) : Prop :=
  p.tables.exec = Jvm.exec ∧ c.code = cc ∧ meth.sig.returnType = ret ∧ c.maxLocals = maxL ∧ s.vm.findClass y.cls = some m.cls ∧ (∀ w ∈ ws, w.before args s = true) ∧ meth.locks = false ∧ (∀ q : Nat, s.heap.size ≤ q → A q) ∧ va_K D vwCl (tp_ty cy) s ∧ va_P D vwCl (tp_w cy n ad I o) s.heap ∧ va_D A (tp_w cy n ad I o) ∧ va_S A s.heap s.heap [] ∧ lv_has ls maxL lv
theorem tp_ofI {l : Launch} {y : MethodName} {ws ws' : List Cond} {fr lo : Nat} {D : va_G} {cy : Nat → ClassId} {n : Nat} {ad : Nat → Nat} {o : Int64} {I I' : Nat → Nat → Int32} {as : List Value} {r : Int32} {cc : ByteArray} {maxL : Nat} {ret : Option FieldType} {lv : List (Nat × Value)}
    (hy : plainName y.cls = true) (hw : ws = Cond.code y cc maxL ret :: ws') (hlen : (lg_sl as).length ≤ maxL) (hlv : lv_args 0 as = lv)
    (body : ∀ (p : Program) (e : Env) (s : State) (m : MethodId) (args : Array Value) (below : List Frame) (meth : Method) (c : Code) (A : Nat → Prop) (ls : Array Slot), tp_S p s m args meth c y ws cc maxL ret D cy n ad o I A ls lv →
      W p l e (tp_rm fr lo) s m args below meth c s.heap [] 0 0 (MQ below (va_Qi (fun x u => x = r ∧ u = I') (tp_B D cy n ad o A) A) args s 0 0 A) (F0 m 0 ls [])) :
    tp_I l y ws (tp_rm fr lo) D cy n ad o as I r I' := by
  intro sz
  refine Met.ofW (cc := cc) (maxL := maxL) (ret := ret) hy hw ?_
  intro p e s m args below meth c s₁ B hml hv
  obtain ⟨rfl, hsz, hP, hK, hD0⟩ := hv
  subst hsz
  have hown : s.vm.findClass y.cls = some m.cls := findClass_of_methodNamed B.named
  have hD := hD0.self (sz := s.heap.size)
  generalize hAe : va_A (tp_w cy n ad I o) s.heap.size = A at hD ⊢
  have hA : ∀ q : Nat, s.heap.size ≤ q → A q := fun q h => by rw [← hAe]; exact Or.inr h
  have hl := lv_entry as (n := maxL) hlen
  rw [hlv] at hl
  rw [lg_entry_eq]
  exact body p e s m _ below meth c A _ ⟨B.exec, B.bytes, B.returns, hml, hown, atoms_spec (ws := ws) B.pre, B.notSynchronized, hA, hK, hP, hD, va_S.rf, hl⟩
theorem tp_ofV {l : Launch} {y : MethodName} {ws ws' : List Cond} {fr lo : Nat} {D : va_G} {cy : Nat → ClassId} {n : Nat} {ad : Nat → Nat} {o : Int64} {I I' : Nat → Nat → Int32} {as : List Value} {cc : ByteArray} {maxL : Nat} {ret : Option FieldType} {lv : List (Nat × Value)}
    (hy : plainName y.cls = true) (hw : ws = Cond.code y cc maxL ret :: ws') (hlen : (lg_sl as).length ≤ maxL) (hlv : lv_args 0 as = lv)
    (body : ∀ (p : Program) (e : Env) (s : State) (m : MethodId) (args : Array Value) (below : List Frame) (meth : Method) (c : Code) (A : Nat → Prop) (ls : Array Slot), tp_S p s m args meth c y ws cc maxL ret D cy n ad o I A ls lv →
      W p l e (tp_rm fr lo) s m args below meth c s.heap [] 0 0 (MQ below (va_Qv (fun u => u = I') (tp_B D cy n ad o A) A) args s 0 0 A) (F0 m 0 ls [])) :
    tp_V l y ws (tp_rm fr lo) D cy n ad o as I I' := by
  intro sz
  refine Met.ofW (cc := cc) (maxL := maxL) (ret := ret) hy hw ?_
  intro p e s m args below meth c s₁ B hml hv
  obtain ⟨rfl, hsz, hP, hK, hD0⟩ := hv
  subst hsz
  have hown : s.vm.findClass y.cls = some m.cls := findClass_of_methodNamed B.named
  have hD := hD0.self (sz := s.heap.size)
  generalize hAe : va_A (tp_w cy n ad I o) s.heap.size = A at hD ⊢
  have hA : ∀ q : Nat, s.heap.size ≤ q → A q := fun q h => by rw [← hAe]; exact Or.inr h
  have hl := lv_entry as (n := maxL) hlen
  rw [hlv] at hl
  rw [lg_entry_eq]
  exact body p e s m _ below meth c A _ ⟨B.exec, B.bytes, B.returns, hml, hown, atoms_spec (ws := ws) B.pre, B.notSynchronized, hA, hK, hP, hD, va_S.rf, hl⟩
section TPR
variable {p : Program} {l : Launch} {e : Env} {R : Room} {s : State} {m : MethodId} {args : Array Value} {below : List Frame} {meth : Method} {c : Code} {H : Heap} {locs : List Loc} {cells slots : Nat} {Q : State → Prop}
variable {cc : ByteArray} {pc : Nat} {ls : Array Slot} {rest : List Value} {D : va_G} {A : Nat → Prop} {H0 : Heap}
variable {cy : Nat → ClassId} {n : Nat} {ad : Nat → Nat} {I : Nat → Nat → Int32} {o : Int64}
/-- ends -/
theorem tp_reti {I1 I' : Nat → Nat → Int32} {v r : Int32} {ty : FieldType} (hx : p.tables.exec = Jvm.exec) (hb : c.code = cc) (hr : meth.sig.returnType = some ty) (hlocks : meth.locks = false) (hK : va_K D vwCl (tp_ty cy) s) (hP : va_P D vwCl (tp_w cy n ad I1 o) H) (hD : va_D A (tp_w cy n ad I1 o)) (hS : va_S A s.heap H locs) (hn : narrow ty (.int v) = .int v) (ev : v = r) (eI : I1 = I') (hdg : decode cc pc = .ok (.ireturn, 1)) :
    W p l e R s m args below meth c H locs 0 0 (MQ below (va_Qi (fun x u => x = r ∧ u = I') (tp_B D cy n ad o A) A) args s 0 0 A) (F0 m pc ls [.int v]) := by
  subst ev
  subst eI
  exact W.zret (v := v) hx hb hr hn (fun t ht hW => ⟨⟨v, I1, rfl, ⟨rfl, rfl⟩, by rw [ht]; exact hP, va_K.moved hW.alike hK, hD⟩, hS.F ht⟩) hS.2.2 hdg
theorem tp_retv {I1 I' : Nat → Nat → Int32} (hx : p.tables.exec = Jvm.exec) (hb : c.code = cc) (hr : meth.sig.returnType = none) (hlocks : meth.locks = false) (hK : va_K D vwCl (tp_ty cy) s) (hP : va_P D vwCl (tp_w cy n ad I1 o) H) (hD : va_D A (tp_w cy n ad I1 o)) (hS : va_S A s.heap H locs) (eI : I1 = I') (hdg : decode cc pc = .ok (.return_, 1)) :
    W p l e R s m args below meth c H locs 0 0 (MQ below (va_Qv (fun u => u = I') (tp_B D cy n ad o A) A) args s 0 0 A) (F0 m pc ls []) := by
  subst eI
  exact W.vret hx hb hr (fun t ht hW => ⟨⟨I1, rfl, rfl, by rw [ht]; exact hP, va_K.moved hW.alike hK, hD⟩, hS.F ht⟩) hS.2.2 hdg
/-- a value by a name, with what is known of it, where two ways meet -/
theorem tp_join {α : Sort _} {g0 : JFrame} (x : α) (g : α → JFrame) (k : ∀ y : α, y = x → W p l e R s m args below meth c H locs cells slots Q (g y)) (h : (∀ y : α, y = x → W p l e R s m args below meth c H locs cells slots Q (g y)) → W p l e R s m args below meth c H locs cells slots Q g0) : W p l e R s m args below meth c H locs cells slots Q g0 := h k
/-- arrays -/
theorem tp_iald {f : Nat → Int32} {x : Int32} (hx : p.tables.exec = Jvm.exec) (hb : c.code = cc) (hK : va_K D vwCl (tp_ty cy) s) (hP : va_P D vwCl (tp_w cy n ad I o) H) (k N j : Nat) (hk : k < 14 + 15 * n) (hc : tp_c cy n ad I o k = .inl (cy 0, N, .inl f)) (hj : x = nI j) (hlt : j < N) (hN : N < 2 ^ 31) (hdg : decode cc pc = .ok (.iaload, 1))
    (kk : W p l e R s m args below meth c H locs cells slots Q (F0 m (pc + 1) ls (.int (f j) :: rest))) : W p l e R s m args below meth c H locs cells slots Q (F0 m pc ls (.int x :: .ref (ad k) :: rest)) := by
  subst hj
  refine va_iald hx hb hK hP k 0 (by rw [tp_at hk, hc]) rfl (vp_in_nI hlt hN) hdg ?_
  rw [nI_clamp (by omega)]
  exact kk
theorem tp_zald {f : Nat → Int32} {x : Int32} (hx : p.tables.exec = Jvm.exec) (hb : c.code = cc) (hK : va_K D vwCl (tp_ty cy) s) (hP : va_P D vwCl (tp_w cy n ad I o) H) (k N j : Nat) (hk : k < 14 + 15 * n) (hc : tp_c cy n ad I o k = .inl (cy 1, N, .inl f)) (hj : x = nI j) (hlt : j < N) (hN : N < 2 ^ 31) (hdg : decode cc pc = .ok (.baload, 1))
    (kk : W p l e R s m args below meth c H locs cells slots Q (F0 m (pc + 1) ls (.int (f j) :: rest))) : W p l e R s m args below meth c H locs cells slots Q (F0 m pc ls (.int x :: .ref (ad k) :: rest)) := by
  subst hj
  refine va_zald hx hb hK hP k 1 (by rw [tp_at hk, hc]) rfl (vp_in_nI hlt hN) hdg ?_
  rw [nI_clamp (by omega)]
  exact kk
/-- a row of an array of arrays -/
theorem tp_aald {f : Nat → Nat} {x : Int32} (hx : p.tables.exec = Jvm.exec) (hb : c.code = cc) (hK : va_K D vwCl (tp_ty cy) s) (hP : va_P D vwCl (tp_w cy n ad I o) H) (k N j : Nat) (hk : k < 14 + 15 * n) (hc : tp_c cy n ad I o k = .inl (cy 4, N, .inr (.inr (.inr (.inr (tp_rf N f)))))) (hj : x = nI j) (hlt : j < N) (hN : N < 2 ^ 31) (hdg : decode cc pc = .ok (.aaload, 1))
    (kk : W p l e R s m args below meth c H locs cells slots Q (F0 m (pc + 1) ls (.ref (f j) :: rest))) : W p l e R s m args below meth c H locs cells slots Q (F0 m pc ls (.int x :: .ref (ad k) :: rest)) := by
  subst hj
  have hh : (tp_w cy n ad I o)[k]? = some (ad k, .inl (cy 4, N, .inr (.inr (.inr (.inr (tp_rf N f)))))) := by rw [tp_at hk, hc]
  have e1 : tp_rf N f j = some (f j) := if_pos hlt
  exact W.aald (v := .ref (f j)) (ty := .array .int) hx hb (hP k _ hh) ((hK.2 4 _ rfl).1 N (fun j => va_rf (tp_rf N f j))) rfl (fun q => by cases q) (by show ¬ (_ ∨ (arrV _ _ _).slots.size ≤ _); rw [arrV_size]; exact vp_in_nI hlt hN) (by show (arrV _ _ _).slots[_]? = _; rw [nI_clamp (by omega), arrV_read _ _ hlt, e1]; rfl) rfl rfl hdg kk
theorem tp_iast {x v : Int32} (hx : p.tables.exec = Jvm.exec) (hb : c.code = cc) (hK : va_K D vwCl (tp_ty cy) s) (hP : va_P D vwCl (tp_w cy n ad I o) H) (hD : va_D A (tp_w cy n ad I o)) (hS : va_S A H0 H locs) (k N j : Nat) (hk : k < 14 + 15 * n) (hc : ∀ I : Nat → Nat → Int32, tp_c cy n ad I o k = .inl (cy 0, N, .inl (I k))) (hj : x = nI j) (hlt : j < N) (hN : N < 2 ^ 31) (hdg : decode cc pc = .ok (.iastore, 1))
    (kk : ∀ (H1 : Heap) (locs1 : List Loc), va_P D vwCl (tp_w cy n ad (tp_u I k j v) o) H1 → va_D A (tp_w cy n ad (tp_u I k j v) o) → va_S A H0 H1 locs1 → W p l e R s m args below meth c H1 locs1 cells slots Q (F0 m (pc + 1) ls rest)) : W p l e R s m args below meth c H locs cells slots Q (F0 m pc ls (.int v :: .int x :: .ref (ad k) :: rest)) := by
  subst hj
  refine va_iast hx hb hK hP hD hS k 0 (by rw [tp_at hk, hc]) rfl (vp_in_nI hlt hN) hdg (fun H1 locs1 hP hD hS => ?_)
  rw [nI_clamp (by omega), tp_set hk (I' := tp_u I k j v) tp_u_ne (by rw [hc, tp_u_at])] at hP hD
  exact kk H1 locs1 hP hD hS
theorem tp_zast {x v : Int32} (hx : p.tables.exec = Jvm.exec) (hb : c.code = cc) (hK : va_K D vwCl (tp_ty cy) s) (hP : va_P D vwCl (tp_w cy n ad I o) H) (hD : va_D A (tp_w cy n ad I o)) (hS : va_S A H0 H locs) (k N j : Nat) (hk : k < 14 + 15 * n) (hc : ∀ I : Nat → Nat → Int32, tp_c cy n ad I o k = .inl (cy 1, N, .inl (I k))) (hj : x = nI j) (hlt : j < N) (hN : N < 2 ^ 31) (hv : vp_nar .boolean v = v) (hdg : decode cc pc = .ok (.bastore, 1))
    (kk : ∀ (H1 : Heap) (locs1 : List Loc), va_P D vwCl (tp_w cy n ad (tp_u I k j v) o) H1 → va_D A (tp_w cy n ad (tp_u I k j v) o) → va_S A H0 H1 locs1 → W p l e R s m args below meth c H1 locs1 cells slots Q (F0 m (pc + 1) ls rest)) : W p l e R s m args below meth c H locs cells slots Q (F0 m pc ls (.int v :: .int x :: .ref (ad k) :: rest)) := by
  subst hj
  refine va_zast hx hb hK hP hD hS k 1 (by rw [tp_at hk, hc]) rfl (vp_in_nI hlt hN) hdg (fun H1 locs1 hP hD hS => ?_)
  rw [nI_clamp (by omega), hv, tp_set hk (I' := tp_u I k j v) tp_u_ne (by rw [hc, tp_u_at])] at hP hD
  exact kk H1 locs1 hP hD hS
end TPR
end
section
section TPC
variable {p : Program} {l : Launch} {e : Env} {R : Room} {s : State} {m : MethodId} {args : Array Value} {below : List Frame} {meth : Method} {c : Code} {H : Heap} {locs : List Loc} {cells slots : Nat} {Q : State → Prop}
variable {cc : ByteArray} {pc : Nat} {ls : Array Slot} {rest : List Value} {D : va_G} {A : Nat → Prop} {H0 : Heap}
variable {cy : Nat → ClassId} {n : Nat} {ad : Nat → Nat} {I : Nat → Nat → Int32} {o : Int64}
theorem tp_fr (hD : va_D A (tp_w cy n ad I o)) (hS : va_S A H0 H locs) (hA : ∀ q : Nat, H0.size ≤ q → A q) : ∀ q : Nat, va_A (tp_w cy n ad I o) H.size q → A q := by
  intro q h
  rcases h with ⟨k, e, hk⟩ | h
  · exact hD.2 k _ hk
  · exact hA q (Nat.le_trans hS.1 h)
theorem tp_blind {as : List Value} {sz : Nat} : FrameBlind (va_Pc as (tp_P D cy n ad I o sz)) := fun a U g mk q => by
  obtain ⟨q0, q1, qP, qK, qD⟩ := q
  exact ⟨q0, q1, qP, va_K.moved (u := U) (U := U.calling g mk a) (Vm.Alike.refl U.vm) qK, qD⟩
/-- a field of an int, written -/
theorem tp_put {own C : String} {T : u_T} {N ci index : Nat} {Ts : List Cond} (hx : p.tables.exec = Jvm.exec) (hb : c.code = cc) (hts : ∀ w ∈ Ts, w.before args s = true) (hin : ∀ w ∈ u_ws C T N, w ∈ Ts) (ty0 : Nat → FieldType) (hty : ∀ k, k < N → parseFieldDescriptor (T k).2.2.1 = some (ty0 k)) (hnm : ∀ a, a < N → ∀ b, b < N → a ≠ b → (T a).2.1 ≠ (T b).2.1) (hown : s.vm.findClass own = some m.cls)
    (hK : va_K D vwCl (tp_ty cy) s) (hP : va_P D vwCl (tp_w cy n ad I o) H) (hD : va_D A (tp_w cy n ad I o)) (hS : va_S A H0 H locs) (k : Nat) {fs : List Value} (he : (tp_w cy n ad I o)[k]? = some (ad k, .inr (ci, fs))) (hk : k < 14 + 15 * n) (hc : vwCl[ci]? = some (C, T, N)) (j : Nat) (hj : j < N) (hlink : (Cond.fieldLink own index (T j).1 (T j).2.1 (T j).2.2.1).before args s = true) (hfin : (T j).2.2.2 = false) {ty : FieldType} {v : Int32} (hd : parseFieldDescriptor (T j).2.2.1 = some ty) (hn : narrow ty (.int v) = .int v) (hfit : fits ty (.int v) = true) (hl : j < fs.length)
    (hcell : tp_c cy n ad (tp_u I k j v) o k = .inr (ci, fs.set j (.int v))) (hdg : decode cc pc = .ok (.putfield index, 3))
    (kk : ∀ (H1 : Heap) (locs1 : List Loc), va_P D vwCl (tp_w cy n ad (tp_u I k j v) o) H1 → va_D A (tp_w cy n ad (tp_u I k j v) o) → va_S A H0 H1 locs1 → W p l e R s m args below meth c H1 locs1 cells slots Q (F0 m (pc + 3) ls rest)) : W p l e R s m args below meth c H locs cells slots Q (F0 m pc ls (.int v :: .ref (ad k) :: rest)) := by
  refine va_put (D := D) (ci := ci) (v := .int v) (ty := ty) (C := C) (T := T) (N := N) hx hb hts hin ty0 hty hnm hown hK hP hD hS k he hc j hj hlink (fun _ h9 => h9) hfin hd hn hfit hl hdg (fun H1 locs1 hP hD hS => ?_)
  rw [tp_set hk (I' := tp_u I k j v) tp_u_ne hcell] at hP hD
  exact kk H1 locs1 hP hD hS
theorem tp_putN {own C host : String} {T : u_T} {N ci index : Nat} {Ts : List Cond} (hx : p.tables.exec = Jvm.exec) (hb : c.code = cc) (hts : ∀ w ∈ Ts, w.before args s = true) (hin : ∀ w ∈ u_ws C T N, w ∈ Ts) (ty0 : Nat → FieldType) (hty : ∀ k, k < N → parseFieldDescriptor (T k).2.2.1 = some (ty0 k)) (hnm : ∀ a, a < N → ∀ b, b < N → a ≠ b → (T a).2.1 ≠ (T b).2.1) (hown : s.vm.findClass own = some m.cls)
    (hK : va_K D vwCl (tp_ty cy) s) (hP : va_P D vwCl (tp_w cy n ad I o) H) (hD : va_D A (tp_w cy n ad I o)) (hS : va_S A H0 H locs) (k : Nat) {fs : List Value} (he : (tp_w cy n ad I o)[k]? = some (ad k, .inr (ci, fs))) (hk : k < 14 + 15 * n) (hc : vwCl[ci]? = some (C, T, N)) (j : Nat) (hj : j < N) (hlink : (Cond.fieldLinkNest own index (T j).1 (T j).2.1 (T j).2.2.1 host).before args s = true) (hfin : (T j).2.2.2 = false) {ty : FieldType} {v : Int32} (hd : parseFieldDescriptor (T j).2.2.1 = some ty) (hn : narrow ty (.int v) = .int v) (hfit : fits ty (.int v) = true) (hl : j < fs.length)
    (hcell : tp_c cy n ad (tp_u I k j v) o k = .inr (ci, fs.set j (.int v))) (hdg : decode cc pc = .ok (.putfield index, 3))
    (kk : ∀ (H1 : Heap) (locs1 : List Loc), va_P D vwCl (tp_w cy n ad (tp_u I k j v) o) H1 → va_D A (tp_w cy n ad (tp_u I k j v) o) → va_S A H0 H1 locs1 → W p l e R s m args below meth c H1 locs1 cells slots Q (F0 m (pc + 3) ls rest)) : W p l e R s m args below meth c H locs cells slots Q (F0 m pc ls (.int v :: .ref (ad k) :: rest)) := by
  refine va_putN (D := D) (ci := ci) (v := .int v) (ty := ty) (C := C) (T := T) (N := N) hx hb hts hin ty0 hty hnm hown hK hP hD hS k he hc j hj hlink (fun _ h9 => h9) hfin hd hn hfit hl hdg (fun H1 locs1 hP hD hS => ?_)
  rw [tp_set hk (I' := tp_u I k j v) tp_u_ne hcell] at hP hD
  exact kk H1 locs1 hP hD hS
theorem tp_callV {own C : String} {index nA nL maxL fr lo : Nat} {y : MethodName} {bytes : ByteArray} {ret : Option FieldType} {ws Ts : List Cond} {b : Nat} {As st fs : List Value} {r : Int32} {I' : Nat → Nat → Int32} {q : vw_C}
    (S : CallFix p m c cc nL s args Ts own) (hM : tp_I l y ws (tp_rm fr lo) D cy n ad o (.ref b :: As) I r I') (cw : CallW R s args own C index y bytes maxL ret ws (tp_rm fr lo) 0 0 nA) (hK : va_K D vwCl (tp_ty cy) s) (hP : va_P D vwCl (tp_w cy n ad I o) H) (hD : va_D A (tp_w cy n ad I o)) (hS : va_S A H0 H locs) (hA : ∀ q : Nat, H0.size ≤ q → A q)
    (k0 ci : Nat) (he : (tp_w cy n ad I o)[k0]? = some (b, .inr (ci, fs))) (hci : vwCl[ci]? = some q) (hqC : q.1 = C) (hn : As.length = nA) (hls : ls.size = nL) (hst : st = As.reverse ++ .ref b :: rest) (hroom : (rest.map fun v => v.category).sum ≤ 8) (hdg : decode cc pc = .ok (.invokevirtual index, 3)) (hcs : cells ≤ R.cells ∧ slots ≤ R.slots)
    (kk : ∀ I1 : Nat → Nat → Int32, I' = I1 → ∀ (H1 : Heap) (locs1 : List Loc), va_P D vwCl (tp_w cy n ad I1 o) H1 → va_D A (tp_w cy n ad I1 o) → va_S A H0 H1 locs1 → W p l e R s m args below meth c H1 locs1 cells slots Q (F0 m (pc + 3) ls (.int r :: rest))) : W p l e R s m args below meth c H locs cells slots Q (F0 m pc ls st) := by
  subst hst
  subst hqC
  have hF := tp_fr hD hS hA
  refine va_calli (va_runV (As := As) (rest := rest) S (hM H.size) cw ⟨tp_blind, va_recv hK hP hci he, fun U hU hW => ⟨rfl, by rw [hU], by rw [hU]; exact hP, va_K.moved hW.alike hK, hD.weaken (fun _ _ _ _ => trivial)⟩⟩ rfl hn hls rfl (lv_room hroom) hdg hcs) hS (fun q _ h => hF q h) hF (fun r1 u t H1 locs1 ht hvm hw hB hz1 hk1 hS1 => ?_)
  obtain ⟨rfl, rfl⟩ := hw
  obtain ⟨hP1, hK1, hD1⟩ := hB
  rw [ht] at hP1
  exact kk _ rfl H1 locs1 hP1 (hD1.weaken (fun _ _ _ h => hF _ h)) hS1
theorem tp_callVv {own C : String} {index nA nL maxL fr lo : Nat} {y : MethodName} {bytes : ByteArray} {ret : Option FieldType} {ws Ts : List Cond} {b : Nat} {As st fs : List Value} {I' : Nat → Nat → Int32} {q : vw_C}
    (S : CallFix p m c cc nL s args Ts own) (hM : tp_V l y ws (tp_rm fr lo) D cy n ad o (.ref b :: As) I I') (cw : CallW R s args own C index y bytes maxL ret ws (tp_rm fr lo) 0 0 nA) (hK : va_K D vwCl (tp_ty cy) s) (hP : va_P D vwCl (tp_w cy n ad I o) H) (hD : va_D A (tp_w cy n ad I o)) (hS : va_S A H0 H locs) (hA : ∀ q : Nat, H0.size ≤ q → A q)
    (k0 ci : Nat) (he : (tp_w cy n ad I o)[k0]? = some (b, .inr (ci, fs))) (hci : vwCl[ci]? = some q) (hqC : q.1 = C) (hn : As.length = nA) (hls : ls.size = nL) (hst : st = As.reverse ++ .ref b :: rest) (hroom : (rest.map fun v => v.category).sum ≤ 8) (hdg : decode cc pc = .ok (.invokevirtual index, 3)) (hcs : cells ≤ R.cells ∧ slots ≤ R.slots)
    (kk : ∀ I1 : Nat → Nat → Int32, I' = I1 → ∀ (H1 : Heap) (locs1 : List Loc), va_P D vwCl (tp_w cy n ad I1 o) H1 → va_D A (tp_w cy n ad I1 o) → va_S A H0 H1 locs1 → W p l e R s m args below meth c H1 locs1 cells slots Q (F0 m (pc + 3) ls rest)) : W p l e R s m args below meth c H locs cells slots Q (F0 m pc ls st) := by
  subst hst
  subst hqC
  have hF := tp_fr hD hS hA
  refine va_callv (va_runV (As := As) (rest := rest) S (hM H.size) cw ⟨tp_blind, va_recv hK hP hci he, fun U hU hW => ⟨rfl, by rw [hU], by rw [hU]; exact hP, va_K.moved hW.alike hK, hD.weaken (fun _ _ _ _ => trivial)⟩⟩ rfl hn hls rfl (lv_room hroom) hdg hcs) hS (fun q _ h => hF q h) hF (fun u t H1 locs1 ht hvm hw hB hz1 hk1 hS1 => ?_)
  subst hw
  obtain ⟨hP1, hK1, hD1⟩ := hB
  rw [ht] at hP1
  exact kk _ rfl H1 locs1 hP1 (hD1.weaken (fun _ _ _ h => hF _ h)) hS1
theorem tp_callS {own : String} {index nA nL maxL fr lo : Nat} {y : MethodName} {bytes : ByteArray} {ret : Option FieldType} {ws Ts : List Cond} {As st : List Value} {r : Int32} {I' : Nat → Nat → Int32}
    (S : CallFix p m c cc nL s args Ts own) (hM : tp_I l y ws (tp_rm fr lo) D cy n ad o As I r I') (cw : CallB R s args own index y bytes maxL ret ws (tp_rm fr lo) 0 0 nA ∧ (Cond.static y).before args s = true) (hK : va_K D vwCl (tp_ty cy) s) (hP : va_P D vwCl (tp_w cy n ad I o) H) (hD : va_D A (tp_w cy n ad I o)) (hS : va_S A H0 H locs) (hA : ∀ q : Nat, H0.size ≤ q → A q)
    (hn : As.length = nA) (hls : ls.size = nL) (hst : st = As.reverse ++ rest) (hroom : (rest.map fun v => v.category).sum ≤ 8) (hdg : decode cc pc = .ok (.invokestatic index, 3)) (hcs : cells ≤ R.cells ∧ slots ≤ R.slots)
    (kk : ∀ I1 : Nat → Nat → Int32, I' = I1 → ∀ (H1 : Heap) (locs1 : List Loc), va_P D vwCl (tp_w cy n ad I1 o) H1 → va_D A (tp_w cy n ad I1 o) → va_S A H0 H1 locs1 → W p l e R s m args below meth c H1 locs1 cells slots Q (F0 m (pc + 3) ls (.int r :: rest))) : W p l e R s m args below meth c H locs cells slots Q (F0 m pc ls st) := by
  subst hst
  have hF := tp_fr hD hS hA
  refine va_calli (va_runS (As := As) (rest := rest) S (hM H.size) cw ⟨tp_blind, fun U hU hW => ⟨rfl, by rw [hU], by rw [hU]; exact hP, va_K.moved hW.alike hK, hD.weaken (fun _ _ _ _ => trivial)⟩⟩ rfl hn hls rfl (lv_room hroom) hdg hcs) hS (fun q _ h => hF q h) hF (fun r1 u t H1 locs1 ht hvm hw hB hz1 hk1 hS1 => ?_)
  obtain ⟨rfl, rfl⟩ := hw
  obtain ⟨hP1, hK1, hD1⟩ := hB
  rw [ht] at hP1
  exact kk _ rfl H1 locs1 hP1 (hD1.weaken (fun _ _ _ h => hF _ h)) hS1
/-- a loop of N turns; J, V: the numbers and the locals behind t turns -/
theorem tp_for {nL pcH : Nat} (N : Nat) (J : Nat → Nat → Nat → Int32) (V : Nat → List (Nat × Value))
    (step : ∀ t : Nat, t < N → ∀ (ls : Array Slot) (H : Heap) (locs : List Loc), lv_has ls nL (V t) → va_P D vwCl (tp_w cy n ad (J t) o) H → va_D A (tp_w cy n ad (J t) o) → va_S A H0 H locs → (∀ (ls : Array Slot) (H : Heap) (locs : List Loc), lv_has ls nL (V (t + 1)) → va_P D vwCl (tp_w cy n ad (J (t + 1)) o) H → va_D A (tp_w cy n ad (J (t + 1)) o) → va_S A H0 H locs → W p l e R s m args below meth c H locs cells slots Q (F0 m pcH ls [])) → W p l e R s m args below meth c H locs cells slots Q (F0 m pcH ls []))
    (exit : ∀ (ls : Array Slot) (H : Heap) (locs : List Loc), lv_has ls nL (V N) → va_P D vwCl (tp_w cy n ad (J N) o) H → va_D A (tp_w cy n ad (J N) o) → va_S A H0 H locs → W p l e R s m args below meth c H locs cells slots Q (F0 m pcH ls []))
    (hl : lv_has ls nL (V 0)) (hP : va_P D vwCl (tp_w cy n ad (J 0) o) H) (hD : va_D A (tp_w cy n ad (J 0) o)) (hS : va_S A H0 H locs) : W p l e R s m args below meth c H locs cells slots Q (F0 m pcH ls []) := by
  have key : ∀ k t : Nat, t + k = N → ∀ (ls : Array Slot) (H : Heap) (locs : List Loc), lv_has ls nL (V t) → va_P D vwCl (tp_w cy n ad (J t) o) H → va_D A (tp_w cy n ad (J t) o) → va_S A H0 H locs → W p l e R s m args below meth c H locs cells slots Q (F0 m pcH ls []) := by
    intro k
    induction k with
    | zero =>
      intro t h ls H locs h1 h2 h3 h4
      have ht : t = N := h
      subst ht
      exact exit ls H locs h1 h2 h3 h4
    | succ k ih =>
      intro t h ls H locs h1 h2 h3 h4
      exact step t (by omega) ls H locs h1 h2 h3 h4 (ih (t + 1) (by omega))
  exact key N 0 (by omega) ls H locs hl hP hD hS
end TPC
section TPF
variable {cy : Nat → ClassId} {n : Nat} {ad : Nat → Nat} {I : Nat → Nat → Int32} {o : Int64}
/-- a household's number written, in its cell -/
theorem tp_ch2 (i : Nat) (v : Int32) : tp_c cy n ad (tp_u I (14 + 15 * i) 2 v) o (14 + 15 * i) = .inr (0, [.ref (ad (14 + 15 * i + 1)), .ref (ad (14 + 15 * i + 7)), .int v, .int (I (14 + 15 * i) 3), .ref (ad (14 + 15 * i + 13)), .ref (ad (14 + 15 * i + 14)), .int (I (14 + 15 * i) 6), .int (I (14 + 15 * i) 7), .int (I (14 + 15 * i) 8)]) := by
  rw [tp_cH0]
  unfold tp_hc
  simp only [tp_u_at]
  rfl
theorem tp_ch6 (i : Nat) (v : Int32) : tp_c cy n ad (tp_u I (14 + 15 * i) 6 v) o (14 + 15 * i) = .inr (0, [.ref (ad (14 + 15 * i + 1)), .ref (ad (14 + 15 * i + 7)), .int (I (14 + 15 * i) 2), .int (I (14 + 15 * i) 3), .ref (ad (14 + 15 * i + 13)), .ref (ad (14 + 15 * i + 14)), .int v, .int (I (14 + 15 * i) 7), .int (I (14 + 15 * i) 8)]) := by
  rw [tp_cH0]
  unfold tp_hc
  simp only [tp_u_at]
  rfl
theorem tp_ch7 (i : Nat) (v : Int32) : tp_c cy n ad (tp_u I (14 + 15 * i) 7 v) o (14 + 15 * i) = .inr (0, [.ref (ad (14 + 15 * i + 1)), .ref (ad (14 + 15 * i + 7)), .int (I (14 + 15 * i) 2), .int (I (14 + 15 * i) 3), .ref (ad (14 + 15 * i + 13)), .ref (ad (14 + 15 * i + 14)), .int (I (14 + 15 * i) 6), .int v, .int (I (14 + 15 * i) 8)]) := by
  rw [tp_cH0]
  unfold tp_hc
  simp only [tp_u_at]
  rfl
theorem tp_ch8 (i : Nat) (v : Int32) : tp_c cy n ad (tp_u I (14 + 15 * i) 8 v) o (14 + 15 * i) = .inr (0, [.ref (ad (14 + 15 * i + 1)), .ref (ad (14 + 15 * i + 7)), .int (I (14 + 15 * i) 2), .int (I (14 + 15 * i) 3), .ref (ad (14 + 15 * i + 13)), .ref (ad (14 + 15 * i + 14)), .int (I (14 + 15 * i) 6), .int (I (14 + 15 * i) 7), .int v]) := by
  rw [tp_cH0]
  unfold tp_hc
  simp only [tp_u_at]
  rfl
theorem tp_hVo (i : Nat) : tp_c cy n ad I o (14 + 15 * i + 1) = .inl (cy 4, 5, .inr (.inr (.inr (.inr (tp_rf 5 (fun f => ad (14 + 15 * i + 2 + f))))))) := by
  rw [tp_cH i (by decide)]
  rfl
theorem tp_hSo (i : Nat) : tp_c cy n ad I o (14 + 15 * i + 7) = .inl (cy 4, 5, .inr (.inr (.inr (.inr (tp_rf 5 (fun f => ad (14 + 15 * i + 8 + f))))))) := by
  rw [tp_cH i (by decide)]
  rfl
end TPF
end
section
/-! WHAT A HOUSEHOLD'S METHODS ANSWER: b is its first cell, m a month -/
def tp_need (I : Nat → Nat → Int32) (b m : Nat) : Int32 := (if I (b + 2 + 0) m ≤ 1 then 30000 + I (b + 2 + 1) m * 8000 else 30000 + I (b + 2 + 1) m * 8000 + 12000) + (if 60000 < I (b + 2 + 2) m then 60000 else I (b + 2 + 2) m)
def tp_pos (x : Int32) : Int32 := if 0 < x then x else 0
def tp_min (x y : Int32) : Int32 := if y < x then y else x
def tp_taper (I : Nat → Nat → Int32) (b m : Nat) : Int32 := tp_pos (I (b + 2 + 3) m - 20000) * 60 / 100
def tp_tariff (I : Nat → Nat → Int32) (b m : Nat) : Int32 := (tp_pos (I (b + 2 + 4) m - 600000) + 25000 - 1) / 25000 * 500
def tp_due (I : Nat → Nat → Int32) (b m : Nat) : Int32 := if I (b + 2 + 4) m ≤ 1600000 then (if 500 ≤ tp_need I b m - tp_taper I b m - tp_tariff I b m then tp_need I b m - tp_taper I b m - tp_tariff I b m else 0) else 0
def tp_sum (g : Nat → Int32) (a : Nat) : Nat → Int32
  | 0 => 0
  | k + 1 => tp_sum g a k + g (a + k)
/-- what is due for the months from a to e - 1, less what was assessed -/
def tp_open (I : Nat → Nat → Int32) (b a e : Nat) : Int32 := tp_sum (fun m => tp_due I b m - I (b + 13) m) a (e - a)
def tp_owed (I : Nat → Nat → Int32) (b : Nat) (x : Int32) : Int32 := tp_pos (I b 6 - x)
def tp_arr (I : Nat → Nat → Int32) (b : Nat) (x : Int32) : Int32 := tp_pos (x - I b 6)
def tp_rec (I : Nat → Nat → Int32) (b m : Nat) (x : Int32) : Int32 := if I b 8 = 0 then tp_min x (tp_min (tp_due I b m * 15 / 100) (tp_pos (tp_due I b m + I (b + 2 + 3) m - 25000))) else 0
def tp_paym (I : Nat → Nat → Int32) (b a m : Nat) : Int32 := tp_due I b m - tp_rec I b m (tp_owed I b (tp_open I b a m)) + tp_arr I b (tp_open I b a m)
end
section
set_option maxHeartbeats 4000000 in
set_option maxRecDepth 100000 in
/-- needIn(month) -/
theorem hc_needIn (l : Launch) (D : va_G) (cy : Nat → ClassId) (n : Nat) (ad : Nat → Nat) (o : Int64) (I : Nat → Nat → Int32) (i : Nat) (hi : i < n) (m0 : Nat) (hm : m0 < 48) : tp_I l yX0_needIn wsX0_needIn (tp_rm 1 21) D cy n ad o [.ref (ad (14 + 15 * i)), .int (nI m0)] I (tp_need I (14 + 15 * i) m0) (I) := by
  refine tp_ofI (lv := [(0, .ref (ad (14 + 15 * i))), (1, .int (nI m0))]) (by decide) rfl (Nat.le_of_ble_eq_true rfl) rfl (fun p e s m args below meth c A ls S0 => ?_)
  obtain ⟨hx, hb, hr, hml, hown, hts, hlocks, hA, hK, hP, hD, hS, hl⟩ := S0
  refine lv_sipush (v := 30000) hx hb dX0_needIn_0 (by decide) ?_
  refine lv_aload_n hx hb dX0_needIn_3 rfl (lv_at hl 0 rfl) ?_
  refine va_get (D := D) (ci := 0) (v := .ref (ad (14 + 15 * i + 1))) (C := RX0) (T := TX0) (N := 9) hx hb hts (fun _ h => List.mem_cons_of_mem _ (List.mem_append_right _ (h))) hown hK hP (14 + 15 * i) (tp_eh hi) rfl 0 (by decide) (hts _ (List.mem_of_getElem? (i := 1) rfl)) (fun _ h9 => h9) rfl dX0_needIn_4 ?_
  refine lv_iconst (v := 1) hx hb dX0_needIn_7 (by decide) ?_
  refine tp_aald hx hb hK hP (14 + 15 * i + 1) 5 (1) (by omega) (tp_hVo i) (by decide) (by decide) (by decide) dX0_needIn_8 ?_
  refine lv_iload_n hx hb dX0_needIn_9 rfl (lv_at hl 1 rfl) ?_
  refine tp_iald hx hb hK hP (14 + 15 * i + 2 + 1) 48 (m0) (by omega) (tp_hV i (f := 1) (by decide)) rfl (by omega) (by decide) dX0_needIn_10 ?_
  refine lv_sipush (v := 8000) hx hb dX0_needIn_11 (by decide) ?_
  refine lv_imul hx hb dX0_needIn_14 ?_
  refine lv_iadd hx hb dX0_needIn_15 ?_
  refine lv_istore_n (lv' := [(2, .int (30000 + ((I (14 + 15 * i + 2 + 1) m0) * 8000))), (0, .ref (ad (14 + 15 * i))), (1, .int (nI m0))]) hx hb dX0_needIn_16 rfl hl (by decide) rfl (fun ls hl => ?_)
  refine lv_aload_n hx hb dX0_needIn_17 rfl (lv_at hl 1 rfl) ?_
  refine va_get (D := D) (ci := 0) (v := .ref (ad (14 + 15 * i + 1))) (C := RX0) (T := TX0) (N := 9) hx hb hts (fun _ h => List.mem_cons_of_mem _ (List.mem_append_right _ (h))) hown hK hP (14 + 15 * i) (tp_eh hi) rfl 0 (by decide) (hts _ (List.mem_of_getElem? (i := 1) rfl)) (fun _ h9 => h9) rfl dX0_needIn_18 ?_
  refine lv_iconst (v := 0) hx hb dX0_needIn_21 (by decide) ?_
  refine tp_aald hx hb hK hP (14 + 15 * i + 1) 5 (0) (by omega) (tp_hVo i) (by decide) (by decide) (by decide) dX0_needIn_22 ?_
  refine lv_iload_n hx hb dX0_needIn_23 rfl (lv_at hl 2 rfl) ?_
  refine tp_iald hx hb hK hP (14 + 15 * i + 2 + 0) 48 (m0) (by omega) (tp_hV i (f := 0) (by decide)) rfl (by omega) (by decide) dX0_needIn_24 ?_
  refine lv_iconst (v := 1) hx hb dX0_needIn_25 (by decide) ?_
  refine lv_icmp_le (tgt := 35) hx hb dX0_needIn_26 (by decide) (fun c26_1 => ?_) (fun c26_1 => ?_)
  · refine lv_iload_n hx hb dX0_needIn_35 rfl (lv_at hl 0 rfl) ?_
    refine lv_aload_n hx hb dX0_needIn_36 rfl (lv_at hl 1 rfl) ?_
    refine va_get (D := D) (ci := 0) (v := .ref (ad (14 + 15 * i + 1))) (C := RX0) (T := TX0) (N := 9) hx hb hts (fun _ h => List.mem_cons_of_mem _ (List.mem_append_right _ (h))) hown hK hP (14 + 15 * i) (tp_eh hi) rfl 0 (by decide) (hts _ (List.mem_of_getElem? (i := 1) rfl)) (fun _ h9 => h9) rfl dX0_needIn_37 ?_
    refine lv_iconst (v := 2) hx hb dX0_needIn_40 (by decide) ?_
    refine tp_aald hx hb hK hP (14 + 15 * i + 1) 5 (2) (by omega) (tp_hVo i) (by decide) (by decide) (by decide) dX0_needIn_41 ?_
    refine lv_iload_n hx hb dX0_needIn_42 rfl (lv_at hl 2 rfl) ?_
    refine tp_iald hx hb hK hP (14 + 15 * i + 2 + 2) 48 (m0) (by omega) (tp_hV i (f := 2) (by decide)) rfl (by omega) (by decide) dX0_needIn_43 ?_
    refine lv_ldc (v := 60000) hx hb hown (hts _ (List.mem_of_getElem? (i := 2) rfl)) dX0_needIn_44 ?_
    refine va_mmin hx hb (hml.trans hl.1.symm) hown (hts _ (List.mem_of_getElem? (i := 3) rfl)) (hts _ (List.mem_of_getElem? (i := 4) rfl)) (hts _ (List.mem_of_getElem? (i := 5) rfl)) (hts _ (List.mem_of_getElem? (i := 6) rfl)) (Nat.le_of_ble_eq_true rfl) (Nat.le_of_ble_eq_true rfl) (Nat.zero_le _) (Nat.zero_le _) dX0_needIn_46 ?_
    refine lv_iadd hx hb dX0_needIn_49 ?_
    exact tp_reti hx hb hr hlocks hK hP hD hS rfl (by unfold tp_need; rw [if_pos c26_1]) rfl dX0_needIn_50
  · refine lv_iincW (v := ((30000 + ((I (14 + 15 * i + 2 + 1) m0) * 8000)) + 12000)) (lv' := [(2, .int ((30000 + ((I (14 + 15 * i + 2 + 1) m0) * 8000)) + 12000)), (0, .ref (ad (14 + 15 * i))), (1, .int (nI m0))]) hx hb dX0_needIn_29 hl (k := 0) rfl rfl (by decide) rfl (fun ls hl => ?_)
    refine lv_iload_n hx hb dX0_needIn_35 rfl (lv_at hl 0 rfl) ?_
    refine lv_aload_n hx hb dX0_needIn_36 rfl (lv_at hl 1 rfl) ?_
    refine va_get (D := D) (ci := 0) (v := .ref (ad (14 + 15 * i + 1))) (C := RX0) (T := TX0) (N := 9) hx hb hts (fun _ h => List.mem_cons_of_mem _ (List.mem_append_right _ (h))) hown hK hP (14 + 15 * i) (tp_eh hi) rfl 0 (by decide) (hts _ (List.mem_of_getElem? (i := 1) rfl)) (fun _ h9 => h9) rfl dX0_needIn_37 ?_
    refine lv_iconst (v := 2) hx hb dX0_needIn_40 (by decide) ?_
    refine tp_aald hx hb hK hP (14 + 15 * i + 1) 5 (2) (by omega) (tp_hVo i) (by decide) (by decide) (by decide) dX0_needIn_41 ?_
    refine lv_iload_n hx hb dX0_needIn_42 rfl (lv_at hl 2 rfl) ?_
    refine tp_iald hx hb hK hP (14 + 15 * i + 2 + 2) 48 (m0) (by omega) (tp_hV i (f := 2) (by decide)) rfl (by omega) (by decide) dX0_needIn_43 ?_
    refine lv_ldc (v := 60000) hx hb hown (hts _ (List.mem_of_getElem? (i := 2) rfl)) dX0_needIn_44 ?_
    refine va_mmin hx hb (hml.trans hl.1.symm) hown (hts _ (List.mem_of_getElem? (i := 3) rfl)) (hts _ (List.mem_of_getElem? (i := 4) rfl)) (hts _ (List.mem_of_getElem? (i := 5) rfl)) (hts _ (List.mem_of_getElem? (i := 6) rfl)) (Nat.le_of_ble_eq_true rfl) (Nat.le_of_ble_eq_true rfl) (Nat.zero_le _) (Nat.zero_le _) dX0_needIn_46 ?_
    refine lv_iadd hx hb dX0_needIn_49 ?_
    exact tp_reti hx hb hr hlocks hK hP hD hS rfl (by unfold tp_need; rw [if_neg c26_1]) rfl dX0_needIn_50
set_option maxHeartbeats 4000000 in
set_option maxRecDepth 100000 in
/-- taperIn(month) -/
theorem hc_taperIn (l : Launch) (D : va_G) (cy : Nat → ClassId) (n : Nat) (ad : Nat → Nat) (o : Int64) (I : Nat → Nat → Int32) (i : Nat) (hi : i < n) (m0 : Nat) (hm : m0 < 48) : tp_I l yX0_taperIn wsX0_taperIn (tp_rm 1 21) D cy n ad o [.ref (ad (14 + 15 * i)), .int (nI m0)] I (tp_taper I (14 + 15 * i) m0) (I) := by
  refine tp_ofI (lv := [(0, .ref (ad (14 + 15 * i))), (1, .int (nI m0))]) (by decide) rfl (Nat.le_of_ble_eq_true rfl) rfl (fun p e s m args below meth c A ls S0 => ?_)
  obtain ⟨hx, hb, hr, hml, hown, hts, hlocks, hA, hK, hP, hD, hS, hl⟩ := S0
  refine lv_iconst (v := 0) hx hb dX0_taperIn_0 (by decide) ?_
  refine lv_aload_n hx hb dX0_taperIn_1 rfl (lv_at hl 0 rfl) ?_
  refine va_get (D := D) (ci := 0) (v := .ref (ad (14 + 15 * i + 1))) (C := RX0) (T := TX0) (N := 9) hx hb hts (fun _ h => List.mem_cons_of_mem _ (List.mem_append_right _ (h))) hown hK hP (14 + 15 * i) (tp_eh hi) rfl 0 (by decide) (hts _ (List.mem_of_getElem? (i := 1) rfl)) (fun _ h9 => h9) rfl dX0_taperIn_2 ?_
  refine lv_iconst (v := 3) hx hb dX0_taperIn_5 (by decide) ?_
  refine tp_aald hx hb hK hP (14 + 15 * i + 1) 5 (3) (by omega) (tp_hVo i) (by decide) (by decide) (by decide) dX0_taperIn_6 ?_
  refine lv_iload_n hx hb dX0_taperIn_7 rfl (lv_at hl 1 rfl) ?_
  refine tp_iald hx hb hK hP (14 + 15 * i + 2 + 3) 48 (m0) (by omega) (tp_hV i (f := 3) (by decide)) rfl (by omega) (by decide) dX0_taperIn_8 ?_
  refine lv_sipush (v := 20000) hx hb dX0_taperIn_9 (by decide) ?_
  refine lv_isub hx hb dX0_taperIn_12 ?_
  refine va_mmax hx hb (hml.trans hl.1.symm) hown (hts _ (List.mem_of_getElem? (i := 2) rfl)) (hts _ (List.mem_of_getElem? (i := 3) rfl)) (hts _ (List.mem_of_getElem? (i := 4) rfl)) (hts _ (List.mem_of_getElem? (i := 5) rfl)) (Nat.le_of_ble_eq_true rfl) (Nat.le_of_ble_eq_true rfl) (Nat.zero_le _) (Nat.zero_le _) dX0_taperIn_13 ?_
  refine lv_istore_n (lv' := [(2, .int (if 0 < ((I (14 + 15 * i + 2 + 3) m0) - 20000) then ((I (14 + 15 * i + 2 + 3) m0) - 20000) else 0)), (0, .ref (ad (14 + 15 * i))), (1, .int (nI m0))]) hx hb dX0_taperIn_16 rfl hl (by decide) rfl (fun ls hl => ?_)
  refine lv_iload_n hx hb dX0_taperIn_17 rfl (lv_at hl 0 rfl) ?_
  refine lv_bipush (v := 60) hx hb dX0_taperIn_18 (by decide) ?_
  refine lv_imul hx hb dX0_taperIn_20 ?_
  refine lv_bipush (v := 100) hx hb dX0_taperIn_21 (by decide) ?_
  refine lv_idiv hx hb dX0_taperIn_23 (by decide) ?_
  exact tp_reti hx hb hr hlocks hK hP hD hS rfl (by rfl) rfl dX0_taperIn_24
set_option maxHeartbeats 4000000 in
set_option maxRecDepth 100000 in
/-- tariffIn(month) -/
theorem hc_tariffIn (l : Launch) (D : va_G) (cy : Nat → ClassId) (n : Nat) (ad : Nat → Nat) (o : Int64) (I : Nat → Nat → Int32) (i : Nat) (hi : i < n) (m0 : Nat) (hm : m0 < 48) : tp_I l yX0_tariffIn wsX0_tariffIn (tp_rm 1 21) D cy n ad o [.ref (ad (14 + 15 * i)), .int (nI m0)] I (tp_tariff I (14 + 15 * i) m0) (I) := by
  refine tp_ofI (lv := [(0, .ref (ad (14 + 15 * i))), (1, .int (nI m0))]) (by decide) rfl (Nat.le_of_ble_eq_true rfl) rfl (fun p e s m args below meth c A ls S0 => ?_)
  obtain ⟨hx, hb, hr, hml, hown, hts, hlocks, hA, hK, hP, hD, hS, hl⟩ := S0
  refine lv_iconst (v := 0) hx hb dX0_tariffIn_0 (by decide) ?_
  refine lv_aload_n hx hb dX0_tariffIn_1 rfl (lv_at hl 0 rfl) ?_
  refine va_get (D := D) (ci := 0) (v := .ref (ad (14 + 15 * i + 1))) (C := RX0) (T := TX0) (N := 9) hx hb hts (fun _ h => List.mem_cons_of_mem _ (List.mem_append_right _ (h))) hown hK hP (14 + 15 * i) (tp_eh hi) rfl 0 (by decide) (hts _ (List.mem_of_getElem? (i := 1) rfl)) (fun _ h9 => h9) rfl dX0_tariffIn_2 ?_
  refine lv_iconst (v := 4) hx hb dX0_tariffIn_5 (by decide) ?_
  refine tp_aald hx hb hK hP (14 + 15 * i + 1) 5 (4) (by omega) (tp_hVo i) (by decide) (by decide) (by decide) dX0_tariffIn_6 ?_
  refine lv_iload_n hx hb dX0_tariffIn_7 rfl (lv_at hl 1 rfl) ?_
  refine tp_iald hx hb hK hP (14 + 15 * i + 2 + 4) 48 (m0) (by omega) (tp_hV i (f := 4) (by decide)) rfl (by omega) (by decide) dX0_tariffIn_8 ?_
  refine lv_ldc (v := 600000) hx hb hown (hts _ (List.mem_of_getElem? (i := 2) rfl)) dX0_tariffIn_9 ?_
  refine lv_isub hx hb dX0_tariffIn_11 ?_
  refine va_mmax hx hb (hml.trans hl.1.symm) hown (hts _ (List.mem_of_getElem? (i := 3) rfl)) (hts _ (List.mem_of_getElem? (i := 4) rfl)) (hts _ (List.mem_of_getElem? (i := 5) rfl)) (hts _ (List.mem_of_getElem? (i := 6) rfl)) (Nat.le_of_ble_eq_true rfl) (Nat.le_of_ble_eq_true rfl) (Nat.zero_le _) (Nat.zero_le _) dX0_tariffIn_12 ?_
  refine lv_istore_n (lv' := [(2, .int (if 0 < ((I (14 + 15 * i + 2 + 4) m0) - 600000) then ((I (14 + 15 * i + 2 + 4) m0) - 600000) else 0)), (0, .ref (ad (14 + 15 * i))), (1, .int (nI m0))]) hx hb dX0_tariffIn_15 rfl hl (by decide) rfl (fun ls hl => ?_)
  refine lv_iload_n hx hb dX0_tariffIn_16 rfl (lv_at hl 0 rfl) ?_
  refine lv_sipush (v := 25000) hx hb dX0_tariffIn_17 (by decide) ?_
  refine lv_iadd hx hb dX0_tariffIn_20 ?_
  refine lv_iconst (v := 1) hx hb dX0_tariffIn_21 (by decide) ?_
  refine lv_isub hx hb dX0_tariffIn_22 ?_
  refine lv_sipush (v := 25000) hx hb dX0_tariffIn_23 (by decide) ?_
  refine lv_idiv hx hb dX0_tariffIn_26 (by decide) ?_
  refine lv_istore_n (lv' := [(3, .int ((((if 0 < ((I (14 + 15 * i + 2 + 4) m0) - 600000) then ((I (14 + 15 * i + 2 + 4) m0) - 600000) else 0) + 25000) - 1) / 25000)), (2, .int (if 0 < ((I (14 + 15 * i + 2 + 4) m0) - 600000) then ((I (14 + 15 * i + 2 + 4) m0) - 600000) else 0)), (0, .ref (ad (14 + 15 * i))), (1, .int (nI m0))]) hx hb dX0_tariffIn_27 rfl hl (by decide) rfl (fun ls hl => ?_)
  refine lv_iload_n hx hb dX0_tariffIn_28 rfl (lv_at hl 0 rfl) ?_
  refine lv_sipush (v := 500) hx hb dX0_tariffIn_29 (by decide) ?_
  refine lv_imul hx hb dX0_tariffIn_32 ?_
  exact tp_reti hx hb hr hlocks hK hP hD hS rfl (by rfl) rfl dX0_tariffIn_33
set_option maxHeartbeats 4000000 in
set_option maxRecDepth 100000 in
/-- dueIn(month) -/
theorem hc_dueIn (l : Launch) (D : va_G) (cy : Nat → ClassId) (n : Nat) (ad : Nat → Nat) (o : Int64) (I : Nat → Nat → Int32) (i : Nat) (hi : i < n) (m0 : Nat) (hm : m0 < 48) : tp_I l yX0_dueIn wsX0_dueIn (tp_rm 2 44) D cy n ad o [.ref (ad (14 + 15 * i)), .int (nI m0)] I (tp_due I (14 + 15 * i) m0) (I) := by
  refine tp_ofI (lv := [(0, .ref (ad (14 + 15 * i))), (1, .int (nI m0))]) (by decide) rfl (Nat.le_of_ble_eq_true rfl) rfl (fun p e s m args below meth c A ls S0 => ?_)
  obtain ⟨hx, hb, hr, hml, hown, hts, hlocks, hA, hK, hP, hD, hS, hl⟩ := S0
  refine lv_aload_n hx hb dX0_dueIn_0 rfl (lv_at hl 0 rfl) ?_
  refine va_get (D := D) (ci := 0) (v := .ref (ad (14 + 15 * i + 1))) (C := RX0) (T := TX0) (N := 9) hx hb hts (fun _ h => List.mem_cons_of_mem _ (List.mem_append_right _ (h))) hown hK hP (14 + 15 * i) (tp_eh hi) rfl 0 (by decide) (hts _ (List.mem_of_getElem? (i := 1) rfl)) (fun _ h9 => h9) rfl dX0_dueIn_1 ?_
  refine lv_iconst (v := 4) hx hb dX0_dueIn_4 (by decide) ?_
  refine tp_aald hx hb hK hP (14 + 15 * i + 1) 5 (4) (by omega) (tp_hVo i) (by decide) (by decide) (by decide) dX0_dueIn_5 ?_
  refine lv_iload_n hx hb dX0_dueIn_6 rfl (lv_at hl 1 rfl) ?_
  refine tp_iald hx hb hK hP (14 + 15 * i + 2 + 4) 48 (m0) (by omega) (tp_hV i (f := 4) (by decide)) rfl (by omega) (by decide) dX0_dueIn_7 ?_
  refine lv_ldc (v := 1600000) hx hb hown (hts _ (List.mem_of_getElem? (i := 2) rfl)) dX0_dueIn_8 ?_
  refine lv_icmp_le (tgt := 15) hx hb dX0_dueIn_10 (by decide) (fun c10_1 => ?_) (fun c10_1 => ?_)
  · refine lv_aload_n hx hb dX0_dueIn_15 rfl (lv_at hl 0 rfl) ?_
    refine lv_iload_n hx hb dX0_dueIn_16 rfl (lv_at hl 1 rfl) ?_
    refine tp_callV ⟨hx, hb, hml, hown, hts⟩ (hc_needIn l D cy n ad o I i hi m0 (by omega)) (cwV 1 hts gX0_dueIn_X0_needIn rfl rfl rfl (by decide +kernel) ⟨Nat.le_of_ble_eq_true rfl, Nat.le_of_ble_eq_true rfl⟩) hK hP hD hS hA (14 + 15 * i) 0 (tp_eh hi) rfl rfl rfl hl.1 rfl (Nat.le_of_ble_eq_true rfl) dX0_dueIn_17 ⟨Nat.zero_le _, Nat.zero_le _⟩ (fun I9 e9 H locs hP hD hS => ?_)
    subst e9
    refine lv_aload_n hx hb dX0_dueIn_20 rfl (lv_at hl 0 rfl) ?_
    refine lv_iload_n hx hb dX0_dueIn_21 rfl (lv_at hl 1 rfl) ?_
    refine tp_callV ⟨hx, hb, hml, hown, hts⟩ (hc_taperIn l D cy n ad o I i hi m0 (by omega)) (cwV 1 hts gX0_dueIn_X0_taperIn rfl rfl rfl (by decide +kernel) ⟨Nat.le_of_ble_eq_true rfl, Nat.le_of_ble_eq_true rfl⟩) hK hP hD hS hA (14 + 15 * i) 0 (tp_eh hi) rfl rfl rfl hl.1 rfl (Nat.le_of_ble_eq_true rfl) dX0_dueIn_22 ⟨Nat.zero_le _, Nat.zero_le _⟩ (fun I9 e9 H locs hP hD hS => ?_)
    subst e9
    refine lv_isub hx hb dX0_dueIn_25 ?_
    refine lv_aload_n hx hb dX0_dueIn_26 rfl (lv_at hl 0 rfl) ?_
    refine lv_iload_n hx hb dX0_dueIn_27 rfl (lv_at hl 1 rfl) ?_
    refine tp_callV ⟨hx, hb, hml, hown, hts⟩ (hc_tariffIn l D cy n ad o I i hi m0 (by omega)) (cwV 1 hts gX0_dueIn_X0_tariffIn rfl rfl rfl (by decide +kernel) ⟨Nat.le_of_ble_eq_true rfl, Nat.le_of_ble_eq_true rfl⟩) hK hP hD hS hA (14 + 15 * i) 0 (tp_eh hi) rfl rfl rfl hl.1 rfl (Nat.le_of_ble_eq_true rfl) dX0_dueIn_28 ⟨Nat.zero_le _, Nat.zero_le _⟩ (fun I9 e9 H locs hP hD hS => ?_)
    subst e9
    refine lv_isub hx hb dX0_dueIn_31 ?_
    refine lv_istore_n (lv' := [(2, .int (((tp_need I (14 + 15 * i) m0) - (tp_taper I (14 + 15 * i) m0)) - (tp_tariff I (14 + 15 * i) m0))), (0, .ref (ad (14 + 15 * i))), (1, .int (nI m0))]) hx hb dX0_dueIn_32 rfl hl (by decide) rfl (fun ls hl => ?_)
    refine lv_iload_n hx hb dX0_dueIn_33 rfl (lv_at hl 0 rfl) ?_
    refine lv_sipush (v := 500) hx hb dX0_dueIn_34 (by decide) ?_
    refine lv_icmp_ge (tgt := 44) hx hb dX0_dueIn_37 (by decide) (fun c37_2 => ?_) (fun c37_2 => ?_)
    · refine lv_iload_n hx hb dX0_dueIn_44 rfl (lv_at hl 0 rfl) ?_
      exact tp_reti hx hb hr hlocks hK hP hD hS rfl (by unfold tp_due; rw [if_pos c10_1, if_pos c37_2]) rfl dX0_dueIn_45
    · refine lv_iconst (v := 0) hx hb dX0_dueIn_40 (by decide) ?_
      refine lv_goto (tgt := 45) hx hb dX0_dueIn_41 (by decide) ?_
      exact tp_reti hx hb hr hlocks hK hP hD hS rfl (by unfold tp_due; rw [if_pos c10_1, if_neg c37_2]) rfl dX0_dueIn_45
  · refine lv_iconst (v := 0) hx hb dX0_dueIn_13 (by decide) ?_
    exact tp_reti hx hb hr hlocks hK hP hD hS rfl (by unfold tp_due; rw [if_neg c10_1]) rfl dX0_dueIn_14
set_option maxHeartbeats 4000000 in
set_option maxRecDepth 100000 in
/-- unassessedBefore(end) -/
theorem hc_unassessedBefore (l : Launch) (D : va_G) (cy : Nat → ClassId) (n : Nat) (ad : Nat → Nat) (o : Int64) (I : Nat → Nat → Int32) (i : Nat) (hi : i < n) (a0 e0 : Nat) (ha : I (14 + 15 * i) 3 = nI a0) (ha8 : a0 ≤ 48) (he8 : e0 ≤ 48) : tp_I l yX0_unassessedBefore wsX0_unassessedBefore (tp_rm 3 66) D cy n ad o [.ref (ad (14 + 15 * i)), .int (nI e0)] I (tp_open I (14 + 15 * i) a0 e0) (I) := by
  refine tp_ofI (lv := [(0, .ref (ad (14 + 15 * i))), (1, .int (nI e0))]) (by decide) rfl (Nat.le_of_ble_eq_true rfl) rfl (fun p e s m args below meth c A ls S0 => ?_)
  obtain ⟨hx, hb, hr, hml, hown, hts, hlocks, hA, hK, hP, hD, hS, hl⟩ := S0
  refine lv_iconst (v := 0) hx hb dX0_unassessedBefore_0 (by decide) ?_
  refine lv_istore_n (lv' := [(2, .int 0), (0, .ref (ad (14 + 15 * i))), (1, .int (nI e0))]) hx hb dX0_unassessedBefore_1 rfl hl (by decide) rfl (fun ls hl => ?_)
  refine lv_aload_n hx hb dX0_unassessedBefore_2 rfl (lv_at hl 1 rfl) ?_
  refine va_get (D := D) (ci := 0) (v := .int (I (14 + 15 * i) 3)) (C := RX0) (T := TX0) (N := 9) hx hb hts (fun _ h => List.mem_cons_of_mem _ (List.mem_append_right _ (h))) hown hK hP (14 + 15 * i) (tp_eh hi) rfl 3 (by decide) (hts _ (List.mem_of_getElem? (i := 1) rfl)) (fun _ h9 => h9) rfl dX0_unassessedBefore_3 ?_
  rw [ha]
  refine lv_istore_n (lv' := [(3, .int (nI a0)), (2, .int 0), (0, .ref (ad (14 + 15 * i))), (1, .int (nI e0))]) hx hb dX0_unassessedBefore_6 rfl hl (by decide) rfl (fun ls hl => ?_)
  refine tp_for (nL := 4) (e0 - a0) (fun _ => I) (fun t => [(3, .int (nI (a0 + t))), (2, .int (tp_sum (fun m => tp_due I (14 + 15 * i) m - I (14 + 15 * i + 13) m) a0 t)), (0, .ref (ad (14 + 15 * i))), (1, .int (nI e0))]) (fun t ht ls H locs hl hP hD hS ih => ?_) (fun ls H locs hl hP hD hS => ?_) hl hP hD hS
  · refine lv_iload_n hx hb dX0_unassessedBefore_7 rfl (lv_at hl 0 rfl) ?_
    refine lv_iload_n hx hb dX0_unassessedBefore_8 rfl (lv_at hl 3 rfl) ?_
    refine lv_icmp_ge (tgt := 33) hx hb dX0_unassessedBefore_9 (by decide) (fun c9_1 => ?_) (fun c9_1 => ?_)
    · exact absurd c9_1 (nI_ge (by omega) (by omega))
    · refine lv_iload_n hx hb dX0_unassessedBefore_12 rfl (lv_at hl 1 rfl) ?_
      refine lv_aload_n hx hb dX0_unassessedBefore_13 rfl (lv_at hl 2 rfl) ?_
      refine lv_iload_n hx hb dX0_unassessedBefore_14 rfl (lv_at hl 0 rfl) ?_
      refine tp_callV ⟨hx, hb, hml, hown, hts⟩ (hc_dueIn l D cy n ad o I i hi (a0 + t) (by omega)) (cwV 1 hts gX0_unassessedBefore_X0_dueIn rfl rfl rfl (by decide +kernel) ⟨Nat.le_of_ble_eq_true rfl, Nat.le_of_ble_eq_true rfl⟩) hK hP hD hS hA (14 + 15 * i) 0 (tp_eh hi) rfl rfl rfl hl.1 rfl (Nat.le_of_ble_eq_true rfl) dX0_unassessedBefore_15 ⟨Nat.zero_le _, Nat.zero_le _⟩ (fun I9 e9 H locs hP hD hS => ?_)
      subst e9
      refine lv_aload_n hx hb dX0_unassessedBefore_18 rfl (lv_at hl 2 rfl) ?_
      refine va_get (D := D) (ci := 0) (v := .ref (ad (14 + 15 * i + 13))) (C := RX0) (T := TX0) (N := 9) hx hb hts (fun _ h => List.mem_cons_of_mem _ (List.mem_append_right _ (h))) hown hK hP (14 + 15 * i) (tp_eh hi) rfl 4 (by decide) (hts _ (List.mem_of_getElem? (i := 2) rfl)) (fun _ h9 => h9) rfl dX0_unassessedBefore_19 ?_
      refine lv_iload_n hx hb dX0_unassessedBefore_22 rfl (lv_at hl 0 rfl) ?_
      refine tp_iald hx hb hK hP (14 + 15 * i + 13) 48 ((a0 + t)) (by omega) (tp_hA i) rfl (by omega) (by decide) dX0_unassessedBefore_23 ?_
      refine lv_isub hx hb dX0_unassessedBefore_24 ?_
      refine lv_iadd hx hb dX0_unassessedBefore_25 ?_
      refine lv_istore_n (lv' := [(2, .int ((tp_sum (fun m => tp_due I (14 + 15 * i) m - I (14 + 15 * i + 13) m) a0 t) + ((tp_due I (14 + 15 * i) (a0 + t)) - (I (14 + 15 * i + 13) (a0 + t))))), (3, .int (nI (a0 + t))), (0, .ref (ad (14 + 15 * i))), (1, .int (nI e0))]) hx hb dX0_unassessedBefore_26 rfl hl (by decide) rfl (fun ls hl => ?_)
      refine lv_iinc (v := (nI ((a0 + t) + 1))) (lv' := [(3, .int (nI ((a0 + t) + 1))), (2, .int ((tp_sum (fun m => tp_due I (14 + 15 * i) m - I (14 + 15 * i + 13) m) a0 t) + ((tp_due I (14 + 15 * i) (a0 + t)) - (I (14 + 15 * i + 13) (a0 + t))))), (0, .ref (ad (14 + 15 * i))), (1, .int (nI e0))]) hx hb dX0_unassessedBefore_27 hl (k := 1) rfl (nI_1 _) (by decide) rfl (fun ls hl => ?_)
      refine lv_goto (tgt := 7) hx hb dX0_unassessedBefore_30 (by decide) ?_
      exact ih ls H locs (lv_sub hl [0, 1, 2, 3] rfl) hP hD hS
  · refine lv_iload_n hx hb dX0_unassessedBefore_7 rfl (lv_at hl 0 rfl) ?_
    refine lv_iload_n hx hb dX0_unassessedBefore_8 rfl (lv_at hl 3 rfl) ?_
    refine lv_icmp_ge (tgt := 33) hx hb dX0_unassessedBefore_9 (by decide) (fun c9_1 => ?_) (fun c9_1 => ?_)
    · refine lv_iload_n hx hb dX0_unassessedBefore_33 rfl (lv_at hl 1 rfl) ?_
      exact tp_reti hx hb hr hlocks hK hP hD hS rfl rfl rfl dX0_unassessedBefore_34
    · exact absurd (nI_le (by omega) (by omega)) c9_1
set_option maxHeartbeats 4000000 in
set_option maxRecDepth 100000 in
/-- owedAfter -/
theorem hc_owedAfter (l : Launch) (D : va_G) (cy : Nat → ClassId) (n : Nat) (ad : Nat → Nat) (o : Int64) (I : Nat → Nat → Int32) (i : Nat) (hi : i < n) (x : Int32) : tp_I l yX0_owedAfter wsX0_owedAfter (tp_rm 1 21) D cy n ad o [.ref (ad (14 + 15 * i)), .int x] I (tp_owed I (14 + 15 * i) x) (I) := by
  refine tp_ofI (lv := [(0, .ref (ad (14 + 15 * i))), (1, .int x)]) (by decide) rfl (Nat.le_of_ble_eq_true rfl) rfl (fun p e s m args below meth c A ls S0 => ?_)
  obtain ⟨hx, hb, hr, hml, hown, hts, hlocks, hA, hK, hP, hD, hS, hl⟩ := S0
  refine lv_iconst (v := 0) hx hb dX0_owedAfter_0 (by decide) ?_
  refine lv_aload_n hx hb dX0_owedAfter_1 rfl (lv_at hl 0 rfl) ?_
  refine va_get (D := D) (ci := 0) (v := .int (I (14 + 15 * i) 6)) (C := RX0) (T := TX0) (N := 9) hx hb hts (fun _ h => List.mem_cons_of_mem _ (List.mem_append_right _ (h))) hown hK hP (14 + 15 * i) (tp_eh hi) rfl 6 (by decide) (hts _ (List.mem_of_getElem? (i := 1) rfl)) (fun _ h9 => h9) rfl dX0_owedAfter_2 ?_
  refine lv_iload_n hx hb dX0_owedAfter_5 rfl (lv_at hl 1 rfl) ?_
  refine lv_isub hx hb dX0_owedAfter_6 ?_
  refine va_mmax hx hb (hml.trans hl.1.symm) hown (hts _ (List.mem_of_getElem? (i := 2) rfl)) (hts _ (List.mem_of_getElem? (i := 3) rfl)) (hts _ (List.mem_of_getElem? (i := 4) rfl)) (hts _ (List.mem_of_getElem? (i := 5) rfl)) (Nat.le_of_ble_eq_true rfl) (Nat.le_of_ble_eq_true rfl) (Nat.zero_le _) (Nat.zero_le _) dX0_owedAfter_7 ?_
  exact tp_reti hx hb hr hlocks hK hP hD hS rfl rfl rfl dX0_owedAfter_10
set_option maxHeartbeats 4000000 in
set_option maxRecDepth 100000 in
/-- arrearsOf -/
theorem hc_arrearsOf (l : Launch) (D : va_G) (cy : Nat → ClassId) (n : Nat) (ad : Nat → Nat) (o : Int64) (I : Nat → Nat → Int32) (i : Nat) (hi : i < n) (x : Int32) : tp_I l yX0_arrearsOf wsX0_arrearsOf (tp_rm 1 21) D cy n ad o [.ref (ad (14 + 15 * i)), .int x] I (tp_arr I (14 + 15 * i) x) (I) := by
  refine tp_ofI (lv := [(0, .ref (ad (14 + 15 * i))), (1, .int x)]) (by decide) rfl (Nat.le_of_ble_eq_true rfl) rfl (fun p e s m args below meth c A ls S0 => ?_)
  obtain ⟨hx, hb, hr, hml, hown, hts, hlocks, hA, hK, hP, hD, hS, hl⟩ := S0
  refine lv_iconst (v := 0) hx hb dX0_arrearsOf_0 (by decide) ?_
  refine lv_iload_n hx hb dX0_arrearsOf_1 rfl (lv_at hl 1 rfl) ?_
  refine lv_aload_n hx hb dX0_arrearsOf_2 rfl (lv_at hl 0 rfl) ?_
  refine va_get (D := D) (ci := 0) (v := .int (I (14 + 15 * i) 6)) (C := RX0) (T := TX0) (N := 9) hx hb hts (fun _ h => List.mem_cons_of_mem _ (List.mem_append_right _ (h))) hown hK hP (14 + 15 * i) (tp_eh hi) rfl 6 (by decide) (hts _ (List.mem_of_getElem? (i := 1) rfl)) (fun _ h9 => h9) rfl dX0_arrearsOf_3 ?_
  refine lv_isub hx hb dX0_arrearsOf_6 ?_
  refine va_mmax hx hb (hml.trans hl.1.symm) hown (hts _ (List.mem_of_getElem? (i := 2) rfl)) (hts _ (List.mem_of_getElem? (i := 3) rfl)) (hts _ (List.mem_of_getElem? (i := 4) rfl)) (hts _ (List.mem_of_getElem? (i := 5) rfl)) (Nat.le_of_ble_eq_true rfl) (Nat.le_of_ble_eq_true rfl) (Nat.zero_le _) (Nat.zero_le _) dX0_arrearsOf_7 ?_
  exact tp_reti hx hb hr hlocks hK hP hD hS rfl rfl rfl dX0_arrearsOf_10
set_option maxHeartbeats 4000000 in
set_option maxRecDepth 100000 in
/-- recoverableIn(month, owed) -/
theorem hc_recoverableIn (l : Launch) (D : va_G) (cy : Nat → ClassId) (n : Nat) (ad : Nat → Nat) (o : Int64) (I : Nat → Nat → Int32) (i : Nat) (hi : i < n) (m0 : Nat) (hm : m0 < 48) (x : Int32) : tp_I l yX0_recoverableIn wsX0_recoverableIn (tp_rm 3 66) D cy n ad o [.ref (ad (14 + 15 * i)), .int (nI m0), .int x] I (tp_rec I (14 + 15 * i) m0 x) (I) := by
  refine tp_ofI (lv := [(0, .ref (ad (14 + 15 * i))), (1, .int (nI m0)), (2, .int x)]) (by decide) rfl (Nat.le_of_ble_eq_true rfl) rfl (fun p e s m args below meth c A ls S0 => ?_)
  obtain ⟨hx, hb, hr, hml, hown, hts, hlocks, hA, hK, hP, hD, hS, hl⟩ := S0
  refine lv_aload_n hx hb dX0_recoverableIn_0 rfl (lv_at hl 0 rfl) ?_
  refine va_get (D := D) (ci := 0) (v := .int (I (14 + 15 * i) 8)) (C := RX0) (T := TX0) (N := 9) hx hb hts (fun _ h => List.mem_cons_of_mem _ (List.mem_append_right _ (h))) hown hK hP (14 + 15 * i) (tp_eh hi) rfl 8 (by decide) (hts _ (List.mem_of_getElem? (i := 1) rfl)) (fun _ h9 => h9) rfl dX0_recoverableIn_1 ?_
  refine lv_if_eq (tgt := 9) hx hb dX0_recoverableIn_4 (by decide) (fun c4_1 => ?_) (fun c4_1 => ?_)
  · refine lv_aload_n hx hb dX0_recoverableIn_9 rfl (lv_at hl 0 rfl) ?_
    refine lv_iload_n hx hb dX0_recoverableIn_10 rfl (lv_at hl 1 rfl) ?_
    refine tp_callV ⟨hx, hb, hml, hown, hts⟩ (hc_dueIn l D cy n ad o I i hi m0 (by omega)) (cwV 1 hts gX0_recoverableIn_X0_dueIn rfl rfl rfl (by decide +kernel) ⟨Nat.le_of_ble_eq_true rfl, Nat.le_of_ble_eq_true rfl⟩) hK hP hD hS hA (14 + 15 * i) 0 (tp_eh hi) rfl rfl rfl hl.1 rfl (Nat.le_of_ble_eq_true rfl) dX0_recoverableIn_11 ⟨Nat.zero_le _, Nat.zero_le _⟩ (fun I9 e9 H locs hP hD hS => ?_)
    subst e9
    refine lv_istore_n (lv' := [(3, .int (tp_due I (14 + 15 * i) m0)), (0, .ref (ad (14 + 15 * i))), (1, .int (nI m0)), (2, .int x)]) hx hb dX0_recoverableIn_14 rfl hl (by decide) rfl (fun ls hl => ?_)
    refine lv_iload_n hx hb dX0_recoverableIn_15 rfl (lv_at hl 0 rfl) ?_
    refine lv_bipush (v := 15) hx hb dX0_recoverableIn_16 (by decide) ?_
    refine lv_imul hx hb dX0_recoverableIn_18 ?_
    refine lv_bipush (v := 100) hx hb dX0_recoverableIn_19 (by decide) ?_
    refine lv_idiv hx hb dX0_recoverableIn_21 (by decide) ?_
    refine lv_istore (lv' := [(4, .int (((tp_due I (14 + 15 * i) m0) * 15) / 100)), (3, .int (tp_due I (14 + 15 * i) m0)), (0, .ref (ad (14 + 15 * i))), (1, .int (nI m0)), (2, .int x)]) hx hb dX0_recoverableIn_22 hl (by decide) rfl (fun ls hl => ?_)
    refine lv_iconst (v := 0) hx hb dX0_recoverableIn_24 (by decide) ?_
    refine lv_iload_n hx hb dX0_recoverableIn_25 rfl (lv_at hl 1 rfl) ?_
    refine lv_aload_n hx hb dX0_recoverableIn_26 rfl (lv_at hl 2 rfl) ?_
    refine va_get (D := D) (ci := 0) (v := .ref (ad (14 + 15 * i + 1))) (C := RX0) (T := TX0) (N := 9) hx hb hts (fun _ h => List.mem_cons_of_mem _ (List.mem_append_right _ (h))) hown hK hP (14 + 15 * i) (tp_eh hi) rfl 0 (by decide) (hts _ (List.mem_of_getElem? (i := 2) rfl)) (fun _ h9 => h9) rfl dX0_recoverableIn_27 ?_
    refine lv_iconst (v := 3) hx hb dX0_recoverableIn_30 (by decide) ?_
    refine tp_aald hx hb hK hP (14 + 15 * i + 1) 5 (3) (by omega) (tp_hVo i) (by decide) (by decide) (by decide) dX0_recoverableIn_31 ?_
    refine lv_iload_n hx hb dX0_recoverableIn_32 rfl (lv_at hl 3 rfl) ?_
    refine tp_iald hx hb hK hP (14 + 15 * i + 2 + 3) 48 (m0) (by omega) (tp_hV i (f := 3) (by decide)) rfl (by omega) (by decide) dX0_recoverableIn_33 ?_
    refine lv_iadd hx hb dX0_recoverableIn_34 ?_
    refine lv_sipush (v := 25000) hx hb dX0_recoverableIn_35 (by decide) ?_
    refine lv_isub hx hb dX0_recoverableIn_38 ?_
    refine va_mmax hx hb (hml.trans hl.1.symm) hown (hts _ (List.mem_of_getElem? (i := 3) rfl)) (hts _ (List.mem_of_getElem? (i := 4) rfl)) (hts _ (List.mem_of_getElem? (i := 5) rfl)) (hts _ (List.mem_of_getElem? (i := 6) rfl)) (Nat.le_of_ble_eq_true rfl) (Nat.le_of_ble_eq_true rfl) (Nat.zero_le _) (Nat.zero_le _) dX0_recoverableIn_39 ?_
    refine lv_istore (lv' := [(5, .int (if 0 < (((tp_due I (14 + 15 * i) m0) + (I (14 + 15 * i + 2 + 3) m0)) - 25000) then (((tp_due I (14 + 15 * i) m0) + (I (14 + 15 * i + 2 + 3) m0)) - 25000) else 0)), (4, .int (((tp_due I (14 + 15 * i) m0) * 15) / 100)), (3, .int (tp_due I (14 + 15 * i) m0)), (0, .ref (ad (14 + 15 * i))), (1, .int (nI m0)), (2, .int x)]) hx hb dX0_recoverableIn_42 hl (by decide) rfl (fun ls hl => ?_)
    refine lv_iload_n hx hb dX0_recoverableIn_44 rfl (lv_at hl 5 rfl) ?_
    refine lv_iload hx hb dX0_recoverableIn_45 (lv_at hl 1 rfl) ?_
    refine lv_iload hx hb dX0_recoverableIn_47 (lv_at hl 0 rfl) ?_
    refine va_mmin hx hb (hml.trans hl.1.symm) hown (hts _ (List.mem_of_getElem? (i := 7) rfl)) (hts _ (List.mem_of_getElem? (i := 8) rfl)) (hts _ (List.mem_of_getElem? (i := 5) rfl)) (hts _ (List.mem_of_getElem? (i := 9) rfl)) (Nat.le_of_ble_eq_true rfl) (Nat.le_of_ble_eq_true rfl) (Nat.zero_le _) (Nat.zero_le _) dX0_recoverableIn_49 ?_
    refine va_mmin hx hb (hml.trans hl.1.symm) hown (hts _ (List.mem_of_getElem? (i := 7) rfl)) (hts _ (List.mem_of_getElem? (i := 8) rfl)) (hts _ (List.mem_of_getElem? (i := 5) rfl)) (hts _ (List.mem_of_getElem? (i := 9) rfl)) (Nat.le_of_ble_eq_true rfl) (Nat.le_of_ble_eq_true rfl) (Nat.zero_le _) (Nat.zero_le _) dX0_recoverableIn_52 ?_
    exact tp_reti hx hb hr hlocks hK hP hD hS rfl (by unfold tp_rec; rw [if_pos c4_1]; rfl) rfl dX0_recoverableIn_55
  · refine lv_iconst (v := 0) hx hb dX0_recoverableIn_7 (by decide) ?_
    exact tp_reti hx hb hr hlocks hK hP hD hS rfl (by unfold tp_rec; rw [if_neg c4_1]) rfl dX0_recoverableIn_8
set_option maxHeartbeats 4000000 in
set_option maxRecDepth 100000 in
/-- paymentIn(month) -/
theorem hc_paymentIn (l : Launch) (D : va_G) (cy : Nat → ClassId) (n : Nat) (ad : Nat → Nat) (o : Int64) (I : Nat → Nat → Int32) (i : Nat) (hi : i < n) (a0 m0 : Nat) (ha : I (14 + 15 * i) 3 = nI a0) (ha8 : a0 ≤ 48) (hm : m0 < 48) : tp_I l yX0_paymentIn wsX0_paymentIn (tp_rm 4 91) D cy n ad o [.ref (ad (14 + 15 * i)), .int (nI m0)] I (tp_paym I (14 + 15 * i) a0 m0) (I) := by
  refine tp_ofI (lv := [(0, .ref (ad (14 + 15 * i))), (1, .int (nI m0))]) (by decide) rfl (Nat.le_of_ble_eq_true rfl) rfl (fun p e s m args below meth c A ls S0 => ?_)
  obtain ⟨hx, hb, hr, hml, hown, hts, hlocks, hA, hK, hP, hD, hS, hl⟩ := S0
  refine lv_aload_n hx hb dX0_paymentIn_0 rfl (lv_at hl 0 rfl) ?_
  refine lv_iload_n hx hb dX0_paymentIn_1 rfl (lv_at hl 1 rfl) ?_
  refine tp_callV ⟨hx, hb, hml, hown, hts⟩ (hc_unassessedBefore l D cy n ad o I i hi a0 m0 ha (by omega) (by omega)) (cwV 1 hts gX0_paymentIn_X0_unassessedBefore rfl rfl rfl (by decide +kernel) ⟨Nat.le_of_ble_eq_true rfl, Nat.le_of_ble_eq_true rfl⟩) hK hP hD hS hA (14 + 15 * i) 0 (tp_eh hi) rfl rfl rfl hl.1 rfl (Nat.le_of_ble_eq_true rfl) dX0_paymentIn_2 ⟨Nat.zero_le _, Nat.zero_le _⟩ (fun I9 e9 H locs hP hD hS => ?_)
  subst e9
  refine lv_istore_n (lv' := [(2, .int (tp_open I (14 + 15 * i) a0 m0)), (0, .ref (ad (14 + 15 * i))), (1, .int (nI m0))]) hx hb dX0_paymentIn_5 rfl hl (by decide) rfl (fun ls hl => ?_)
  refine lv_aload_n hx hb dX0_paymentIn_6 rfl (lv_at hl 1 rfl) ?_
  refine lv_iload_n hx hb dX0_paymentIn_7 rfl (lv_at hl 2 rfl) ?_
  refine lv_aload_n hx hb dX0_paymentIn_8 rfl (lv_at hl 1 rfl) ?_
  refine lv_iload_n hx hb dX0_paymentIn_9 rfl (lv_at hl 0 rfl) ?_
  refine tp_callV ⟨hx, hb, hml, hown, hts⟩ (hc_owedAfter l D cy n ad o I i hi (tp_open I (14 + 15 * i) a0 m0)) (cwV 1 hts gX0_paymentIn_X0_owedAfter rfl rfl rfl (by decide +kernel) ⟨Nat.le_of_ble_eq_true rfl, Nat.le_of_ble_eq_true rfl⟩) hK hP hD hS hA (14 + 15 * i) 0 (tp_eh hi) rfl rfl rfl hl.1 rfl (Nat.le_of_ble_eq_true rfl) dX0_paymentIn_10 ⟨Nat.zero_le _, Nat.zero_le _⟩ (fun I9 e9 H locs hP hD hS => ?_)
  subst e9
  refine tp_callV ⟨hx, hb, hml, hown, hts⟩ (hc_recoverableIn l D cy n ad o I i hi m0 (by omega) (tp_owed I (14 + 15 * i) (tp_open I (14 + 15 * i) a0 m0))) (cwV 2 hts gX0_paymentIn_X0_recoverableIn rfl rfl rfl (by decide +kernel) ⟨Nat.le_of_ble_eq_true rfl, Nat.le_of_ble_eq_true rfl⟩) hK hP hD hS hA (14 + 15 * i) 0 (tp_eh hi) rfl rfl rfl hl.1 rfl (Nat.le_of_ble_eq_true rfl) dX0_paymentIn_13 ⟨Nat.zero_le _, Nat.zero_le _⟩ (fun I9 e9 H locs hP hD hS => ?_)
  subst e9
  refine lv_istore_n (lv' := [(3, .int (tp_rec I (14 + 15 * i) m0 (tp_owed I (14 + 15 * i) (tp_open I (14 + 15 * i) a0 m0)))), (2, .int (tp_open I (14 + 15 * i) a0 m0)), (0, .ref (ad (14 + 15 * i))), (1, .int (nI m0))]) hx hb dX0_paymentIn_16 rfl hl (by decide) rfl (fun ls hl => ?_)
  refine lv_aload_n hx hb dX0_paymentIn_17 rfl (lv_at hl 2 rfl) ?_
  refine lv_iload_n hx hb dX0_paymentIn_18 rfl (lv_at hl 3 rfl) ?_
  refine tp_callV ⟨hx, hb, hml, hown, hts⟩ (hc_dueIn l D cy n ad o I i hi m0 (by omega)) (cwV 1 hts gX0_paymentIn_X0_dueIn rfl rfl rfl (by decide +kernel) ⟨Nat.le_of_ble_eq_true rfl, Nat.le_of_ble_eq_true rfl⟩) hK hP hD hS hA (14 + 15 * i) 0 (tp_eh hi) rfl rfl rfl hl.1 rfl (Nat.le_of_ble_eq_true rfl) dX0_paymentIn_19 ⟨Nat.zero_le _, Nat.zero_le _⟩ (fun I9 e9 H locs hP hD hS => ?_)
  subst e9
  refine lv_iload_n hx hb dX0_paymentIn_22 rfl (lv_at hl 0 rfl) ?_
  refine lv_isub hx hb dX0_paymentIn_23 ?_
  refine lv_aload_n hx hb dX0_paymentIn_24 rfl (lv_at hl 2 rfl) ?_
  refine lv_iload_n hx hb dX0_paymentIn_25 rfl (lv_at hl 1 rfl) ?_
  refine tp_callV ⟨hx, hb, hml, hown, hts⟩ (hc_arrearsOf l D cy n ad o I i hi (tp_open I (14 + 15 * i) a0 m0)) (cwV 1 hts gX0_paymentIn_X0_arrearsOf rfl rfl rfl (by decide +kernel) ⟨Nat.le_of_ble_eq_true rfl, Nat.le_of_ble_eq_true rfl⟩) hK hP hD hS hA (14 + 15 * i) 0 (tp_eh hi) rfl rfl rfl hl.1 rfl (Nat.le_of_ble_eq_true rfl) dX0_paymentIn_26 ⟨Nat.zero_le _, Nat.zero_le _⟩ (fun I9 e9 H locs hP hD hS => ?_)
  subst e9
  refine lv_iadd hx hb dX0_paymentIn_29 ?_
  exact tp_reti hx hb hr hlocks hK hP hD hS rfl rfl rfl dX0_paymentIn_30
end
section
/-! WHAT THE MODEL'S METHODS ANSWER -/
section TPM
variable {p : Program} {l : Launch} {e : Env} {R : Room} {s : State} {m : MethodId} {args : Array Value} {below : List Frame} {meth : Method} {c : Code} {H : Heap} {locs : List Loc} {cells slots : Nat} {Q : State → Prop}
variable {pc : Nat} {ls : Array Slot} {rest : List Value}
/-- where ways meet -/
theorem tp_meet {α : Sort _} {g0 : JFrame} (x : α) (g : α → JFrame) (h : (∀ y : α, y = x → W p l e R s m args below meth c H locs cells slots Q (g y)) → W p l e R s m args below meth c H locs cells slots Q g0) (k : W p l e R s m args below meth c H locs cells slots Q (g x)) : W p l e R s m args below meth c H locs cells slots Q g0 := h (fun y ey => by subst ey; exact k)
theorem tp_meetH {D : va_G} {A : Nat → Prop} {H0 : Heap} {cy : Nat → ClassId} {n : Nat} {ad : Nat → Nat} {I : Nat → Nat → Int32} {o : Int64} {α : Sort _} {g0 : JFrame} (x : α) (g : α → JFrame)
    (h : (∀ y : α, y = x → ∀ (H : Heap) (locs : List Loc), va_P D vwCl (tp_w cy n ad I o) H → va_D A (tp_w cy n ad I o) → va_S A H0 H locs → W p l e R s m args below meth c H locs cells slots Q (g y)) → W p l e R s m args below meth c H locs cells slots Q g0)
    (k : ∀ (H : Heap) (locs : List Loc), va_P D vwCl (tp_w cy n ad I o) H → va_D A (tp_w cy n ad I o) → va_S A H0 H locs → W p l e R s m args below meth c H locs cells slots Q (g x)) : W p l e R s m args below meth c H locs cells slots Q g0 := h (fun y ey => by subst ey; exact k)
theorem tp_eqi {x y : Int32} (h : x = y) (k : W p l e R s m args below meth c H locs cells slots Q (F0 m pc ls (.int y :: rest))) : W p l e R s m args below meth c H locs cells slots Q (F0 m pc ls (.int x :: rest)) := by
  subst h
  exact k
end TPM
theorem tp_eqI {l : Launch} {y : MethodName} {ws : List Cond} {rm : Room} {D : va_G} {cy : Nat → ClassId} {n : Nat} {ad : Nat → Nat} {o : Int64} {as : List Value} {I : Nat → Nat → Int32} {r r' : Int32} {I1 I2 : Nat → Nat → Int32} (h : tp_I l y ws rm D cy n ad o as I r I1) (hr : r = r') (hI : I1 = I2) : tp_I l y ws rm D cy n ad o as I r' I2 := by
  subst hr
  subst hI
  exact h
def tp_in (v lo hi : Int32) : Int32 := if v < lo then 0 else if hi < v then 0 else 1
def tp_low (f : Int32) : Int32 := if f = 0 then 1 else 0
def tp_great (f : Int32) : Int32 := if f = 0 then 2 else if f = 1 then 9 else if f = 4 then 10000000 else 1000000
def tp_least (x y : Int32) : Int32 := if y ≤ x then y else x
def tp_cnt (I : Nat → Nat → Int32) (f m la : Int32) (k : Nat) : Int32 := if I 5 k = f then (if m < I 6 k then 0 else if I 6 k < la then 0 else 1) else 0
def tp_scan (I : Nat → Nat → Int32) (f m : Int32) (b : Nat) : Nat → Int32 × Int32
  | 0 => (tp_low f, -1)
  | t + 1 => (if tp_cnt I f m (tp_scan I f m b t).2 (b + t) = 0 then (tp_scan I f m b t).1 else I 7 (b + t), if tp_cnt I f m (tp_scan I f m b t).2 (b + t) = 0 then (tp_scan I f m b t).2 else I 6 (b + t))
def tp_mfact (I : Nat → Nat → Int32) (h : Nat) (f m : Int32) : Int32 := (tp_scan I f m (100 * h) (I 4 h).toNatClampNeg).1
/-- the model's count of a household's changes is a number up to 100 -/
def tp_C (I : Nat → Nat → Int32) (h : Nat) : Prop := ∃ c : Nat, c ≤ 100 ∧ I 4 h = nI c
def tp_mneed (I : Nat → Nat → Int32) (h : Nat) (m : Int32) : Int32 := 30000 + (if tp_mfact I h 0 m = 2 then 12000 else 0) + 8000 * tp_mfact I h 1 m + (if 60000 ≤ tp_mfact I h 2 m then 60000 else tp_mfact I h 2 m)
def tp_mtaper (I : Nat → Nat → Int32) (h : Nat) (m : Int32) : Int32 := if tp_mfact I h 3 m - 20000 ≤ 0 then 0 else (tp_mfact I h 3 m - 20000) * 60 / 100
def tp_mtariff (I : Nat → Nat → Int32) (h : Nat) (m : Int32) : Int32 := if tp_mfact I h 4 m - 600000 ≤ 0 then 0 else (tp_mfact I h 4 m - 600000 + 24999) / 25000 * 500
def tp_mdue (I : Nat → Nat → Int32) (h : Nat) (m : Int32) : Int32 := if tp_mneed I h m - tp_mtaper I h m - tp_mtariff I h m < 500 then 0 else if tp_mfact I h 4 m ≤ 1600000 then tp_mneed I h m - tp_mtaper I h m - tp_mtariff I h m else 0
def tp_mopen (I : Nat → Nat → Int32) (h a e : Nat) : Int32 := tp_sum (fun m => tp_mdue I h (nI m) - I 8 (48 * h + m)) a (e - a)
def tp_ask (I : Nat → Nat → Int32) (x m : Int32) : Int32 := if tp_in x 0 (I 2 2 - 1) = 0 then 1 else if tp_in m 0 47 = 0 then 1 else 0
/-- what reckons says: debt brought down, arrears, room, debt then, taken, pay -/
def tp_rdown (I : Nat → Nat → Int32) (h : Nat) (more : Int32) : Int32 := if more ≤ 0 then 0 else tp_least more (I 10 h)
def tp_rarr (I : Nat → Nat → Int32) (h : Nat) (more : Int32) : Int32 := if more ≤ 0 then 0 else more - tp_rdown I h more
def tp_rroom (I : Nat → Nat → Int32) (h : Nat) (k : Int32) : Int32 := tp_mdue I h k + tp_mfact I h 3 k - 25000
def tp_rthen (I : Nat → Nat → Int32) (h : Nat) (more : Int32) : Int32 := if more ≤ 0 then I 10 h - more else I 10 h - tp_rdown I h more
def tp_rtaken (I : Nat → Nat → Int32) (h : Nat) (k more : Int32) : Int32 := if I 12 h = 0 then (if 0 ≤ tp_rroom I h k then tp_least (tp_rthen I h more) (tp_least (tp_mdue I h k * 15 / 100) (tp_rroom I h k)) else 0) else 0
def tp_rpay (I : Nat → Nat → Int32) (h : Nat) (k more : Int32) : Int32 := tp_mdue I h k - tp_rtaken I h k more + tp_rarr I h more
def tp_reck (I : Nat → Nat → Int32) (h : Nat) (k more : Int32) : Nat → Nat → Int32 := tp_u (tp_u (tp_u I 2 13 (tp_rthen I h more)) 2 14 (tp_rtaken I h k more)) 2 15 (tp_rpay I h k more)
/-- are a change's arguments in their ranges? -/
def tp_tok (f d v : Int32) : Int32 := if tp_in f 0 4 = 0 then 0 else if tp_in d 0 1439 = 0 then 0 else tp_in v (tp_low f) (tp_great f)
end
section
set_option maxHeartbeats 4000000 in
set_option maxRecDepth 100000 in
/-- thrown() -/
theorem mc_thrown (l : Launch) (D : va_G) (cy : Nat → ClassId) (n : Nat) (ad : Nat → Nat) (o : Int64) (I : Nat → Nat → Int32)  : tp_I l yX2_thrown wsX2_thrown (tp_rm 0 0) D cy n ad o [.ref (ad (2))] I (I 2 0) (I) := by
  refine tp_ofI (lv := [(0, .ref (ad (2)))]) (by decide) rfl (Nat.le_of_ble_eq_true rfl) rfl (fun p e s m args below meth c A ls S0 => ?_)
  obtain ⟨hx, hb, hr, hml, hown, hts, hlocks, hA, hK, hP, hD, hS, hl⟩ := S0
  refine lv_aload_n hx hb dX2_thrown_0 rfl (lv_at hl 0 rfl) ?_
  refine va_get (D := D) (ci := 2) (v := .int (I 2 0)) (C := RX2) (T := TX2) (N := 16) hx hb hts (fun _ h => List.mem_cons_of_mem _ (List.mem_append_right _ (h))) hown hK hP 2 tp_e2 rfl 0 (by decide) (hts _ (List.mem_of_getElem? (i := 1) rfl)) (fun _ h9 => h9) rfl dX2_thrown_1 ?_
  exact tp_reti hx hb hr hlocks hK hP hD hS rfl rfl rfl dX2_thrown_4
set_option maxHeartbeats 4000000 in
set_option maxRecDepth 100000 in
/-- fails(code) -/
theorem mc_fails (l : Launch) (D : va_G) (cy : Nat → ClassId) (n : Nat) (ad : Nat → Nat) (o : Int64) (I : Nat → Nat → Int32) (x : Int32) : tp_I l yX2_fails wsX2_fails (tp_rm 0 0) D cy n ad o [.ref (ad (2)), .int x] I (0) (tp_u I 2 0 x) := by
  refine tp_ofI (lv := [(0, .ref (ad (2))), (1, .int x)]) (by decide) rfl (Nat.le_of_ble_eq_true rfl) rfl (fun p e s m args below meth c A ls S0 => ?_)
  obtain ⟨hx, hb, hr, hml, hown, hts, hlocks, hA, hK, hP, hD, hS, hl⟩ := S0
  refine lv_aload_n hx hb dX2_fails_0 rfl (lv_at hl 0 rfl) ?_
  refine lv_iload_n hx hb dX2_fails_1 rfl (lv_at hl 1 rfl) ?_
  refine tp_put (ci := 2) (v := x) (ty := .int) (C := RX2) (T := TX2) (N := 16) hx hb hts (fun _ h => List.mem_cons_of_mem _ (List.mem_append_right _ (h))) tyX2 tyX2_ok nmX2 hown hK hP hD hS 2 tp_e2 (by omega) rfl 0 (by decide) (hts _ (List.mem_of_getElem? (i := 1) rfl)) rfl (by decide +kernel) rfl rfl (Nat.le_of_ble_eq_true rfl) rfl dX2_fails_2 (fun H locs hP hD hS => ?_)
  refine lv_iconst (v := 0) hx hb dX2_fails_5 (by decide) ?_
  exact tp_reti hx hb hr hlocks hK hP hD hS rfl rfl rfl dX2_fails_6
set_option maxHeartbeats 4000000 in
set_option maxRecDepth 100000 in
/-- in(v, low, high) -/
theorem mc_in (l : Launch) (D : va_G) (cy : Nat → ClassId) (n : Nat) (ad : Nat → Nat) (o : Int64) (I : Nat → Nat → Int32) (x a b : Int32) : tp_I l yX2_in wsX2_in (tp_rm 0 0) D cy n ad o [.int x, .int a, .int b] I (tp_in x a b) (I) := by
  refine tp_ofI (lv := [(0, .int x), (1, .int a), (2, .int b)]) (by decide) rfl (Nat.le_of_ble_eq_true rfl) rfl (fun p e s m args below meth c A ls S0 => ?_)
  obtain ⟨hx, hb, hr, hml, hown, hts, hlocks, hA, hK, hP, hD, hS, hl⟩ := S0
  refine lv_iload_n hx hb dX2_in_0 rfl (lv_at hl 0 rfl) ?_
  refine lv_iload_n hx hb dX2_in_1 rfl (lv_at hl 1 rfl) ?_
  refine lv_icmp_lt (tgt := 14) hx hb dX2_in_2 (by decide) (fun c2_1 => ?_) (fun c2_1 => ?_)
  · refine lv_iconst (v := 0) hx hb dX2_in_14 (by decide) ?_
    exact tp_reti hx hb hr hlocks hK hP hD hS rfl (by unfold tp_in; rw [if_pos c2_1]) rfl dX2_in_15
  · refine lv_iload_n hx hb dX2_in_5 rfl (lv_at hl 0 rfl) ?_
    refine lv_iload_n hx hb dX2_in_6 rfl (lv_at hl 2 rfl) ?_
    refine lv_icmp_gt (tgt := 14) hx hb dX2_in_7 (by decide) (fun c7_2 => ?_) (fun c7_2 => ?_)
    · refine lv_iconst (v := 0) hx hb dX2_in_14 (by decide) ?_
      exact tp_reti hx hb hr hlocks hK hP hD hS rfl (by unfold tp_in; rw [if_neg c2_1, if_pos c7_2]) rfl dX2_in_15
    · refine lv_iconst (v := 1) hx hb dX2_in_10 (by decide) ?_
      refine lv_goto (tgt := 15) hx hb dX2_in_11 (by decide) ?_
      exact tp_reti hx hb hr hlocks hK hP hD hS rfl (by unfold tp_in; rw [if_neg c2_1, if_neg c7_2]) rfl dX2_in_15
theorem tp_in_n (x a b : Int32) : narrow .boolean (.int (tp_in x a b)) = .int (tp_in x a b) := by
  unfold tp_in
  split
  · rfl
  · split <;> rfl
set_option maxHeartbeats 4000000 in
set_option maxRecDepth 100000 in
/-- isHome(h) -/
theorem mc_isHome (l : Launch) (D : va_G) (cy : Nat → ClassId) (n : Nat) (ad : Nat → Nat) (o : Int64) (I : Nat → Nat → Int32) (x : Int32) : tp_I l yX2_isHome wsX2_isHome (tp_rm 1 22) D cy n ad o [.ref (ad (2)), .int x] I (tp_in x 0 (I 2 2 - 1)) (I) := by
  refine tp_ofI (lv := [(0, .ref (ad (2))), (1, .int x)]) (by decide) rfl (Nat.le_of_ble_eq_true rfl) rfl (fun p e s m args below meth c A ls S0 => ?_)
  obtain ⟨hx, hb, hr, hml, hown, hts, hlocks, hA, hK, hP, hD, hS, hl⟩ := S0
  refine lv_iload_n hx hb dX2_isHome_0 rfl (lv_at hl 1 rfl) ?_
  refine lv_iconst (v := 0) hx hb dX2_isHome_1 (by decide) ?_
  refine lv_aload_n hx hb dX2_isHome_2 rfl (lv_at hl 0 rfl) ?_
  refine va_get (D := D) (ci := 2) (v := .int (I 2 2)) (C := RX2) (T := TX2) (N := 16) hx hb hts (fun _ h => List.mem_cons_of_mem _ (List.mem_append_right _ (h))) hown hK hP 2 tp_e2 rfl 2 (by decide) (hts _ (List.mem_of_getElem? (i := 1) rfl)) (fun _ h9 => h9) rfl dX2_isHome_3 ?_
  refine lv_iconst (v := 1) hx hb dX2_isHome_6 (by decide) ?_
  refine lv_isub hx hb dX2_isHome_7 ?_
  refine tp_callS ⟨hx, hb, hml, hown, hts⟩ (mc_in l D cy n ad o I x 0 ((I 2 2) - 1)) (va_cwS 3 hts gX2_isHome_X2_in rfl rfl rfl (by decide +kernel) ⟨Nat.le_of_ble_eq_true rfl, Nat.le_of_ble_eq_true rfl⟩) hK hP hD hS hA rfl hl.1 rfl (Nat.le_of_ble_eq_true rfl) dX2_isHome_8 ⟨Nat.zero_le _, Nat.zero_le _⟩ (fun I9 e9 H locs hP hD hS => ?_)
  subst e9
  exact tp_reti hx hb hr hlocks hK hP hD hS (tp_in_n _ _ _) rfl rfl dX2_isHome_11
set_option maxHeartbeats 4000000 in
set_option maxRecDepth 100000 in
/-- isAsked(h, m) -/
theorem mc_isAsked (l : Launch) (D : va_G) (cy : Nat → ClassId) (n : Nat) (ad : Nat → Nat) (o : Int64) (I : Nat → Nat → Int32) (x k : Int32) : tp_I l yX2_isAsked wsX2_isAsked (tp_rm 2 43) D cy n ad o [.ref (ad (2)), .int x, .int k] I (if tp_ask I x k = 0 then 1 else 0) (tp_u I 2 0 (tp_ask I x k)) := by
  refine tp_ofI (lv := [(0, .ref (ad (2))), (1, .int x), (2, .int k)]) (by decide) rfl (Nat.le_of_ble_eq_true rfl) rfl (fun p e s m args below meth c A ls S0 => ?_)
  obtain ⟨hx, hb, hr, hml, hown, hts, hlocks, hA, hK, hP, hD, hS, hl⟩ := S0
  refine lv_aload_n hx hb dX2_isAsked_0 rfl (lv_at hl 0 rfl) ?_
  refine tp_meetH (D := D) (cy := cy) (n := n) (ad := ad) (I := I) (o := o) (A := A) (H0 := s.heap) (tp_ask I x k : Int32) (fun y => F0 m 24 ls (.int y :: [.ref (ad (2))])) (fun hj24 => ?_) (fun H locs hP hD hS => ?_)
  · refine lv_aload_n hx hb dX2_isAsked_1 rfl (lv_at hl 0 rfl) ?_
    refine lv_iload_n hx hb dX2_isAsked_2 rfl (lv_at hl 1 rfl) ?_
    refine tp_callV ⟨hx, hb, hml, hown, hts⟩ (mc_isHome l D cy n ad o I x) (cwV 1 hts gX2_isAsked_X2_isHome rfl rfl rfl (by decide +kernel) ⟨Nat.le_of_ble_eq_true rfl, Nat.le_of_ble_eq_true rfl⟩) hK hP hD hS hA 2 2 tp_e2 rfl rfl rfl hl.1 rfl (Nat.le_of_ble_eq_true rfl) dX2_isAsked_3 ⟨Nat.zero_le _, Nat.zero_le _⟩ (fun I9 e9 H locs hP hD hS => ?_)
    subst e9
    refine lv_if_eq (tgt := 23) hx hb dX2_isAsked_6 (by decide) (fun c6_1 => ?_) (fun c6_1 => ?_)
    · refine lv_iconst (v := 1) hx hb dX2_isAsked_23 (by decide) ?_
      exact hj24 _ (by unfold tp_ask; rw [if_pos c6_1]) H locs hP hD hS
    · refine lv_iload_n hx hb dX2_isAsked_9 rfl (lv_at hl 2 rfl) ?_
      refine lv_iconst (v := 0) hx hb dX2_isAsked_10 (by decide) ?_
      refine lv_bipush (v := 47) hx hb dX2_isAsked_11 (by decide) ?_
      refine tp_callS ⟨hx, hb, hml, hown, hts⟩ (mc_in l D cy n ad o I k 0 47) (va_cwS 3 hts gX2_isAsked_X2_in rfl rfl rfl (by decide +kernel) ⟨Nat.le_of_ble_eq_true rfl, Nat.le_of_ble_eq_true rfl⟩) hK hP hD hS hA rfl hl.1 rfl (Nat.le_of_ble_eq_true rfl) dX2_isAsked_13 ⟨Nat.zero_le _, Nat.zero_le _⟩ (fun I9 e9 H locs hP hD hS => ?_)
      subst e9
      refine lv_if_eq (tgt := 23) hx hb dX2_isAsked_16 (by decide) (fun c16_2 => ?_) (fun c16_2 => ?_)
      · refine lv_iconst (v := 1) hx hb dX2_isAsked_23 (by decide) ?_
        exact hj24 _ (by unfold tp_ask; rw [if_neg c6_1, if_pos c16_2]) H locs hP hD hS
      · refine lv_iconst (v := 0) hx hb dX2_isAsked_19 (by decide) ?_
        refine lv_goto (tgt := 24) hx hb dX2_isAsked_20 (by decide) ?_
        exact hj24 _ (by unfold tp_ask; rw [if_neg c6_1, if_neg c16_2]) H locs hP hD hS
  refine tp_put (ci := 2) (v := (tp_ask I x k)) (ty := .int) (C := RX2) (T := TX2) (N := 16) hx hb hts (fun _ h => List.mem_cons_of_mem _ (List.mem_append_right _ (h))) tyX2 tyX2_ok nmX2 hown hK hP hD hS 2 tp_e2 (by omega) rfl 0 (by decide) (hts _ (List.mem_of_getElem? (i := 1) rfl)) rfl (by decide +kernel) rfl rfl (Nat.le_of_ble_eq_true rfl) rfl dX2_isAsked_24 (fun H locs hP hD hS => ?_)
  refine lv_aload_n hx hb dX2_isAsked_27 rfl (lv_at hl 0 rfl) ?_
  refine va_get (D := D) (ci := 2) (v := .int (tp_ask I x k)) (C := RX2) (T := TX2) (N := 16) hx hb hts (fun _ h => List.mem_cons_of_mem _ (List.mem_append_right _ (h))) hown hK hP 2 tp_e2 rfl 0 (by decide) (hts _ (List.mem_of_getElem? (i := 1) rfl)) (fun _ h9 => h9) rfl dX2_isAsked_28 ?_
  refine lv_if_ne (tgt := 38) hx hb dX2_isAsked_31 (by decide) (fun c31_3 => ?_) (fun c31_3 => ?_)
  · refine lv_iconst (v := 0) hx hb dX2_isAsked_38 (by decide) ?_
    exact tp_reti hx hb hr hlocks hK hP hD hS rfl (by rw [if_neg c31_3]) rfl dX2_isAsked_39
  · refine lv_iconst (v := 1) hx hb dX2_isAsked_34 (by decide) ?_
    refine lv_goto (tgt := 39) hx hb dX2_isAsked_35 (by decide) ?_
    exact tp_reti hx hb hr hlocks hK hP hD hS rfl (by rw [if_pos c31_3]) rfl dX2_isAsked_39
set_option maxHeartbeats 4000000 in
set_option maxRecDepth 100000 in
/-- lowest -/
theorem mc_lowest (l : Launch) (D : va_G) (cy : Nat → ClassId) (n : Nat) (ad : Nat → Nat) (o : Int64) (I : Nat → Nat → Int32) (f : Int32) : tp_I l yX2_lowest wsX2_lowest (tp_rm 0 0) D cy n ad o [.int f] I (tp_low f) (I) := by
  refine tp_ofI (lv := [(0, .int f)]) (by decide) rfl (Nat.le_of_ble_eq_true rfl) rfl (fun p e s m args below meth c A ls S0 => ?_)
  obtain ⟨hx, hb, hr, hml, hown, hts, hlocks, hA, hK, hP, hD, hS, hl⟩ := S0
  refine lv_iload_n hx hb dX2_lowest_0 rfl (lv_at hl 0 rfl) ?_
  refine lv_if_ne (tgt := 8) hx hb dX2_lowest_1 (by decide) (fun c1_1 => ?_) (fun c1_1 => ?_)
  · refine lv_iconst (v := 0) hx hb dX2_lowest_8 (by decide) ?_
    exact tp_reti hx hb hr hlocks hK hP hD hS rfl (by unfold tp_low; rw [if_neg c1_1]) rfl dX2_lowest_9
  · refine lv_iconst (v := 1) hx hb dX2_lowest_4 (by decide) ?_
    refine lv_goto (tgt := 9) hx hb dX2_lowest_5 (by decide) ?_
    exact tp_reti hx hb hr hlocks hK hP hD hS rfl (by unfold tp_low; rw [if_pos c1_1]) rfl dX2_lowest_9
set_option maxHeartbeats 4000000 in
set_option maxRecDepth 100000 in
/-- greatest -/
theorem mc_greatest (l : Launch) (D : va_G) (cy : Nat → ClassId) (n : Nat) (ad : Nat → Nat) (o : Int64) (I : Nat → Nat → Int32) (f : Int32) : tp_I l yX2_greatest wsX2_greatest (tp_rm 0 0) D cy n ad o [.int f] I (tp_great f) (I) := by
  refine tp_ofI (lv := [(0, .int f)]) (by decide) rfl (Nat.le_of_ble_eq_true rfl) rfl (fun p e s m args below meth c A ls S0 => ?_)
  obtain ⟨hx, hb, hr, hml, hown, hts, hlocks, hA, hK, hP, hD, hS, hl⟩ := S0
  refine lv_iload_n hx hb dX2_greatest_0 rfl (lv_at hl 0 rfl) ?_
  refine lv_if_ne (tgt := 8) hx hb dX2_greatest_1 (by decide) (fun c1_1 => ?_) (fun c1_1 => ?_)
  · refine lv_iload_n hx hb dX2_greatest_8 rfl (lv_at hl 0 rfl) ?_
    refine lv_iconst (v := 1) hx hb dX2_greatest_9 (by decide) ?_
    refine lv_icmp_ne (tgt := 18) hx hb dX2_greatest_10 (by decide) (fun c10_2 => ?_) (fun c10_2 => ?_)
    · refine lv_iload_n hx hb dX2_greatest_18 rfl (lv_at hl 0 rfl) ?_
      refine lv_iconst (v := 4) hx hb dX2_greatest_19 (by decide) ?_
      refine lv_icmp_ne (tgt := 28) hx hb dX2_greatest_20 (by decide) (fun c20_3 => ?_) (fun c20_3 => ?_)
      · refine lv_ldc (v := 1000000) hx hb hown (hts _ (List.mem_of_getElem? (i := 2) rfl)) dX2_greatest_28 ?_
        exact tp_reti hx hb hr hlocks hK hP hD hS rfl (by unfold tp_great; rw [if_neg c1_1, if_neg c10_2, if_neg c20_3]) rfl dX2_greatest_30
      · refine lv_ldc (v := 10000000) hx hb hown (hts _ (List.mem_of_getElem? (i := 1) rfl)) dX2_greatest_23 ?_
        refine lv_goto (tgt := 30) hx hb dX2_greatest_25 (by decide) ?_
        exact tp_reti hx hb hr hlocks hK hP hD hS rfl (by unfold tp_great; rw [if_neg c1_1, if_neg c10_2, if_pos c20_3]) rfl dX2_greatest_30
    · refine lv_bipush (v := 9) hx hb dX2_greatest_13 (by decide) ?_
      refine lv_goto (tgt := 30) hx hb dX2_greatest_15 (by decide) ?_
      exact tp_reti hx hb hr hlocks hK hP hD hS rfl (by unfold tp_great; rw [if_neg c1_1, if_pos c10_2]) rfl dX2_greatest_30
  · refine lv_iconst (v := 2) hx hb dX2_greatest_4 (by decide) ?_
    refine lv_goto (tgt := 30) hx hb dX2_greatest_5 (by decide) ?_
    exact tp_reti hx hb hr hlocks hK hP hD hS rfl (by unfold tp_great; rw [if_pos c1_1]) rfl dX2_greatest_30
set_option maxHeartbeats 4000000 in
set_option maxRecDepth 100000 in
/-- least -/
theorem mc_least (l : Launch) (D : va_G) (cy : Nat → ClassId) (n : Nat) (ad : Nat → Nat) (o : Int64) (I : Nat → Nat → Int32) (x y : Int32) : tp_I l yX2_least wsX2_least (tp_rm 0 0) D cy n ad o [.int x, .int y] I (tp_least x y) (I) := by
  refine tp_ofI (lv := [(0, .int x), (1, .int y)]) (by decide) rfl (Nat.le_of_ble_eq_true rfl) rfl (fun p e s m args below meth c A ls S0 => ?_)
  obtain ⟨hx, hb, hr, hml, hown, hts, hlocks, hA, hK, hP, hD, hS, hl⟩ := S0
  refine lv_iload_n hx hb dX2_least_0 rfl (lv_at hl 0 rfl) ?_
  refine lv_iload_n hx hb dX2_least_1 rfl (lv_at hl 1 rfl) ?_
  refine lv_icmp_ge (tgt := 9) hx hb dX2_least_2 (by decide) (fun c2_1 => ?_) (fun c2_1 => ?_)
  · refine lv_iload_n hx hb dX2_least_9 rfl (lv_at hl 1 rfl) ?_
    exact tp_reti hx hb hr hlocks hK hP hD hS rfl (by unfold tp_least; rw [if_pos c2_1]) rfl dX2_least_10
  · refine lv_iload_n hx hb dX2_least_5 rfl (lv_at hl 0 rfl) ?_
    refine lv_goto (tgt := 10) hx hb dX2_least_6 (by decide) ?_
    exact tp_reti hx hb hr hlocks hK hP hD hS rfl (by unfold tp_least; rw [if_neg c2_1]) rfl dX2_least_10
set_option maxHeartbeats 4000000 in
set_option maxRecDepth 100000 in
/-- factOf(h, f, m) -/
theorem mc_factOf (l : Launch) (D : va_G) (cy : Nat → ClassId) (n : Nat) (ad : Nat → Nat) (o : Int64) (I : Nat → Nat → Int32) (h : Nat) (hh : h < 6) (hc : tp_C I h) (f k : Int32) : tp_I l yX2_factOf wsX2_factOf (tp_rm 1 20) D cy n ad o [.ref (ad (2)), .int (nI h), .int f, .int k] I (tp_mfact I h f k) (I) := by
  obtain ⟨c0, hc100, hc0⟩ := hc
  refine tp_ofI (lv := [(0, .ref (ad (2))), (1, .int (nI h)), (2, .int f), (3, .int k)]) (by decide) rfl (Nat.le_of_ble_eq_true rfl) rfl (fun p e s m args below meth c A ls S0 => ?_)
  obtain ⟨hx, hb, hr, hml, hown, hts, hlocks, hA, hK, hP, hD, hS, hl⟩ := S0
  refine lv_iload_n hx hb dX2_factOf_0 rfl (lv_at hl 2 rfl) ?_
  refine tp_callS ⟨hx, hb, hml, hown, hts⟩ (mc_lowest l D cy n ad o I f) (va_cwS 1 hts gX2_factOf_X2_lowest rfl rfl rfl (by decide +kernel) ⟨Nat.le_of_ble_eq_true rfl, Nat.le_of_ble_eq_true rfl⟩) hK hP hD hS hA rfl hl.1 rfl (Nat.le_of_ble_eq_true rfl) dX2_factOf_1 ⟨Nat.zero_le _, Nat.zero_le _⟩ (fun I9 e9 H locs hP hD hS => ?_)
  subst e9
  refine lv_istore (lv' := [(4, .int (tp_low f)), (0, .ref (ad (2))), (1, .int (nI h)), (2, .int f), (3, .int k)]) hx hb dX2_factOf_4 hl (by decide) rfl (fun ls hl => ?_)
  refine lv_iconst (v := (-1)) hx hb dX2_factOf_6 (by decide) ?_
  refine lv_istore (lv' := [(5, .int ((-1))), (4, .int (tp_low f)), (0, .ref (ad (2))), (1, .int (nI h)), (2, .int f), (3, .int k)]) hx hb dX2_factOf_7 hl (by decide) rfl (fun ls hl => ?_)
  refine lv_bipush (v := 100) hx hb dX2_factOf_9 (by decide) ?_
  refine lv_iload_n hx hb dX2_factOf_11 rfl (lv_at hl 3 rfl) ?_
  refine lv_imul hx hb dX2_factOf_12 ?_
  refine tp_eqi (y := nI (100 * h)) (pk_mul 100 h) ?_
  refine lv_istore (lv' := [(6, .int (nI (100 * h))), (5, .int ((-1))), (4, .int (tp_low f)), (0, .ref (ad (2))), (1, .int (nI h)), (2, .int f), (3, .int k)]) hx hb dX2_factOf_13 hl (by decide) rfl (fun ls hl => ?_)
  refine tp_for (nL := 8) c0 (fun _ => I) (fun t => [(6, .int (nI (100 * h + t))), (5, .int (tp_scan I f k (100 * h) t).2), (4, .int (tp_scan I f k (100 * h) t).1), (0, .ref (ad (2))), (1, .int (nI h)), (2, .int f), (3, .int k)]) (fun t ht ls H locs hl hP hD hS ih => ?_) (fun ls H locs hl hP hD hS => ?_) hl hP hD hS
  · refine lv_iload hx hb dX2_factOf_15 (lv_at hl 0 rfl) ?_
    refine lv_bipush (v := 100) hx hb dX2_factOf_17 (by decide) ?_
    refine lv_iload_n hx hb dX2_factOf_19 rfl (lv_at hl 4 rfl) ?_
    refine lv_imul hx hb dX2_factOf_20 ?_
    refine tp_eqi (y := nI (100 * h)) (pk_mul 100 h) ?_
    refine lv_aload_n hx hb dX2_factOf_21 rfl (lv_at hl 3 rfl) ?_
    refine va_get (D := D) (ci := 2) (v := .ref (ad (4))) (C := RX2) (T := TX2) (N := 16) hx hb hts (fun _ h => List.mem_cons_of_mem _ (List.mem_append_right _ (h))) hown hK hP 2 tp_e2 rfl 4 (by decide) (hts _ (List.mem_of_getElem? (i := 1) rfl)) (fun _ h9 => h9) rfl dX2_factOf_22 ?_
    refine lv_iload_n hx hb dX2_factOf_25 rfl (lv_at hl 4 rfl) ?_
    refine tp_iald hx hb hK hP 4 6 (h) (by omega) rfl rfl (by omega) (by decide) dX2_factOf_26 ?_
    refine tp_eqi (y := nI c0) hc0 ?_
    refine lv_iadd hx hb dX2_factOf_27 ?_
    refine tp_eqi (y := nI ((100 * h) + c0)) (nI_add (100 * h) c0) ?_
    refine lv_icmp_ge (tgt := 116) hx hb dX2_factOf_28 (by decide) (fun c28_1 => ?_) (fun c28_1 => ?_)
    · exact absurd c28_1 (nI_ge (by omega) (by omega))
    · refine tp_meetH (D := D) (cy := cy) (n := n) (ad := ad) (I := I) (o := o) (A := A) (H0 := s.heap) (tp_cnt I f k (tp_scan I f k (100 * h) t).2 (100 * h + t) : Int32) (fun y => F0 m 70 ls (.int y :: [])) (fun hj70 => ?_) (fun H locs hP hD hS => ?_)
      · refine lv_aload_n hx hb dX2_factOf_31 rfl (lv_at hl 3 rfl) ?_
        refine va_get (D := D) (ci := 2) (v := .ref (ad (5))) (C := RX2) (T := TX2) (N := 16) hx hb hts (fun _ h => List.mem_cons_of_mem _ (List.mem_append_right _ (h))) hown hK hP 2 tp_e2 rfl 5 (by decide) (hts _ (List.mem_of_getElem? (i := 2) rfl)) (fun _ h9 => h9) rfl dX2_factOf_32 ?_
        refine lv_iload hx hb dX2_factOf_35 (lv_at hl 0 rfl) ?_
        refine tp_iald hx hb hK hP 5 600 ((100 * h + t)) (by omega) rfl rfl (by omega) (by decide) dX2_factOf_37 ?_
        refine lv_iload_n hx hb dX2_factOf_38 rfl (lv_at hl 5 rfl) ?_
        refine lv_icmp_ne (tgt := 69) hx hb dX2_factOf_39 (by decide) (fun c39_2 => ?_) (fun c39_2 => ?_)
        · refine lv_iconst (v := 0) hx hb dX2_factOf_69 (by decide) ?_
          exact hj70 _ (by unfold tp_cnt; rw [if_neg c39_2]) H locs hP hD hS
        · refine lv_aload_n hx hb dX2_factOf_42 rfl (lv_at hl 3 rfl) ?_
          refine va_get (D := D) (ci := 2) (v := .ref (ad (6))) (C := RX2) (T := TX2) (N := 16) hx hb hts (fun _ h => List.mem_cons_of_mem _ (List.mem_append_right _ (h))) hown hK hP 2 tp_e2 rfl 6 (by decide) (hts _ (List.mem_of_getElem? (i := 3) rfl)) (fun _ h9 => h9) rfl dX2_factOf_43 ?_
          refine lv_iload hx hb dX2_factOf_46 (lv_at hl 0 rfl) ?_
          refine tp_iald hx hb hK hP 6 600 ((100 * h + t)) (by omega) rfl rfl (by omega) (by decide) dX2_factOf_48 ?_
          refine lv_iload_n hx hb dX2_factOf_49 rfl (lv_at hl 6 rfl) ?_
          refine lv_icmp_gt (tgt := 69) hx hb dX2_factOf_50 (by decide) (fun c50_3 => ?_) (fun c50_3 => ?_)
          · refine lv_iconst (v := 0) hx hb dX2_factOf_69 (by decide) ?_
            exact hj70 _ (by unfold tp_cnt; rw [if_pos c39_2, if_pos c50_3]) H locs hP hD hS
          · refine lv_aload_n hx hb dX2_factOf_53 rfl (lv_at hl 3 rfl) ?_
            refine va_get (D := D) (ci := 2) (v := .ref (ad (6))) (C := RX2) (T := TX2) (N := 16) hx hb hts (fun _ h => List.mem_cons_of_mem _ (List.mem_append_right _ (h))) hown hK hP 2 tp_e2 rfl 6 (by decide) (hts _ (List.mem_of_getElem? (i := 3) rfl)) (fun _ h9 => h9) rfl dX2_factOf_54 ?_
            refine lv_iload hx hb dX2_factOf_57 (lv_at hl 0 rfl) ?_
            refine tp_iald hx hb hK hP 6 600 ((100 * h + t)) (by omega) rfl rfl (by omega) (by decide) dX2_factOf_59 ?_
            refine lv_iload hx hb dX2_factOf_60 (lv_at hl 1 rfl) ?_
            refine lv_icmp_lt (tgt := 69) hx hb dX2_factOf_62 (by decide) (fun c62_4 => ?_) (fun c62_4 => ?_)
            · refine lv_iconst (v := 0) hx hb dX2_factOf_69 (by decide) ?_
              exact hj70 _ (by unfold tp_cnt; rw [if_pos c39_2, if_neg c50_3, if_pos c62_4]) H locs hP hD hS
            · refine lv_iconst (v := 1) hx hb dX2_factOf_65 (by decide) ?_
              refine lv_goto (tgt := 70) hx hb dX2_factOf_66 (by decide) ?_
              exact hj70 _ (by unfold tp_cnt; rw [if_pos c39_2, if_neg c50_3, if_neg c62_4]) H locs hP hD hS
      refine lv_istore (lv' := [(7, .int (tp_cnt I f k (tp_scan I f k (100 * h) t).2 (100 * h + t))), (6, .int (nI (100 * h + t))), (5, .int ((tp_scan I f k (100 * h) t).2)), (4, .int ((tp_scan I f k (100 * h) t).1)), (0, .ref (ad (2))), (1, .int (nI h)), (2, .int f), (3, .int k)]) hx hb dX2_factOf_70 hl (by decide) rfl (fun ls hl => ?_)
      refine tp_meetH (D := D) (cy := cy) (n := n) (ad := ad) (I := I) (o := o) (A := A) (H0 := s.heap) (if tp_cnt I f k (tp_scan I f k (100 * h) t).2 (100 * h + t) = 0 then (tp_scan I f k (100 * h) t).1 else I 7 (100 * h + t) : Int32) (fun y => F0 m 89 ls (.int y :: [])) (fun hj89 => ?_) (fun H locs hP hD hS => ?_)
      · refine lv_iload hx hb dX2_factOf_72 (lv_at hl 0 rfl) ?_
        refine lv_if_eq (tgt := 87) hx hb dX2_factOf_74 (by decide) (fun c74_5 => ?_) (fun c74_5 => ?_)
        · refine lv_iload hx hb dX2_factOf_87 (lv_at hl 3 rfl) ?_
          exact hj89 _ (by rw [if_pos c74_5]) H locs hP hD hS
        · refine lv_aload_n hx hb dX2_factOf_77 rfl (lv_at hl 4 rfl) ?_
          refine va_get (D := D) (ci := 2) (v := .ref (ad (7))) (C := RX2) (T := TX2) (N := 16) hx hb hts (fun _ h => List.mem_cons_of_mem _ (List.mem_append_right _ (h))) hown hK hP 2 tp_e2 rfl 7 (by decide) (hts _ (List.mem_of_getElem? (i := 4) rfl)) (fun _ h9 => h9) rfl dX2_factOf_78 ?_
          refine lv_iload hx hb dX2_factOf_81 (lv_at hl 1 rfl) ?_
          refine tp_iald hx hb hK hP 7 600 ((100 * h + t)) (by omega) rfl rfl (by omega) (by decide) dX2_factOf_83 ?_
          refine lv_goto (tgt := 89) hx hb dX2_factOf_84 (by decide) ?_
          exact hj89 _ (by rw [if_neg c74_5]) H locs hP hD hS
      refine lv_istore (lv' := [(4, .int (if tp_cnt I f k (tp_scan I f k (100 * h) t).2 (100 * h + t) = 0 then (tp_scan I f k (100 * h) t).1 else I 7 (100 * h + t))), (7, .int (tp_cnt I f k (tp_scan I f k (100 * h) t).2 (100 * h + t))), (6, .int (nI (100 * h + t))), (5, .int ((tp_scan I f k (100 * h) t).2)), (0, .ref (ad (2))), (1, .int (nI h)), (2, .int f), (3, .int k)]) hx hb dX2_factOf_89 hl (by decide) rfl (fun ls hl => ?_)
      refine tp_meetH (D := D) (cy := cy) (n := n) (ad := ad) (I := I) (o := o) (A := A) (H0 := s.heap) (if tp_cnt I f k (tp_scan I f k (100 * h) t).2 (100 * h + t) = 0 then (tp_scan I f k (100 * h) t).2 else I 6 (100 * h + t) : Int32) (fun y => F0 m 108 ls (.int y :: [])) (fun hj108 => ?_) (fun H locs hP hD hS => ?_)
      · refine lv_iload hx hb dX2_factOf_91 (lv_at hl 1 rfl) ?_
        refine lv_if_eq (tgt := 106) hx hb dX2_factOf_93 (by decide) (fun c93_6 => ?_) (fun c93_6 => ?_)
        · refine lv_iload hx hb dX2_factOf_106 (lv_at hl 3 rfl) ?_
          exact hj108 _ (by rw [if_pos c93_6]) H locs hP hD hS
        · refine lv_aload_n hx hb dX2_factOf_96 rfl (lv_at hl 4 rfl) ?_
          refine va_get (D := D) (ci := 2) (v := .ref (ad (6))) (C := RX2) (T := TX2) (N := 16) hx hb hts (fun _ h => List.mem_cons_of_mem _ (List.mem_append_right _ (h))) hown hK hP 2 tp_e2 rfl 6 (by decide) (hts _ (List.mem_of_getElem? (i := 3) rfl)) (fun _ h9 => h9) rfl dX2_factOf_97 ?_
          refine lv_iload hx hb dX2_factOf_100 (lv_at hl 2 rfl) ?_
          refine tp_iald hx hb hK hP 6 600 ((100 * h + t)) (by omega) rfl rfl (by omega) (by decide) dX2_factOf_102 ?_
          refine lv_goto (tgt := 108) hx hb dX2_factOf_103 (by decide) ?_
          exact hj108 _ (by rw [if_neg c93_6]) H locs hP hD hS
      refine lv_istore (lv' := [(5, .int (if tp_cnt I f k (tp_scan I f k (100 * h) t).2 (100 * h + t) = 0 then (tp_scan I f k (100 * h) t).2 else I 6 (100 * h + t))), (4, .int (if tp_cnt I f k (tp_scan I f k (100 * h) t).2 (100 * h + t) = 0 then (tp_scan I f k (100 * h) t).1 else I 7 (100 * h + t))), (7, .int (tp_cnt I f k (tp_scan I f k (100 * h) t).2 (100 * h + t))), (6, .int (nI (100 * h + t))), (0, .ref (ad (2))), (1, .int (nI h)), (2, .int f), (3, .int k)]) hx hb dX2_factOf_108 hl (by decide) rfl (fun ls hl => ?_)
      refine lv_iinc (v := (nI ((100 * h + t) + 1))) (lv' := [(6, .int (nI ((100 * h + t) + 1))), (5, .int (if tp_cnt I f k (tp_scan I f k (100 * h) t).2 (100 * h + t) = 0 then (tp_scan I f k (100 * h) t).2 else I 6 (100 * h + t))), (4, .int (if tp_cnt I f k (tp_scan I f k (100 * h) t).2 (100 * h + t) = 0 then (tp_scan I f k (100 * h) t).1 else I 7 (100 * h + t))), (7, .int (tp_cnt I f k (tp_scan I f k (100 * h) t).2 (100 * h + t))), (0, .ref (ad (2))), (1, .int (nI h)), (2, .int f), (3, .int k)]) hx hb dX2_factOf_110 hl (k := 3) rfl (nI_1 _) (by decide) rfl (fun ls hl => ?_)
      refine lv_goto (tgt := 15) hx hb dX2_factOf_113 (by decide) ?_
      exact ih ls H locs (lv_sub hl [0, 1, 2, 4, 5, 6, 7] rfl) hP hD hS
  · refine lv_iload hx hb dX2_factOf_15 (lv_at hl 0 rfl) ?_
    refine lv_bipush (v := 100) hx hb dX2_factOf_17 (by decide) ?_
    refine lv_iload_n hx hb dX2_factOf_19 rfl (lv_at hl 4 rfl) ?_
    refine lv_imul hx hb dX2_factOf_20 ?_
    refine tp_eqi (y := nI (100 * h)) (pk_mul 100 h) ?_
    refine lv_aload_n hx hb dX2_factOf_21 rfl (lv_at hl 3 rfl) ?_
    refine va_get (D := D) (ci := 2) (v := .ref (ad (4))) (C := RX2) (T := TX2) (N := 16) hx hb hts (fun _ h => List.mem_cons_of_mem _ (List.mem_append_right _ (h))) hown hK hP 2 tp_e2 rfl 4 (by decide) (hts _ (List.mem_of_getElem? (i := 1) rfl)) (fun _ h9 => h9) rfl dX2_factOf_22 ?_
    refine lv_iload_n hx hb dX2_factOf_25 rfl (lv_at hl 4 rfl) ?_
    refine tp_iald hx hb hK hP 4 6 (h) (by omega) rfl rfl (by omega) (by decide) dX2_factOf_26 ?_
    refine tp_eqi (y := nI c0) hc0 ?_
    refine lv_iadd hx hb dX2_factOf_27 ?_
    refine tp_eqi (y := nI ((100 * h) + c0)) (nI_add (100 * h) c0) ?_
    refine lv_icmp_ge (tgt := 116) hx hb dX2_factOf_28 (by decide) (fun c28_7 => ?_) (fun c28_7 => ?_)
    · refine lv_iload hx hb dX2_factOf_116 (lv_at hl 2 rfl) ?_
      exact tp_reti hx hb hr hlocks hK hP hD hS rfl (by unfold tp_mfact; rw [hc0, nI_clamp (by omega)]) rfl dX2_factOf_118
    · exact absurd (nI_le (by omega) (by omega)) c28_7
set_option maxHeartbeats 4000000 in
set_option maxRecDepth 100000 in
/-- needOf(h, m) -/
theorem mc_needOf (l : Launch) (D : va_G) (cy : Nat → ClassId) (n : Nat) (ad : Nat → Nat) (o : Int64) (I : Nat → Nat → Int32) (h : Nat) (hh : h < 6) (hc : tp_C I h) (k : Int32) : tp_I l yX2_needOf wsX2_needOf (tp_rm 2 47) D cy n ad o [.ref (ad (2)), .int (nI h), .int k] I (tp_mneed I h k) (I) := by
  refine tp_ofI (lv := [(0, .ref (ad (2))), (1, .int (nI h)), (2, .int k)]) (by decide) rfl (Nat.le_of_ble_eq_true rfl) rfl (fun p e s m args below meth c A ls S0 => ?_)
  obtain ⟨hx, hb, hr, hml, hown, hts, hlocks, hA, hK, hP, hD, hS, hl⟩ := S0
  refine lv_aload_n hx hb dX2_needOf_0 rfl (lv_at hl 0 rfl) ?_
  refine lv_iload_n hx hb dX2_needOf_1 rfl (lv_at hl 1 rfl) ?_
  refine lv_iconst (v := 2) hx hb dX2_needOf_2 (by decide) ?_
  refine lv_iload_n hx hb dX2_needOf_3 rfl (lv_at hl 2 rfl) ?_
  refine tp_callV ⟨hx, hb, hml, hown, hts⟩ (mc_factOf l D cy n ad o I h (by omega) hc 2 k) (cwV 3 hts gX2_needOf_X2_factOf rfl rfl rfl (by decide +kernel) ⟨Nat.le_of_ble_eq_true rfl, Nat.le_of_ble_eq_true rfl⟩) hK hP hD hS hA 2 2 tp_e2 rfl rfl rfl hl.1 rfl (Nat.le_of_ble_eq_true rfl) dX2_needOf_4 ⟨Nat.zero_le _, Nat.zero_le _⟩ (fun I9 e9 H locs hP hD hS => ?_)
  subst e9
  refine lv_istore_n (lv' := [(3, .int (tp_mfact I h 2 k)), (0, .ref (ad (2))), (1, .int (nI h)), (2, .int k)]) hx hb dX2_needOf_7 rfl hl (by decide) rfl (fun ls hl => ?_)
  refine lv_sipush (v := 30000) hx hb dX2_needOf_8 (by decide) ?_
  refine lv_aload_n hx hb dX2_needOf_11 rfl (lv_at hl 1 rfl) ?_
  refine lv_iload_n hx hb dX2_needOf_12 rfl (lv_at hl 2 rfl) ?_
  refine lv_iconst (v := 0) hx hb dX2_needOf_13 (by decide) ?_
  refine lv_iload_n hx hb dX2_needOf_14 rfl (lv_at hl 3 rfl) ?_
  refine tp_callV ⟨hx, hb, hml, hown, hts⟩ (mc_factOf l D cy n ad o I h (by omega) hc 0 k) (cwV 3 hts gX2_needOf_X2_factOf rfl rfl rfl (by decide +kernel) ⟨Nat.le_of_ble_eq_true rfl, Nat.le_of_ble_eq_true rfl⟩) hK hP hD hS hA 2 2 tp_e2 rfl rfl rfl hl.1 rfl (Nat.le_of_ble_eq_true rfl) dX2_needOf_15 ⟨Nat.zero_le _, Nat.zero_le _⟩ (fun I9 e9 H locs hP hD hS => ?_)
  subst e9
  refine tp_meetH (D := D) (cy := cy) (n := n) (ad := ad) (I := I) (o := o) (A := A) (H0 := s.heap) (if tp_mfact I h 0 k = 2 then 12000 else 0 : Int32) (fun y => F0 m 29 ls (.int y :: [.int 30000])) (fun hj29 => ?_) (fun H locs hP hD hS => ?_)
  · refine lv_iconst (v := 2) hx hb dX2_needOf_18 (by decide) ?_
    refine lv_icmp_ne (tgt := 28) hx hb dX2_needOf_19 (by decide) (fun c19_1 => ?_) (fun c19_1 => ?_)
    · refine lv_iconst (v := 0) hx hb dX2_needOf_28 (by decide) ?_
      exact hj29 _ (by rw [if_neg c19_1]) H locs hP hD hS
    · refine lv_sipush (v := 12000) hx hb dX2_needOf_22 (by decide) ?_
      refine lv_goto (tgt := 29) hx hb dX2_needOf_25 (by decide) ?_
      exact hj29 _ (by rw [if_pos c19_1]) H locs hP hD hS
  refine lv_iadd hx hb dX2_needOf_29 ?_
  refine lv_sipush (v := 8000) hx hb dX2_needOf_30 (by decide) ?_
  refine lv_aload_n hx hb dX2_needOf_33 rfl (lv_at hl 1 rfl) ?_
  refine lv_iload_n hx hb dX2_needOf_34 rfl (lv_at hl 2 rfl) ?_
  refine lv_iconst (v := 1) hx hb dX2_needOf_35 (by decide) ?_
  refine lv_iload_n hx hb dX2_needOf_36 rfl (lv_at hl 3 rfl) ?_
  refine tp_callV ⟨hx, hb, hml, hown, hts⟩ (mc_factOf l D cy n ad o I h (by omega) hc 1 k) (cwV 3 hts gX2_needOf_X2_factOf rfl rfl rfl (by decide +kernel) ⟨Nat.le_of_ble_eq_true rfl, Nat.le_of_ble_eq_true rfl⟩) hK hP hD hS hA 2 2 tp_e2 rfl rfl rfl hl.1 rfl (Nat.le_of_ble_eq_true rfl) dX2_needOf_37 ⟨Nat.zero_le _, Nat.zero_le _⟩ (fun I9 e9 H locs hP hD hS => ?_)
  subst e9
  refine lv_imul hx hb dX2_needOf_40 ?_
  refine lv_iadd hx hb dX2_needOf_41 ?_
  refine tp_meetH (D := D) (cy := cy) (n := n) (ad := ad) (I := I) (o := o) (A := A) (H0 := s.heap) (if 60000 ≤ tp_mfact I h 2 k then 60000 else tp_mfact I h 2 k : Int32) (fun y => F0 m 54 ls (.int y :: [.int ((30000 + (if tp_mfact I h 0 k = 2 then 12000 else 0)) + (8000 * (tp_mfact I h 1 k)))])) (fun hj54 => ?_) (fun H locs hP hD hS => ?_)
  · refine lv_iload_n hx hb dX2_needOf_42 rfl (lv_at hl 0 rfl) ?_
    refine lv_ldc (v := 60000) hx hb hown (hts _ (List.mem_of_getElem? (i := 1) rfl)) dX2_needOf_43 ?_
    refine lv_icmp_ge (tgt := 52) hx hb dX2_needOf_45 (by decide) (fun c45_2 => ?_) (fun c45_2 => ?_)
    · refine lv_ldc (v := 60000) hx hb hown (hts _ (List.mem_of_getElem? (i := 1) rfl)) dX2_needOf_52 ?_
      exact hj54 _ (by rw [if_pos c45_2]) H locs hP hD hS
    · refine lv_iload_n hx hb dX2_needOf_48 rfl (lv_at hl 0 rfl) ?_
      refine lv_goto (tgt := 54) hx hb dX2_needOf_49 (by decide) ?_
      exact hj54 _ (by rw [if_neg c45_2]) H locs hP hD hS
  refine lv_iadd hx hb dX2_needOf_54 ?_
  exact tp_reti hx hb hr hlocks hK hP hD hS rfl rfl rfl dX2_needOf_55
set_option maxHeartbeats 4000000 in
set_option maxRecDepth 100000 in
/-- taperOf(h, m) -/
theorem mc_taperOf (l : Launch) (D : va_G) (cy : Nat → ClassId) (n : Nat) (ad : Nat → Nat) (o : Int64) (I : Nat → Nat → Int32) (h : Nat) (hh : h < 6) (hc : tp_C I h) (k : Int32) : tp_I l yX2_taperOf wsX2_taperOf (tp_rm 2 47) D cy n ad o [.ref (ad (2)), .int (nI h), .int k] I (tp_mtaper I h k) (I) := by
  refine tp_ofI (lv := [(0, .ref (ad (2))), (1, .int (nI h)), (2, .int k)]) (by decide) rfl (Nat.le_of_ble_eq_true rfl) rfl (fun p e s m args below meth c A ls S0 => ?_)
  obtain ⟨hx, hb, hr, hml, hown, hts, hlocks, hA, hK, hP, hD, hS, hl⟩ := S0
  refine lv_aload_n hx hb dX2_taperOf_0 rfl (lv_at hl 0 rfl) ?_
  refine lv_iload_n hx hb dX2_taperOf_1 rfl (lv_at hl 1 rfl) ?_
  refine lv_iconst (v := 3) hx hb dX2_taperOf_2 (by decide) ?_
  refine lv_iload_n hx hb dX2_taperOf_3 rfl (lv_at hl 2 rfl) ?_
  refine tp_callV ⟨hx, hb, hml, hown, hts⟩ (mc_factOf l D cy n ad o I h (by omega) hc 3 k) (cwV 3 hts gX2_taperOf_X2_factOf rfl rfl rfl (by decide +kernel) ⟨Nat.le_of_ble_eq_true rfl, Nat.le_of_ble_eq_true rfl⟩) hK hP hD hS hA 2 2 tp_e2 rfl rfl rfl hl.1 rfl (Nat.le_of_ble_eq_true rfl) dX2_taperOf_4 ⟨Nat.zero_le _, Nat.zero_le _⟩ (fun I9 e9 H locs hP hD hS => ?_)
  subst e9
  refine lv_sipush (v := 20000) hx hb dX2_taperOf_7 (by decide) ?_
  refine lv_isub hx hb dX2_taperOf_10 ?_
  refine lv_istore_n (lv' := [(3, .int ((tp_mfact I h 3 k) - 20000)), (0, .ref (ad (2))), (1, .int (nI h)), (2, .int k)]) hx hb dX2_taperOf_11 rfl hl (by decide) rfl (fun ls hl => ?_)
  refine lv_iload_n hx hb dX2_taperOf_12 rfl (lv_at hl 0 rfl) ?_
  refine lv_if_le (tgt := 26) hx hb dX2_taperOf_13 (by decide) (fun c13_1 => ?_) (fun c13_1 => ?_)
  · refine lv_iconst (v := 0) hx hb dX2_taperOf_26 (by decide) ?_
    exact tp_reti hx hb hr hlocks hK hP hD hS rfl (by unfold tp_mtaper; rw [if_pos c13_1]) rfl dX2_taperOf_27
  · refine lv_iload_n hx hb dX2_taperOf_16 rfl (lv_at hl 0 rfl) ?_
    refine lv_bipush (v := 60) hx hb dX2_taperOf_17 (by decide) ?_
    refine lv_imul hx hb dX2_taperOf_19 ?_
    refine lv_bipush (v := 100) hx hb dX2_taperOf_20 (by decide) ?_
    refine lv_idiv hx hb dX2_taperOf_22 (by decide) ?_
    refine lv_goto (tgt := 27) hx hb dX2_taperOf_23 (by decide) ?_
    exact tp_reti hx hb hr hlocks hK hP hD hS rfl (by unfold tp_mtaper; rw [if_neg c13_1]) rfl dX2_taperOf_27
set_option maxHeartbeats 4000000 in
set_option maxRecDepth 100000 in
/-- tariffOf(h, m) -/
theorem mc_tariffOf (l : Launch) (D : va_G) (cy : Nat → ClassId) (n : Nat) (ad : Nat → Nat) (o : Int64) (I : Nat → Nat → Int32) (h : Nat) (hh : h < 6) (hc : tp_C I h) (k : Int32) : tp_I l yX2_tariffOf wsX2_tariffOf (tp_rm 2 47) D cy n ad o [.ref (ad (2)), .int (nI h), .int k] I (tp_mtariff I h k) (I) := by
  refine tp_ofI (lv := [(0, .ref (ad (2))), (1, .int (nI h)), (2, .int k)]) (by decide) rfl (Nat.le_of_ble_eq_true rfl) rfl (fun p e s m args below meth c A ls S0 => ?_)
  obtain ⟨hx, hb, hr, hml, hown, hts, hlocks, hA, hK, hP, hD, hS, hl⟩ := S0
  refine lv_aload_n hx hb dX2_tariffOf_0 rfl (lv_at hl 0 rfl) ?_
  refine lv_iload_n hx hb dX2_tariffOf_1 rfl (lv_at hl 1 rfl) ?_
  refine lv_iconst (v := 4) hx hb dX2_tariffOf_2 (by decide) ?_
  refine lv_iload_n hx hb dX2_tariffOf_3 rfl (lv_at hl 2 rfl) ?_
  refine tp_callV ⟨hx, hb, hml, hown, hts⟩ (mc_factOf l D cy n ad o I h (by omega) hc 4 k) (cwV 3 hts gX2_tariffOf_X2_factOf rfl rfl rfl (by decide +kernel) ⟨Nat.le_of_ble_eq_true rfl, Nat.le_of_ble_eq_true rfl⟩) hK hP hD hS hA 2 2 tp_e2 rfl rfl rfl hl.1 rfl (Nat.le_of_ble_eq_true rfl) dX2_tariffOf_4 ⟨Nat.zero_le _, Nat.zero_le _⟩ (fun I9 e9 H locs hP hD hS => ?_)
  subst e9
  refine lv_ldc (v := 600000) hx hb hown (hts _ (List.mem_of_getElem? (i := 1) rfl)) dX2_tariffOf_7 ?_
  refine lv_isub hx hb dX2_tariffOf_9 ?_
  refine lv_istore_n (lv' := [(3, .int ((tp_mfact I h 4 k) - 600000)), (0, .ref (ad (2))), (1, .int (nI h)), (2, .int k)]) hx hb dX2_tariffOf_10 rfl hl (by decide) rfl (fun ls hl => ?_)
  refine lv_iload_n hx hb dX2_tariffOf_11 rfl (lv_at hl 0 rfl) ?_
  refine lv_if_le (tgt := 31) hx hb dX2_tariffOf_12 (by decide) (fun c12_1 => ?_) (fun c12_1 => ?_)
  · refine lv_iconst (v := 0) hx hb dX2_tariffOf_31 (by decide) ?_
    exact tp_reti hx hb hr hlocks hK hP hD hS rfl (by unfold tp_mtariff; rw [if_pos c12_1]) rfl dX2_tariffOf_32
  · refine lv_iload_n hx hb dX2_tariffOf_15 rfl (lv_at hl 0 rfl) ?_
    refine lv_sipush (v := 24999) hx hb dX2_tariffOf_16 (by decide) ?_
    refine lv_iadd hx hb dX2_tariffOf_19 ?_
    refine lv_sipush (v := 25000) hx hb dX2_tariffOf_20 (by decide) ?_
    refine lv_idiv hx hb dX2_tariffOf_23 (by decide) ?_
    refine lv_sipush (v := 500) hx hb dX2_tariffOf_24 (by decide) ?_
    refine lv_imul hx hb dX2_tariffOf_27 ?_
    refine lv_goto (tgt := 32) hx hb dX2_tariffOf_28 (by decide) ?_
    exact tp_reti hx hb hr hlocks hK hP hD hS rfl (by unfold tp_mtariff; rw [if_neg c12_1]) rfl dX2_tariffOf_32
set_option maxHeartbeats 4000000 in
set_option maxRecDepth 100000 in
/-- dueOf(h, m) -/
theorem mc_dueOf (l : Launch) (D : va_G) (cy : Nat → ClassId) (n : Nat) (ad : Nat → Nat) (o : Int64) (I : Nat → Nat → Int32) (h : Nat) (hh : h < 6) (hc : tp_C I h) (k : Int32) : tp_I l yX2_dueOf wsX2_dueOf (tp_rm 3 70) D cy n ad o [.ref (ad (2)), .int (nI h), .int k] I (tp_mdue I h k) (I) := by
  refine tp_ofI (lv := [(0, .ref (ad (2))), (1, .int (nI h)), (2, .int k)]) (by decide) rfl (Nat.le_of_ble_eq_true rfl) rfl (fun p e s m args below meth c A ls S0 => ?_)
  obtain ⟨hx, hb, hr, hml, hown, hts, hlocks, hA, hK, hP, hD, hS, hl⟩ := S0
  refine lv_aload_n hx hb dX2_dueOf_0 rfl (lv_at hl 0 rfl) ?_
  refine lv_iload_n hx hb dX2_dueOf_1 rfl (lv_at hl 1 rfl) ?_
  refine lv_iload_n hx hb dX2_dueOf_2 rfl (lv_at hl 2 rfl) ?_
  refine tp_callV ⟨hx, hb, hml, hown, hts⟩ (mc_needOf l D cy n ad o I h (by omega) hc k) (cwV 2 hts gX2_dueOf_X2_needOf rfl rfl rfl (by decide +kernel) ⟨Nat.le_of_ble_eq_true rfl, Nat.le_of_ble_eq_true rfl⟩) hK hP hD hS hA 2 2 tp_e2 rfl rfl rfl hl.1 rfl (Nat.le_of_ble_eq_true rfl) dX2_dueOf_3 ⟨Nat.zero_le _, Nat.zero_le _⟩ (fun I9 e9 H locs hP hD hS => ?_)
  subst e9
  refine lv_aload_n hx hb dX2_dueOf_6 rfl (lv_at hl 0 rfl) ?_
  refine lv_iload_n hx hb dX2_dueOf_7 rfl (lv_at hl 1 rfl) ?_
  refine lv_iload_n hx hb dX2_dueOf_8 rfl (lv_at hl 2 rfl) ?_
  refine tp_callV ⟨hx, hb, hml, hown, hts⟩ (mc_taperOf l D cy n ad o I h (by omega) hc k) (cwV 2 hts gX2_dueOf_X2_taperOf rfl rfl rfl (by decide +kernel) ⟨Nat.le_of_ble_eq_true rfl, Nat.le_of_ble_eq_true rfl⟩) hK hP hD hS hA 2 2 tp_e2 rfl rfl rfl hl.1 rfl (Nat.le_of_ble_eq_true rfl) dX2_dueOf_9 ⟨Nat.zero_le _, Nat.zero_le _⟩ (fun I9 e9 H locs hP hD hS => ?_)
  subst e9
  refine lv_isub hx hb dX2_dueOf_12 ?_
  refine lv_aload_n hx hb dX2_dueOf_13 rfl (lv_at hl 0 rfl) ?_
  refine lv_iload_n hx hb dX2_dueOf_14 rfl (lv_at hl 1 rfl) ?_
  refine lv_iload_n hx hb dX2_dueOf_15 rfl (lv_at hl 2 rfl) ?_
  refine tp_callV ⟨hx, hb, hml, hown, hts⟩ (mc_tariffOf l D cy n ad o I h (by omega) hc k) (cwV 2 hts gX2_dueOf_X2_tariffOf rfl rfl rfl (by decide +kernel) ⟨Nat.le_of_ble_eq_true rfl, Nat.le_of_ble_eq_true rfl⟩) hK hP hD hS hA 2 2 tp_e2 rfl rfl rfl hl.1 rfl (Nat.le_of_ble_eq_true rfl) dX2_dueOf_16 ⟨Nat.zero_le _, Nat.zero_le _⟩ (fun I9 e9 H locs hP hD hS => ?_)
  subst e9
  refine lv_isub hx hb dX2_dueOf_19 ?_
  refine lv_istore_n (lv' := [(3, .int (((tp_mneed I h k) - (tp_mtaper I h k)) - (tp_mtariff I h k))), (0, .ref (ad (2))), (1, .int (nI h)), (2, .int k)]) hx hb dX2_dueOf_20 rfl hl (by decide) rfl (fun ls hl => ?_)
  refine lv_iload_n hx hb dX2_dueOf_21 rfl (lv_at hl 0 rfl) ?_
  refine lv_sipush (v := 500) hx hb dX2_dueOf_22 (by decide) ?_
  refine lv_icmp_lt (tgt := 40) hx hb dX2_dueOf_25 (by decide) (fun c25_1 => ?_) (fun c25_1 => ?_)
  · refine lv_iconst (v := 0) hx hb dX2_dueOf_40 (by decide) ?_
    refine lv_goto (tgt := 45) hx hb dX2_dueOf_41 (by decide) ?_
    exact tp_reti hx hb hr hlocks hK hP hD hS rfl (by unfold tp_mdue; rw [if_pos c25_1]) rfl dX2_dueOf_45
  · refine lv_aload_n hx hb dX2_dueOf_28 rfl (lv_at hl 1 rfl) ?_
    refine lv_iload_n hx hb dX2_dueOf_29 rfl (lv_at hl 2 rfl) ?_
    refine lv_iconst (v := 4) hx hb dX2_dueOf_30 (by decide) ?_
    refine lv_iload_n hx hb dX2_dueOf_31 rfl (lv_at hl 3 rfl) ?_
    refine tp_callV ⟨hx, hb, hml, hown, hts⟩ (mc_factOf l D cy n ad o I h (by omega) hc 4 k) (cwV 3 hts gX2_dueOf_X2_factOf rfl rfl rfl (by decide +kernel) ⟨Nat.le_of_ble_eq_true rfl, Nat.le_of_ble_eq_true rfl⟩) hK hP hD hS hA 2 2 tp_e2 rfl rfl rfl hl.1 rfl (Nat.le_of_ble_eq_true rfl) dX2_dueOf_32 ⟨Nat.zero_le _, Nat.zero_le _⟩ (fun I9 e9 H locs hP hD hS => ?_)
    subst e9
    refine lv_ldc (v := 1600000) hx hb hown (hts _ (List.mem_of_getElem? (i := 1) rfl)) dX2_dueOf_35 ?_
    refine lv_icmp_le (tgt := 44) hx hb dX2_dueOf_37 (by decide) (fun c37_2 => ?_) (fun c37_2 => ?_)
    · refine lv_iload_n hx hb dX2_dueOf_44 rfl (lv_at hl 0 rfl) ?_
      exact tp_reti hx hb hr hlocks hK hP hD hS rfl (by unfold tp_mdue; rw [if_neg c25_1, if_pos c37_2]) rfl dX2_dueOf_45
    · refine lv_iconst (v := 0) hx hb dX2_dueOf_40 (by decide) ?_
      refine lv_goto (tgt := 45) hx hb dX2_dueOf_41 (by decide) ?_
      exact tp_reti hx hb hr hlocks hK hP hD hS rfl (by unfold tp_mdue; rw [if_neg c25_1, if_neg c37_2]) rfl dX2_dueOf_45
set_option maxHeartbeats 4000000 in
set_option maxRecDepth 100000 in
/-- openOf(h) -/
theorem mc_openOf (l : Launch) (D : va_G) (cy : Nat → ClassId) (n : Nat) (ad : Nat → Nat) (o : Int64) (I : Nat → Nat → Int32) (h : Nat) (hh : h < 6) (hc : tp_C I h) (a0 e0 : Nat) (ha : I 3 h = nI a0) (he : I 2 1 = nI e0) (ha8 : a0 ≤ 48) (he8 : e0 ≤ 48) : tp_I l yX2_openOf wsX2_openOf (tp_rm 4 93) D cy n ad o [.ref (ad (2)), .int (nI h)] I (tp_mopen I h a0 e0) (I) := by
  refine tp_ofI (lv := [(0, .ref (ad (2))), (1, .int (nI h))]) (by decide) rfl (Nat.le_of_ble_eq_true rfl) rfl (fun p e s m args below meth c A ls S0 => ?_)
  obtain ⟨hx, hb, hr, hml, hown, hts, hlocks, hA, hK, hP, hD, hS, hl⟩ := S0
  refine lv_iconst (v := 0) hx hb dX2_openOf_0 (by decide) ?_
  refine lv_istore_n (lv' := [(2, .int 0), (0, .ref (ad (2))), (1, .int (nI h))]) hx hb dX2_openOf_1 rfl hl (by decide) rfl (fun ls hl => ?_)
  refine lv_aload_n hx hb dX2_openOf_2 rfl (lv_at hl 1 rfl) ?_
  refine va_get (D := D) (ci := 2) (v := .ref (ad (3))) (C := RX2) (T := TX2) (N := 16) hx hb hts (fun _ h => List.mem_cons_of_mem _ (List.mem_append_right _ (h))) hown hK hP 2 tp_e2 rfl 3 (by decide) (hts _ (List.mem_of_getElem? (i := 1) rfl)) (fun _ h9 => h9) rfl dX2_openOf_3 ?_
  refine lv_iload_n hx hb dX2_openOf_6 rfl (lv_at hl 2 rfl) ?_
  refine tp_iald hx hb hK hP 3 6 (h) (by omega) rfl rfl (by omega) (by decide) dX2_openOf_7 ?_
  refine tp_eqi (y := nI a0) ha ?_
  refine lv_istore_n (lv' := [(3, .int (nI a0)), (2, .int 0), (0, .ref (ad (2))), (1, .int (nI h))]) hx hb dX2_openOf_8 rfl hl (by decide) rfl (fun ls hl => ?_)
  refine tp_for (nL := 4) (e0 - a0) (fun _ => I) (fun t => [(3, .int (nI (a0 + t))), (2, .int (tp_sum (fun m => tp_mdue I h (nI m) - I 8 (48 * h + m)) a0 t)), (0, .ref (ad (2))), (1, .int (nI h))]) (fun t ht ls H locs hl hP hD hS ih => ?_) (fun ls H locs hl hP hD hS => ?_) hl hP hD hS
  · refine lv_iload_n hx hb dX2_openOf_9 rfl (lv_at hl 0 rfl) ?_
    refine lv_aload_n hx hb dX2_openOf_10 rfl (lv_at hl 2 rfl) ?_
    refine va_get (D := D) (ci := 2) (v := .int (I 2 1)) (C := RX2) (T := TX2) (N := 16) hx hb hts (fun _ h => List.mem_cons_of_mem _ (List.mem_append_right _ (h))) hown hK hP 2 tp_e2 rfl 1 (by decide) (hts _ (List.mem_of_getElem? (i := 2) rfl)) (fun _ h9 => h9) rfl dX2_openOf_11 ?_
    refine tp_eqi (y := nI e0) he ?_
    refine lv_icmp_ge (tgt := 44) hx hb dX2_openOf_14 (by decide) (fun c14_1 => ?_) (fun c14_1 => ?_)
    · exact absurd c14_1 (nI_ge (by omega) (by omega))
    · refine lv_iload_n hx hb dX2_openOf_17 rfl (lv_at hl 1 rfl) ?_
      refine lv_aload_n hx hb dX2_openOf_18 rfl (lv_at hl 2 rfl) ?_
      refine lv_iload_n hx hb dX2_openOf_19 rfl (lv_at hl 3 rfl) ?_
      refine lv_iload_n hx hb dX2_openOf_20 rfl (lv_at hl 0 rfl) ?_
      refine tp_callV ⟨hx, hb, hml, hown, hts⟩ (mc_dueOf l D cy n ad o I h (by omega) hc (nI (a0 + t))) (cwV 2 hts gX2_openOf_X2_dueOf rfl rfl rfl (by decide +kernel) ⟨Nat.le_of_ble_eq_true rfl, Nat.le_of_ble_eq_true rfl⟩) hK hP hD hS hA 2 2 tp_e2 rfl rfl rfl hl.1 rfl (Nat.le_of_ble_eq_true rfl) dX2_openOf_21 ⟨Nat.zero_le _, Nat.zero_le _⟩ (fun I9 e9 H locs hP hD hS => ?_)
      subst e9
      refine lv_aload_n hx hb dX2_openOf_24 rfl (lv_at hl 2 rfl) ?_
      refine va_get (D := D) (ci := 2) (v := .ref (ad (8))) (C := RX2) (T := TX2) (N := 16) hx hb hts (fun _ h => List.mem_cons_of_mem _ (List.mem_append_right _ (h))) hown hK hP 2 tp_e2 rfl 8 (by decide) (hts _ (List.mem_of_getElem? (i := 3) rfl)) (fun _ h9 => h9) rfl dX2_openOf_25 ?_
      refine lv_bipush (v := 48) hx hb dX2_openOf_28 (by decide) ?_
      refine lv_iload_n hx hb dX2_openOf_30 rfl (lv_at hl 3 rfl) ?_
      refine lv_imul hx hb dX2_openOf_31 ?_
      refine tp_eqi (y := nI (48 * h)) (pk_mul 48 h) ?_
      refine lv_iload_n hx hb dX2_openOf_32 rfl (lv_at hl 0 rfl) ?_
      refine lv_iadd hx hb dX2_openOf_33 ?_
      refine tp_eqi (y := nI ((48 * h) + (a0 + t))) (nI_add (48 * h) (a0 + t)) ?_
      refine tp_iald hx hb hK hP 8 288 (((48 * h) + (a0 + t))) (by omega) rfl rfl (by omega) (by decide) dX2_openOf_34 ?_
      refine lv_isub hx hb dX2_openOf_35 ?_
      refine lv_iadd hx hb dX2_openOf_36 ?_
      refine lv_istore_n (lv' := [(2, .int ((tp_sum (fun m => tp_mdue I h (nI m) - I 8 (48 * h + m)) a0 t) + ((tp_mdue I h (nI (a0 + t))) - (I 8 ((48 * h) + (a0 + t)))))), (3, .int (nI (a0 + t))), (0, .ref (ad (2))), (1, .int (nI h))]) hx hb dX2_openOf_37 rfl hl (by decide) rfl (fun ls hl => ?_)
      refine lv_iinc (v := (nI ((a0 + t) + 1))) (lv' := [(3, .int (nI ((a0 + t) + 1))), (2, .int ((tp_sum (fun m => tp_mdue I h (nI m) - I 8 (48 * h + m)) a0 t) + ((tp_mdue I h (nI (a0 + t))) - (I 8 ((48 * h) + (a0 + t)))))), (0, .ref (ad (2))), (1, .int (nI h))]) hx hb dX2_openOf_38 hl (k := 1) rfl (nI_1 _) (by decide) rfl (fun ls hl => ?_)
      refine lv_goto (tgt := 9) hx hb dX2_openOf_41 (by decide) ?_
      exact ih ls H locs (lv_sub hl [0, 1, 2, 3] rfl) hP hD hS
  · refine lv_iload_n hx hb dX2_openOf_9 rfl (lv_at hl 0 rfl) ?_
    refine lv_aload_n hx hb dX2_openOf_10 rfl (lv_at hl 2 rfl) ?_
    refine va_get (D := D) (ci := 2) (v := .int (I 2 1)) (C := RX2) (T := TX2) (N := 16) hx hb hts (fun _ h => List.mem_cons_of_mem _ (List.mem_append_right _ (h))) hown hK hP 2 tp_e2 rfl 1 (by decide) (hts _ (List.mem_of_getElem? (i := 2) rfl)) (fun _ h9 => h9) rfl dX2_openOf_11 ?_
    refine tp_eqi (y := nI e0) he ?_
    refine lv_icmp_ge (tgt := 44) hx hb dX2_openOf_14 (by decide) (fun c14_2 => ?_) (fun c14_2 => ?_)
    · refine lv_iload_n hx hb dX2_openOf_44 rfl (lv_at hl 1 rfl) ?_
      exact tp_reti hx hb hr hlocks hK hP hD hS rfl rfl rfl dX2_openOf_45
    · exact absurd (nI_le (by omega) (by omega)) c14_2
set_option maxHeartbeats 4000000 in
set_option maxRecDepth 100000 in
/-- reckons(h) -/
theorem mc_reckons (l : Launch) (D : va_G) (cy : Nat → ClassId) (n : Nat) (ad : Nat → Nat) (o : Int64) (I : Nat → Nat → Int32) (h : Nat) (hh : h < 6) (hc : tp_C I h) (a0 e0 : Nat) (ha : I 3 h = nI a0) (he : I 2 1 = nI e0) (ha8 : a0 ≤ 48) (he8 : e0 ≤ 48) : tp_V l yX2_reckons wsX2_reckons (tp_rm 5 116) D cy n ad o [.ref (ad (2)), .int (nI h)] I (tp_reck I h (nI e0) (tp_mopen I h a0 e0)) := by
  refine tp_ofV (lv := [(0, .ref (ad (2))), (1, .int (nI h))]) (by decide) rfl (Nat.le_of_ble_eq_true rfl) rfl (fun p e s m args below meth c A ls S0 => ?_)
  obtain ⟨hx, hb, hr, hml, hown, hts, hlocks, hA, hK, hP, hD, hS, hl⟩ := S0
  refine lv_aload_n hx hb dX2_reckons_0 rfl (lv_at hl 0 rfl) ?_
  refine lv_iload_n hx hb dX2_reckons_1 rfl (lv_at hl 1 rfl) ?_
  refine tp_callV ⟨hx, hb, hml, hown, hts⟩ (mc_openOf l D cy n ad o I h (by omega) hc a0 e0 ha he ha8 he8) (cwV 1 hts gX2_reckons_X2_openOf rfl rfl rfl (by decide +kernel) ⟨Nat.le_of_ble_eq_true rfl, Nat.le_of_ble_eq_true rfl⟩) hK hP hD hS hA 2 2 tp_e2 rfl rfl rfl hl.1 rfl (Nat.le_of_ble_eq_true rfl) dX2_reckons_2 ⟨Nat.zero_le _, Nat.zero_le _⟩ (fun I9 e9 H locs hP hD hS => ?_)
  subst e9
  refine lv_istore_n (lv' := [(2, .int (tp_mopen I h a0 e0)), (0, .ref (ad (2))), (1, .int (nI h))]) hx hb dX2_reckons_5 rfl hl (by decide) rfl (fun ls hl => ?_)
  refine tp_meetH (D := D) (cy := cy) (n := n) (ad := ad) (I := I) (o := o) (A := A) (H0 := s.heap) (tp_rdown I h (tp_mopen I h a0 e0) : Int32) (fun y => F0 m 24 ls (.int y :: [])) (fun hj24 => ?_) (fun H locs hP hD hS => ?_)
  · refine lv_iload_n hx hb dX2_reckons_6 rfl (lv_at hl 0 rfl) ?_
    refine lv_if_le (tgt := 23) hx hb dX2_reckons_7 (by decide) (fun c7_1 => ?_) (fun c7_1 => ?_)
    · refine lv_iconst (v := 0) hx hb dX2_reckons_23 (by decide) ?_
      exact hj24 _ (by unfold tp_rdown; rw [if_pos c7_1]) H locs hP hD hS
    · refine lv_iload_n hx hb dX2_reckons_10 rfl (lv_at hl 0 rfl) ?_
      refine lv_aload_n hx hb dX2_reckons_11 rfl (lv_at hl 1 rfl) ?_
      refine va_get (D := D) (ci := 2) (v := .ref (ad (10))) (C := RX2) (T := TX2) (N := 16) hx hb hts (fun _ h => List.mem_cons_of_mem _ (List.mem_append_right _ (h))) hown hK hP 2 tp_e2 rfl 10 (by decide) (hts _ (List.mem_of_getElem? (i := 1) rfl)) (fun _ h9 => h9) rfl dX2_reckons_12 ?_
      refine lv_iload_n hx hb dX2_reckons_15 rfl (lv_at hl 2 rfl) ?_
      refine tp_iald hx hb hK hP 10 6 (h) (by omega) rfl rfl (by omega) (by decide) dX2_reckons_16 ?_
      refine tp_callS ⟨hx, hb, hml, hown, hts⟩ (mc_least l D cy n ad o I (tp_mopen I h a0 e0) (I 10 h)) (va_cwS 2 hts gX2_reckons_X2_least rfl rfl rfl (by decide +kernel) ⟨Nat.le_of_ble_eq_true rfl, Nat.le_of_ble_eq_true rfl⟩) hK hP hD hS hA rfl hl.1 rfl (Nat.le_of_ble_eq_true rfl) dX2_reckons_17 ⟨Nat.zero_le _, Nat.zero_le _⟩ (fun I9 e9 H locs hP hD hS => ?_)
      subst e9
      refine lv_goto (tgt := 24) hx hb dX2_reckons_20 (by decide) ?_
      exact hj24 _ (by unfold tp_rdown; rw [if_neg c7_1]) H locs hP hD hS
  refine lv_istore_n (lv' := [(3, .int (tp_rdown I h (tp_mopen I h a0 e0))), (2, .int (tp_mopen I h a0 e0)), (0, .ref (ad (2))), (1, .int (nI h))]) hx hb dX2_reckons_24 rfl hl (by decide) rfl (fun ls hl => ?_)
  refine tp_meetH (D := D) (cy := cy) (n := n) (ad := ad) (I := I) (o := o) (A := A) (H0 := s.heap) (tp_rarr I h (tp_mopen I h a0 e0) : Int32) (fun y => F0 m 36 ls (.int y :: [])) (fun hj36 => ?_) (fun H locs hP hD hS => ?_)
  · refine lv_iload_n hx hb dX2_reckons_25 rfl (lv_at hl 1 rfl) ?_
    refine lv_if_le (tgt := 35) hx hb dX2_reckons_26 (by decide) (fun c26_2 => ?_) (fun c26_2 => ?_)
    · refine lv_iconst (v := 0) hx hb dX2_reckons_35 (by decide) ?_
      exact hj36 _ (by unfold tp_rarr; rw [if_pos c26_2]) H locs hP hD hS
    · refine lv_iload_n hx hb dX2_reckons_29 rfl (lv_at hl 1 rfl) ?_
      refine lv_iload_n hx hb dX2_reckons_30 rfl (lv_at hl 0 rfl) ?_
      refine lv_isub hx hb dX2_reckons_31 ?_
      refine lv_goto (tgt := 36) hx hb dX2_reckons_32 (by decide) ?_
      exact hj36 _ (by unfold tp_rarr; rw [if_neg c26_2]) H locs hP hD hS
  refine lv_istore (lv' := [(4, .int (tp_rarr I h (tp_mopen I h a0 e0))), (3, .int (tp_rdown I h (tp_mopen I h a0 e0))), (2, .int (tp_mopen I h a0 e0)), (0, .ref (ad (2))), (1, .int (nI h))]) hx hb dX2_reckons_36 hl (by decide) rfl (fun ls hl => ?_)
  refine lv_aload_n hx hb dX2_reckons_38 rfl (lv_at hl 3 rfl) ?_
  refine lv_iload_n hx hb dX2_reckons_39 rfl (lv_at hl 4 rfl) ?_
  refine lv_aload_n hx hb dX2_reckons_40 rfl (lv_at hl 3 rfl) ?_
  refine va_get (D := D) (ci := 2) (v := .int (I 2 1)) (C := RX2) (T := TX2) (N := 16) hx hb hts (fun _ h => List.mem_cons_of_mem _ (List.mem_append_right _ (h))) hown hK hP 2 tp_e2 rfl 1 (by decide) (hts _ (List.mem_of_getElem? (i := 2) rfl)) (fun _ h9 => h9) rfl dX2_reckons_41 ?_
  refine tp_eqi (y := nI e0) he ?_
  refine tp_callV ⟨hx, hb, hml, hown, hts⟩ (mc_dueOf l D cy n ad o I h (by omega) hc (nI e0)) (cwV 2 hts gX2_reckons_X2_dueOf rfl rfl rfl (by decide +kernel) ⟨Nat.le_of_ble_eq_true rfl, Nat.le_of_ble_eq_true rfl⟩) hK hP hD hS hA 2 2 tp_e2 rfl rfl rfl hl.1 rfl (Nat.le_of_ble_eq_true rfl) dX2_reckons_44 ⟨Nat.zero_le _, Nat.zero_le _⟩ (fun I9 e9 H locs hP hD hS => ?_)
  subst e9
  refine lv_istore (lv' := [(5, .int (tp_mdue I h (nI e0))), (4, .int (tp_rarr I h (tp_mopen I h a0 e0))), (3, .int (tp_rdown I h (tp_mopen I h a0 e0))), (2, .int (tp_mopen I h a0 e0)), (0, .ref (ad (2))), (1, .int (nI h))]) hx hb dX2_reckons_47 hl (by decide) rfl (fun ls hl => ?_)
  refine lv_iload hx hb dX2_reckons_49 (lv_at hl 0 rfl) ?_
  refine lv_aload_n hx hb dX2_reckons_51 rfl (lv_at hl 4 rfl) ?_
  refine lv_iload_n hx hb dX2_reckons_52 rfl (lv_at hl 5 rfl) ?_
  refine lv_iconst (v := 3) hx hb dX2_reckons_53 (by decide) ?_
  refine lv_aload_n hx hb dX2_reckons_54 rfl (lv_at hl 4 rfl) ?_
  refine va_get (D := D) (ci := 2) (v := .int (I 2 1)) (C := RX2) (T := TX2) (N := 16) hx hb hts (fun _ h => List.mem_cons_of_mem _ (List.mem_append_right _ (h))) hown hK hP 2 tp_e2 rfl 1 (by decide) (hts _ (List.mem_of_getElem? (i := 2) rfl)) (fun _ h9 => h9) rfl dX2_reckons_55 ?_
  refine tp_eqi (y := nI e0) he ?_
  refine tp_callV ⟨hx, hb, hml, hown, hts⟩ (mc_factOf l D cy n ad o I h (by omega) hc 3 (nI e0)) (cwV 3 hts gX2_reckons_X2_factOf rfl rfl rfl (by decide +kernel) ⟨Nat.le_of_ble_eq_true rfl, Nat.le_of_ble_eq_true rfl⟩) hK hP hD hS hA 2 2 tp_e2 rfl rfl rfl hl.1 rfl (Nat.le_of_ble_eq_true rfl) dX2_reckons_58 ⟨Nat.zero_le _, Nat.zero_le _⟩ (fun I9 e9 H locs hP hD hS => ?_)
  subst e9
  refine lv_iadd hx hb dX2_reckons_61 ?_
  refine lv_sipush (v := 25000) hx hb dX2_reckons_62 (by decide) ?_
  refine lv_isub hx hb dX2_reckons_65 ?_
  refine lv_istore (lv' := [(6, .int (((tp_mdue I h (nI e0)) + (tp_mfact I h 3 (nI e0))) - 25000)), (5, .int (tp_mdue I h (nI e0))), (4, .int (tp_rarr I h (tp_mopen I h a0 e0))), (3, .int (tp_rdown I h (tp_mopen I h a0 e0))), (2, .int (tp_mopen I h a0 e0)), (0, .ref (ad (2))), (1, .int (nI h))]) hx hb dX2_reckons_66 hl (by decide) rfl (fun ls hl => ?_)
  refine lv_aload_n hx hb dX2_reckons_68 rfl (lv_at hl 5 rfl) ?_
  refine tp_meetH (D := D) (cy := cy) (n := n) (ad := ad) (I := I) (o := o) (A := A) (H0 := s.heap) (tp_rthen I h (tp_mopen I h a0 e0) : Int32) (fun y => F0 m 92 ls (.int y :: [.ref (ad (2))])) (fun hj92 => ?_) (fun H locs hP hD hS => ?_)
  · refine lv_iload_n hx hb dX2_reckons_69 rfl (lv_at hl 4 rfl) ?_
    refine lv_if_le (tgt := 84) hx hb dX2_reckons_70 (by decide) (fun c70_3 => ?_) (fun c70_3 => ?_)
    · refine lv_aload_n hx hb dX2_reckons_84 rfl (lv_at hl 5 rfl) ?_
      refine va_get (D := D) (ci := 2) (v := .ref (ad (10))) (C := RX2) (T := TX2) (N := 16) hx hb hts (fun _ h => List.mem_cons_of_mem _ (List.mem_append_right _ (h))) hown hK hP 2 tp_e2 rfl 10 (by decide) (hts _ (List.mem_of_getElem? (i := 1) rfl)) (fun _ h9 => h9) rfl dX2_reckons_85 ?_
      refine lv_iload_n hx hb dX2_reckons_88 rfl (lv_at hl 6 rfl) ?_
      refine tp_iald hx hb hK hP 10 6 (h) (by omega) rfl rfl (by omega) (by decide) dX2_reckons_89 ?_
      refine lv_iload_n hx hb dX2_reckons_90 rfl (lv_at hl 4 rfl) ?_
      refine lv_isub hx hb dX2_reckons_91 ?_
      exact hj92 _ (by unfold tp_rthen; rw [if_pos c70_3]) H locs hP hD hS
    · refine lv_aload_n hx hb dX2_reckons_73 rfl (lv_at hl 5 rfl) ?_
      refine va_get (D := D) (ci := 2) (v := .ref (ad (10))) (C := RX2) (T := TX2) (N := 16) hx hb hts (fun _ h => List.mem_cons_of_mem _ (List.mem_append_right _ (h))) hown hK hP 2 tp_e2 rfl 10 (by decide) (hts _ (List.mem_of_getElem? (i := 1) rfl)) (fun _ h9 => h9) rfl dX2_reckons_74 ?_
      refine lv_iload_n hx hb dX2_reckons_77 rfl (lv_at hl 6 rfl) ?_
      refine tp_iald hx hb hK hP 10 6 (h) (by omega) rfl rfl (by omega) (by decide) dX2_reckons_78 ?_
      refine lv_iload_n hx hb dX2_reckons_79 rfl (lv_at hl 3 rfl) ?_
      refine lv_isub hx hb dX2_reckons_80 ?_
      refine lv_goto (tgt := 92) hx hb dX2_reckons_81 (by decide) ?_
      exact hj92 _ (by unfold tp_rthen; rw [if_neg c70_3]) H locs hP hD hS
  refine tp_put (ci := 2) (v := (tp_rthen I h (tp_mopen I h a0 e0))) (ty := .int) (C := RX2) (T := TX2) (N := 16) hx hb hts (fun _ h => List.mem_cons_of_mem _ (List.mem_append_right _ (h))) tyX2 tyX2_ok nmX2 hown hK hP hD hS 2 tp_e2 (by omega) rfl 13 (by decide) (hts _ (List.mem_of_getElem? (i := 3) rfl)) rfl (by decide +kernel) rfl rfl (Nat.le_of_ble_eq_true rfl) rfl dX2_reckons_92 (fun H locs hP hD hS => ?_)
  refine lv_aload_n hx hb dX2_reckons_95 rfl (lv_at hl 5 rfl) ?_
  refine tp_meetH (D := D) (cy := cy) (n := n) (ad := ad) (I := tp_u I 2 13 (tp_rthen I h (tp_mopen I h a0 e0))) (o := o) (A := A) (H0 := s.heap) (tp_rtaken I h (nI e0) (tp_mopen I h a0 e0) : Int32) (fun y => F0 m 134 ls (.int y :: [.ref (ad (2))])) (fun hj134 => ?_) (fun H locs hP hD hS => ?_)
  · refine lv_aload_n hx hb dX2_reckons_96 rfl (lv_at hl 5 rfl) ?_
    refine va_get (D := D) (ci := 2) (v := .ref (ad (12))) (C := RX2) (T := TX2) (N := 16) hx hb hts (fun _ h => List.mem_cons_of_mem _ (List.mem_append_right _ (h))) hown hK hP 2 tp_e2 rfl 12 (by decide) (hts _ (List.mem_of_getElem? (i := 4) rfl)) (fun _ h9 => h9) rfl dX2_reckons_97 ?_
    refine lv_iload_n hx hb dX2_reckons_100 rfl (lv_at hl 6 rfl) ?_
    refine tp_zald hx hb hK hP 12 6 (h) (by omega) rfl rfl (by omega) (by decide) dX2_reckons_101 ?_
    refine tp_eqi (y := (I 12 h)) rfl ?_
    refine lv_if_ne (tgt := 110) hx hb dX2_reckons_102 (by decide) (fun c102_4 => ?_) (fun c102_4 => ?_)
    · refine lv_iconst (v := 0) hx hb dX2_reckons_110 (by decide) ?_
      refine lv_goto (tgt := 134) hx hb dX2_reckons_111 (by decide) ?_
      exact hj134 _ (by unfold tp_rtaken tp_rroom; rw [if_neg c102_4]) H locs hP hD hS
    · refine lv_iload hx hb dX2_reckons_105 (lv_at hl 0 rfl) ?_
      refine lv_if_ge (tgt := 114) hx hb dX2_reckons_107 (by decide) (fun c107_5 => ?_) (fun c107_5 => ?_)
      · refine lv_aload_n hx hb dX2_reckons_114 rfl (lv_at hl 5 rfl) ?_
        refine va_get (D := D) (ci := 2) (v := .int (tp_rthen I h (tp_mopen I h a0 e0))) (C := RX2) (T := TX2) (N := 16) hx hb hts (fun _ h => List.mem_cons_of_mem _ (List.mem_append_right _ (h))) hown hK hP 2 tp_e2 rfl 13 (by decide) (hts _ (List.mem_of_getElem? (i := 3) rfl)) (fun _ h9 => h9) rfl dX2_reckons_115 ?_
        refine lv_iload hx hb dX2_reckons_118 (lv_at hl 1 rfl) ?_
        refine lv_bipush (v := 15) hx hb dX2_reckons_120 (by decide) ?_
        refine lv_imul hx hb dX2_reckons_122 ?_
        refine lv_bipush (v := 100) hx hb dX2_reckons_123 (by decide) ?_
        refine lv_idiv hx hb dX2_reckons_125 (by decide) ?_
        refine lv_iload hx hb dX2_reckons_126 (lv_at hl 0 rfl) ?_
        refine tp_callS ⟨hx, hb, hml, hown, hts⟩ (mc_least l D cy n ad o (tp_u I 2 13 (tp_rthen I h (tp_mopen I h a0 e0))) (((tp_mdue I h (nI e0)) * 15) / 100) (((tp_mdue I h (nI e0)) + (tp_mfact I h 3 (nI e0))) - 25000)) (va_cwS 2 hts gX2_reckons_X2_least rfl rfl rfl (by decide +kernel) ⟨Nat.le_of_ble_eq_true rfl, Nat.le_of_ble_eq_true rfl⟩) hK hP hD hS hA rfl hl.1 rfl (Nat.le_of_ble_eq_true rfl) dX2_reckons_128 ⟨Nat.zero_le _, Nat.zero_le _⟩ (fun I9 e9 H locs hP hD hS => ?_)
        subst e9
        refine tp_callS ⟨hx, hb, hml, hown, hts⟩ (mc_least l D cy n ad o (tp_u I 2 13 (tp_rthen I h (tp_mopen I h a0 e0))) (tp_rthen I h (tp_mopen I h a0 e0)) (tp_least (((tp_mdue I h (nI e0)) * 15) / 100) (((tp_mdue I h (nI e0)) + (tp_mfact I h 3 (nI e0))) - 25000))) (va_cwS 2 hts gX2_reckons_X2_least rfl rfl rfl (by decide +kernel) ⟨Nat.le_of_ble_eq_true rfl, Nat.le_of_ble_eq_true rfl⟩) hK hP hD hS hA rfl hl.1 rfl (Nat.le_of_ble_eq_true rfl) dX2_reckons_131 ⟨Nat.zero_le _, Nat.zero_le _⟩ (fun I9 e9 H locs hP hD hS => ?_)
        subst e9
        exact hj134 _ (by unfold tp_rtaken tp_rroom; rw [if_pos c102_4, if_pos c107_5]) H locs hP hD hS
      · refine lv_iconst (v := 0) hx hb dX2_reckons_110 (by decide) ?_
        refine lv_goto (tgt := 134) hx hb dX2_reckons_111 (by decide) ?_
        exact hj134 _ (by unfold tp_rtaken tp_rroom; rw [if_pos c102_4, if_neg c107_5]) H locs hP hD hS
  refine tp_put (ci := 2) (v := (tp_rtaken I h (nI e0) (tp_mopen I h a0 e0))) (ty := .int) (C := RX2) (T := TX2) (N := 16) hx hb hts (fun _ h => List.mem_cons_of_mem _ (List.mem_append_right _ (h))) tyX2 tyX2_ok nmX2 hown hK hP hD hS 2 tp_e2 (by omega) rfl 14 (by decide) (hts _ (List.mem_of_getElem? (i := 5) rfl)) rfl (by decide +kernel) rfl rfl (Nat.le_of_ble_eq_true rfl) rfl dX2_reckons_134 (fun H locs hP hD hS => ?_)
  refine lv_aload_n hx hb dX2_reckons_137 rfl (lv_at hl 5 rfl) ?_
  refine lv_iload hx hb dX2_reckons_138 (lv_at hl 1 rfl) ?_
  refine lv_aload_n hx hb dX2_reckons_140 rfl (lv_at hl 5 rfl) ?_
  refine va_get (D := D) (ci := 2) (v := .int (tp_rtaken I h (nI e0) (tp_mopen I h a0 e0))) (C := RX2) (T := TX2) (N := 16) hx hb hts (fun _ h => List.mem_cons_of_mem _ (List.mem_append_right _ (h))) hown hK hP 2 tp_e2 rfl 14 (by decide) (hts _ (List.mem_of_getElem? (i := 5) rfl)) (fun _ h9 => h9) rfl dX2_reckons_141 ?_
  refine lv_isub hx hb dX2_reckons_144 ?_
  refine lv_iload hx hb dX2_reckons_145 (lv_at hl 2 rfl) ?_
  refine lv_iadd hx hb dX2_reckons_147 ?_
  refine tp_put (ci := 2) (v := (((tp_mdue I h (nI e0)) - (tp_rtaken I h (nI e0) (tp_mopen I h a0 e0))) + (tp_rarr I h (tp_mopen I h a0 e0)))) (ty := .int) (C := RX2) (T := TX2) (N := 16) hx hb hts (fun _ h => List.mem_cons_of_mem _ (List.mem_append_right _ (h))) tyX2 tyX2_ok nmX2 hown hK hP hD hS 2 tp_e2 (by omega) rfl 15 (by decide) (hts _ (List.mem_of_getElem? (i := 6) rfl)) rfl (by decide +kernel) rfl rfl (Nat.le_of_ble_eq_true rfl) rfl dX2_reckons_148 (fun H locs hP hD hS => ?_)
  exact tp_retv hx hb hr hlocks hK hP hD hS rfl dX2_reckons_151
end
section
set_option maxHeartbeats 4000000 in
set_option maxRecDepth 100000 in
/-- households: all -/
theorem mp_households_all (l : Launch) (D : va_G) (cy : Nat → ClassId) (n : Nat) (ad : Nat → Nat) (o : Int64) (I : Nat → Nat → Int32)  : tp_I l yX2_households wsX2_households (tp_rm 0 0) D cy n ad o [.ref (ad (2))] I (I 2 2) (tp_u I 2 0 0) := by
  refine tp_ofI (lv := [(0, .ref (ad (2)))]) (by decide) rfl (Nat.le_of_ble_eq_true rfl) rfl (fun p e s m args below meth c A ls S0 => ?_)
  obtain ⟨hx, hb, hr, hml, hown, hts, hlocks, hA, hK, hP, hD, hS, hl⟩ := S0
  refine lv_aload_n hx hb dX2_households_0 rfl (lv_at hl 0 rfl) ?_
  refine lv_iconst (v := 0) hx hb dX2_households_1 (by decide) ?_
  refine tp_put (ci := 2) (v := 0) (ty := .int) (C := RX2) (T := TX2) (N := 16) hx hb hts (fun _ h => List.mem_cons_of_mem _ (List.mem_append_right _ (h))) tyX2 tyX2_ok nmX2 hown hK hP hD hS 2 tp_e2 (by omega) rfl 0 (by decide) (hts _ (List.mem_of_getElem? (i := 1) rfl)) rfl (by decide +kernel) rfl rfl (Nat.le_of_ble_eq_true rfl) rfl dX2_households_2 (fun H locs hP hD hS => ?_)
  refine lv_aload_n hx hb dX2_households_5 rfl (lv_at hl 0 rfl) ?_
  refine va_get (D := D) (ci := 2) (v := .int (I 2 2)) (C := RX2) (T := TX2) (N := 16) hx hb hts (fun _ h => List.mem_cons_of_mem _ (List.mem_append_right _ (h))) hown hK hP 2 tp_e2 rfl 2 (by decide) (hts _ (List.mem_of_getElem? (i := 2) rfl)) (fun _ h9 => h9) rfl dX2_households_6 ?_
  exact tp_reti hx hb hr hlocks hK hP hD hS rfl rfl rfl dX2_households_9
set_option maxHeartbeats 4000000 in
set_option maxRecDepth 100000 in
/-- month: all -/
theorem mp_month_all (l : Launch) (D : va_G) (cy : Nat → ClassId) (n : Nat) (ad : Nat → Nat) (o : Int64) (I : Nat → Nat → Int32)  : tp_I l yX2_month wsX2_month (tp_rm 0 0) D cy n ad o [.ref (ad (2))] I (if 48 ≤ I 2 1 then -1 else I 2 1) (tp_u I 2 0 0) := by
  refine tp_ofI (lv := [(0, .ref (ad (2)))]) (by decide) rfl (Nat.le_of_ble_eq_true rfl) rfl (fun p e s m args below meth c A ls S0 => ?_)
  obtain ⟨hx, hb, hr, hml, hown, hts, hlocks, hA, hK, hP, hD, hS, hl⟩ := S0
  refine lv_aload_n hx hb dX2_month_0 rfl (lv_at hl 0 rfl) ?_
  refine lv_iconst (v := 0) hx hb dX2_month_1 (by decide) ?_
  refine tp_put (ci := 2) (v := 0) (ty := .int) (C := RX2) (T := TX2) (N := 16) hx hb hts (fun _ h => List.mem_cons_of_mem _ (List.mem_append_right _ (h))) tyX2 tyX2_ok nmX2 hown hK hP hD hS 2 tp_e2 (by omega) rfl 0 (by decide) (hts _ (List.mem_of_getElem? (i := 1) rfl)) rfl (by decide +kernel) rfl rfl (Nat.le_of_ble_eq_true rfl) rfl dX2_month_2 (fun H locs hP hD hS => ?_)
  refine lv_aload_n hx hb dX2_month_5 rfl (lv_at hl 0 rfl) ?_
  refine va_get (D := D) (ci := 2) (v := .int (I 2 1)) (C := RX2) (T := TX2) (N := 16) hx hb hts (fun _ h => List.mem_cons_of_mem _ (List.mem_append_right _ (h))) hown hK hP 2 tp_e2 rfl 1 (by decide) (hts _ (List.mem_of_getElem? (i := 2) rfl)) (fun _ h9 => h9) rfl dX2_month_6 ?_
  refine lv_bipush (v := 48) hx hb dX2_month_9 (by decide) ?_
  refine lv_icmp_ge (tgt := 21) hx hb dX2_month_11 (by decide) (fun c11_1 => ?_) (fun c11_1 => ?_)
  · refine lv_iconst (v := (-1)) hx hb dX2_month_21 (by decide) ?_
    exact tp_reti hx hb hr hlocks hK hP hD hS rfl (by rw [if_pos c11_1]) rfl dX2_month_22
  · refine lv_aload_n hx hb dX2_month_14 rfl (lv_at hl 0 rfl) ?_
    refine va_get (D := D) (ci := 2) (v := .int (I 2 1)) (C := RX2) (T := TX2) (N := 16) hx hb hts (fun _ h => List.mem_cons_of_mem _ (List.mem_append_right _ (h))) hown hK hP 2 tp_e2 rfl 1 (by decide) (hts _ (List.mem_of_getElem? (i := 2) rfl)) (fun _ h9 => h9) rfl dX2_month_15 ?_
    refine lv_goto (tgt := 22) hx hb dX2_month_18 (by decide) ?_
    exact tp_reti hx hb hr hlocks hK hP hD hS rfl (by rw [if_neg c11_1]) rfl dX2_month_22
set_option maxHeartbeats 4000000 in
set_option maxRecDepth 100000 in
/-- debt: no -/
theorem mp_debt_no (l : Launch) (D : va_G) (cy : Nat → ClassId) (n : Nat) (ad : Nat → Nat) (o : Int64) (I : Nat → Nat → Int32) (x : Int32) (hH : tp_in x 0 (I 2 2 - 1) = 0) : tp_I l yX2_debt wsX2_debt (tp_rm 2 43) D cy n ad o [.ref (ad (2)), .int x] I (0) (tp_u (tp_u I 2 0 0) 2 0 1) := by
  refine tp_ofI (lv := [(0, .ref (ad (2))), (1, .int x)]) (by decide) rfl (Nat.le_of_ble_eq_true rfl) rfl (fun p e s m args below meth c A ls S0 => ?_)
  obtain ⟨hx, hb, hr, hml, hown, hts, hlocks, hA, hK, hP, hD, hS, hl⟩ := S0
  refine lv_aload_n hx hb dX2_debt_0 rfl (lv_at hl 0 rfl) ?_
  refine lv_iconst (v := 0) hx hb dX2_debt_1 (by decide) ?_
  refine tp_put (ci := 2) (v := 0) (ty := .int) (C := RX2) (T := TX2) (N := 16) hx hb hts (fun _ h => List.mem_cons_of_mem _ (List.mem_append_right _ (h))) tyX2 tyX2_ok nmX2 hown hK hP hD hS 2 tp_e2 (by omega) rfl 0 (by decide) (hts _ (List.mem_of_getElem? (i := 1) rfl)) rfl (by decide +kernel) rfl rfl (Nat.le_of_ble_eq_true rfl) rfl dX2_debt_2 (fun H locs hP hD hS => ?_)
  refine lv_aload_n hx hb dX2_debt_5 rfl (lv_at hl 0 rfl) ?_
  refine lv_iload_n hx hb dX2_debt_6 rfl (lv_at hl 1 rfl) ?_
  refine tp_callV ⟨hx, hb, hml, hown, hts⟩ (tp_eqI (mc_isHome l D cy n ad o (tp_u I 2 0 0) x) hH rfl) (cwV 1 hts gX2_debt_X2_isHome rfl rfl rfl (by decide +kernel) ⟨Nat.le_of_ble_eq_true rfl, Nat.le_of_ble_eq_true rfl⟩) hK hP hD hS hA 2 2 tp_e2 rfl rfl rfl hl.1 rfl (Nat.le_of_ble_eq_true rfl) dX2_debt_7 ⟨Nat.zero_le _, Nat.zero_le _⟩ (fun I9 e9 H locs hP hD hS => ?_)
  subst e9
  refine lv_if_eq (tgt := 22) hx hb dX2_debt_10 (by decide) (fun c10_1 => ?_) (fun c10_1 => ?_)
  · refine lv_aload_n hx hb dX2_debt_22 rfl (lv_at hl 0 rfl) ?_
    refine lv_iconst (v := 1) hx hb dX2_debt_23 (by decide) ?_
    refine tp_callV ⟨hx, hb, hml, hown, hts⟩ (mc_fails l D cy n ad o (tp_u I 2 0 0) 1) (cwV 1 hts gX2_debt_X2_fails rfl rfl rfl (by decide +kernel) ⟨Nat.le_of_ble_eq_true rfl, Nat.le_of_ble_eq_true rfl⟩) hK hP hD hS hA 2 2 tp_e2 rfl rfl rfl hl.1 rfl (Nat.le_of_ble_eq_true rfl) dX2_debt_24 ⟨Nat.zero_le _, Nat.zero_le _⟩ (fun I9 e9 H locs hP hD hS => ?_)
    subst e9
    exact tp_reti hx hb hr hlocks hK hP hD hS rfl rfl rfl dX2_debt_27
  · exact absurd rfl c10_1
set_option maxHeartbeats 4000000 in
set_option maxRecDepth 100000 in
/-- debt: ok -/
theorem mp_debt_ok (l : Launch) (D : va_G) (cy : Nat → ClassId) (n : Nat) (ad : Nat → Nat) (o : Int64) (I : Nat → Nat → Int32) (h : Nat) (hh : h < 6) (hH : tp_in (nI h) 0 (I 2 2 - 1) = 1) : tp_I l yX2_debt wsX2_debt (tp_rm 2 43) D cy n ad o [.ref (ad (2)), .int (nI h)] I (I 10 h) (tp_u I 2 0 0) := by
  refine tp_ofI (lv := [(0, .ref (ad (2))), (1, .int (nI h))]) (by decide) rfl (Nat.le_of_ble_eq_true rfl) rfl (fun p e s m args below meth c A ls S0 => ?_)
  obtain ⟨hx, hb, hr, hml, hown, hts, hlocks, hA, hK, hP, hD, hS, hl⟩ := S0
  refine lv_aload_n hx hb dX2_debt_0 rfl (lv_at hl 0 rfl) ?_
  refine lv_iconst (v := 0) hx hb dX2_debt_1 (by decide) ?_
  refine tp_put (ci := 2) (v := 0) (ty := .int) (C := RX2) (T := TX2) (N := 16) hx hb hts (fun _ h => List.mem_cons_of_mem _ (List.mem_append_right _ (h))) tyX2 tyX2_ok nmX2 hown hK hP hD hS 2 tp_e2 (by omega) rfl 0 (by decide) (hts _ (List.mem_of_getElem? (i := 1) rfl)) rfl (by decide +kernel) rfl rfl (Nat.le_of_ble_eq_true rfl) rfl dX2_debt_2 (fun H locs hP hD hS => ?_)
  refine lv_aload_n hx hb dX2_debt_5 rfl (lv_at hl 0 rfl) ?_
  refine lv_iload_n hx hb dX2_debt_6 rfl (lv_at hl 1 rfl) ?_
  refine tp_callV ⟨hx, hb, hml, hown, hts⟩ (tp_eqI (mc_isHome l D cy n ad o (tp_u I 2 0 0) (nI h)) hH rfl) (cwV 1 hts gX2_debt_X2_isHome rfl rfl rfl (by decide +kernel) ⟨Nat.le_of_ble_eq_true rfl, Nat.le_of_ble_eq_true rfl⟩) hK hP hD hS hA 2 2 tp_e2 rfl rfl rfl hl.1 rfl (Nat.le_of_ble_eq_true rfl) dX2_debt_7 ⟨Nat.zero_le _, Nat.zero_le _⟩ (fun I9 e9 H locs hP hD hS => ?_)
  subst e9
  refine lv_if_eq (tgt := 22) hx hb dX2_debt_10 (by decide) (fun c10_1 => ?_) (fun c10_1 => ?_)
  · exact absurd c10_1 (by decide)
  · refine lv_aload_n hx hb dX2_debt_13 rfl (lv_at hl 0 rfl) ?_
    refine va_get (D := D) (ci := 2) (v := .ref (ad (10))) (C := RX2) (T := TX2) (N := 16) hx hb hts (fun _ h => List.mem_cons_of_mem _ (List.mem_append_right _ (h))) hown hK hP 2 tp_e2 rfl 10 (by decide) (hts _ (List.mem_of_getElem? (i := 2) rfl)) (fun _ h9 => h9) rfl dX2_debt_14 ?_
    refine lv_iload_n hx hb dX2_debt_17 rfl (lv_at hl 1 rfl) ?_
    refine tp_iald hx hb hK hP 10 6 (h) (by omega) rfl rfl (by omega) (by decide) dX2_debt_18 ?_
    refine tp_eqi (y := (I 10 h)) rfl ?_
    refine lv_goto (tgt := 27) hx hb dX2_debt_19 (by decide) ?_
    exact tp_reti hx hb hr hlocks hK hP hD hS rfl rfl rfl dX2_debt_27
set_option maxHeartbeats 4000000 in
set_option maxRecDepth 100000 in
/-- recovered: no -/
theorem mp_recovered_no (l : Launch) (D : va_G) (cy : Nat → ClassId) (n : Nat) (ad : Nat → Nat) (o : Int64) (I : Nat → Nat → Int32) (x : Int32) (hH : tp_in x 0 (I 2 2 - 1) = 0) : tp_I l yX2_recovered wsX2_recovered (tp_rm 2 43) D cy n ad o [.ref (ad (2)), .int x] I (0) (tp_u (tp_u I 2 0 0) 2 0 1) := by
  refine tp_ofI (lv := [(0, .ref (ad (2))), (1, .int x)]) (by decide) rfl (Nat.le_of_ble_eq_true rfl) rfl (fun p e s m args below meth c A ls S0 => ?_)
  obtain ⟨hx, hb, hr, hml, hown, hts, hlocks, hA, hK, hP, hD, hS, hl⟩ := S0
  refine lv_aload_n hx hb dX2_recovered_0 rfl (lv_at hl 0 rfl) ?_
  refine lv_iconst (v := 0) hx hb dX2_recovered_1 (by decide) ?_
  refine tp_put (ci := 2) (v := 0) (ty := .int) (C := RX2) (T := TX2) (N := 16) hx hb hts (fun _ h => List.mem_cons_of_mem _ (List.mem_append_right _ (h))) tyX2 tyX2_ok nmX2 hown hK hP hD hS 2 tp_e2 (by omega) rfl 0 (by decide) (hts _ (List.mem_of_getElem? (i := 1) rfl)) rfl (by decide +kernel) rfl rfl (Nat.le_of_ble_eq_true rfl) rfl dX2_recovered_2 (fun H locs hP hD hS => ?_)
  refine lv_aload_n hx hb dX2_recovered_5 rfl (lv_at hl 0 rfl) ?_
  refine lv_iload_n hx hb dX2_recovered_6 rfl (lv_at hl 1 rfl) ?_
  refine tp_callV ⟨hx, hb, hml, hown, hts⟩ (tp_eqI (mc_isHome l D cy n ad o (tp_u I 2 0 0) x) hH rfl) (cwV 1 hts gX2_recovered_X2_isHome rfl rfl rfl (by decide +kernel) ⟨Nat.le_of_ble_eq_true rfl, Nat.le_of_ble_eq_true rfl⟩) hK hP hD hS hA 2 2 tp_e2 rfl rfl rfl hl.1 rfl (Nat.le_of_ble_eq_true rfl) dX2_recovered_7 ⟨Nat.zero_le _, Nat.zero_le _⟩ (fun I9 e9 H locs hP hD hS => ?_)
  subst e9
  refine lv_if_eq (tgt := 22) hx hb dX2_recovered_10 (by decide) (fun c10_1 => ?_) (fun c10_1 => ?_)
  · refine lv_aload_n hx hb dX2_recovered_22 rfl (lv_at hl 0 rfl) ?_
    refine lv_iconst (v := 1) hx hb dX2_recovered_23 (by decide) ?_
    refine tp_callV ⟨hx, hb, hml, hown, hts⟩ (mc_fails l D cy n ad o (tp_u I 2 0 0) 1) (cwV 1 hts gX2_recovered_X2_fails rfl rfl rfl (by decide +kernel) ⟨Nat.le_of_ble_eq_true rfl, Nat.le_of_ble_eq_true rfl⟩) hK hP hD hS hA 2 2 tp_e2 rfl rfl rfl hl.1 rfl (Nat.le_of_ble_eq_true rfl) dX2_recovered_24 ⟨Nat.zero_le _, Nat.zero_le _⟩ (fun I9 e9 H locs hP hD hS => ?_)
    subst e9
    exact tp_reti hx hb hr hlocks hK hP hD hS rfl rfl rfl dX2_recovered_27
  · exact absurd rfl c10_1
set_option maxHeartbeats 4000000 in
set_option maxRecDepth 100000 in
/-- recovered: ok -/
theorem mp_recovered_ok (l : Launch) (D : va_G) (cy : Nat → ClassId) (n : Nat) (ad : Nat → Nat) (o : Int64) (I : Nat → Nat → Int32) (h : Nat) (hh : h < 6) (hH : tp_in (nI h) 0 (I 2 2 - 1) = 1) : tp_I l yX2_recovered wsX2_recovered (tp_rm 2 43) D cy n ad o [.ref (ad (2)), .int (nI h)] I (I 11 h) (tp_u I 2 0 0) := by
  refine tp_ofI (lv := [(0, .ref (ad (2))), (1, .int (nI h))]) (by decide) rfl (Nat.le_of_ble_eq_true rfl) rfl (fun p e s m args below meth c A ls S0 => ?_)
  obtain ⟨hx, hb, hr, hml, hown, hts, hlocks, hA, hK, hP, hD, hS, hl⟩ := S0
  refine lv_aload_n hx hb dX2_recovered_0 rfl (lv_at hl 0 rfl) ?_
  refine lv_iconst (v := 0) hx hb dX2_recovered_1 (by decide) ?_
  refine tp_put (ci := 2) (v := 0) (ty := .int) (C := RX2) (T := TX2) (N := 16) hx hb hts (fun _ h => List.mem_cons_of_mem _ (List.mem_append_right _ (h))) tyX2 tyX2_ok nmX2 hown hK hP hD hS 2 tp_e2 (by omega) rfl 0 (by decide) (hts _ (List.mem_of_getElem? (i := 1) rfl)) rfl (by decide +kernel) rfl rfl (Nat.le_of_ble_eq_true rfl) rfl dX2_recovered_2 (fun H locs hP hD hS => ?_)
  refine lv_aload_n hx hb dX2_recovered_5 rfl (lv_at hl 0 rfl) ?_
  refine lv_iload_n hx hb dX2_recovered_6 rfl (lv_at hl 1 rfl) ?_
  refine tp_callV ⟨hx, hb, hml, hown, hts⟩ (tp_eqI (mc_isHome l D cy n ad o (tp_u I 2 0 0) (nI h)) hH rfl) (cwV 1 hts gX2_recovered_X2_isHome rfl rfl rfl (by decide +kernel) ⟨Nat.le_of_ble_eq_true rfl, Nat.le_of_ble_eq_true rfl⟩) hK hP hD hS hA 2 2 tp_e2 rfl rfl rfl hl.1 rfl (Nat.le_of_ble_eq_true rfl) dX2_recovered_7 ⟨Nat.zero_le _, Nat.zero_le _⟩ (fun I9 e9 H locs hP hD hS => ?_)
  subst e9
  refine lv_if_eq (tgt := 22) hx hb dX2_recovered_10 (by decide) (fun c10_1 => ?_) (fun c10_1 => ?_)
  · exact absurd c10_1 (by decide)
  · refine lv_aload_n hx hb dX2_recovered_13 rfl (lv_at hl 0 rfl) ?_
    refine va_get (D := D) (ci := 2) (v := .ref (ad (11))) (C := RX2) (T := TX2) (N := 16) hx hb hts (fun _ h => List.mem_cons_of_mem _ (List.mem_append_right _ (h))) hown hK hP 2 tp_e2 rfl 11 (by decide) (hts _ (List.mem_of_getElem? (i := 2) rfl)) (fun _ h9 => h9) rfl dX2_recovered_14 ?_
    refine lv_iload_n hx hb dX2_recovered_17 rfl (lv_at hl 1 rfl) ?_
    refine tp_iald hx hb hK hP 11 6 (h) (by omega) rfl rfl (by omega) (by decide) dX2_recovered_18 ?_
    refine tp_eqi (y := (I 11 h)) rfl ?_
    refine lv_goto (tgt := 27) hx hb dX2_recovered_19 (by decide) ?_
    exact tp_reti hx hb hr hlocks hK hP hD hS rfl rfl rfl dX2_recovered_27
set_option maxHeartbeats 4000000 in
set_option maxRecDepth 100000 in
/-- unassessed: no -/
theorem mp_unassessed_no (l : Launch) (D : va_G) (cy : Nat → ClassId) (n : Nat) (ad : Nat → Nat) (o : Int64) (I : Nat → Nat → Int32) (x : Int32) (hH : tp_in x 0 (I 2 2 - 1) = 0) : tp_I l yX2_unassessed wsX2_unassessed (tp_rm 2 43) D cy n ad o [.ref (ad (2)), .int x] I (0) (tp_u (tp_u I 2 0 0) 2 0 1) := by
  refine tp_ofI (lv := [(0, .ref (ad (2))), (1, .int x)]) (by decide) rfl (Nat.le_of_ble_eq_true rfl) rfl (fun p e s m args below meth c A ls S0 => ?_)
  obtain ⟨hx, hb, hr, hml, hown, hts, hlocks, hA, hK, hP, hD, hS, hl⟩ := S0
  refine lv_aload_n hx hb dX2_unassessed_0 rfl (lv_at hl 0 rfl) ?_
  refine lv_iconst (v := 0) hx hb dX2_unassessed_1 (by decide) ?_
  refine tp_put (ci := 2) (v := 0) (ty := .int) (C := RX2) (T := TX2) (N := 16) hx hb hts (fun _ h => List.mem_cons_of_mem _ (List.mem_append_right _ (h))) tyX2 tyX2_ok nmX2 hown hK hP hD hS 2 tp_e2 (by omega) rfl 0 (by decide) (hts _ (List.mem_of_getElem? (i := 1) rfl)) rfl (by decide +kernel) rfl rfl (Nat.le_of_ble_eq_true rfl) rfl dX2_unassessed_2 (fun H locs hP hD hS => ?_)
  refine lv_aload_n hx hb dX2_unassessed_5 rfl (lv_at hl 0 rfl) ?_
  refine lv_iload_n hx hb dX2_unassessed_6 rfl (lv_at hl 1 rfl) ?_
  refine tp_callV ⟨hx, hb, hml, hown, hts⟩ (tp_eqI (mc_isHome l D cy n ad o (tp_u I 2 0 0) x) hH rfl) (cwV 1 hts gX2_unassessed_X2_isHome rfl rfl rfl (by decide +kernel) ⟨Nat.le_of_ble_eq_true rfl, Nat.le_of_ble_eq_true rfl⟩) hK hP hD hS hA 2 2 tp_e2 rfl rfl rfl hl.1 rfl (Nat.le_of_ble_eq_true rfl) dX2_unassessed_7 ⟨Nat.zero_le _, Nat.zero_le _⟩ (fun I9 e9 H locs hP hD hS => ?_)
  subst e9
  refine lv_if_eq (tgt := 21) hx hb dX2_unassessed_10 (by decide) (fun c10_1 => ?_) (fun c10_1 => ?_)
  · refine lv_aload_n hx hb dX2_unassessed_21 rfl (lv_at hl 0 rfl) ?_
    refine lv_iconst (v := 1) hx hb dX2_unassessed_22 (by decide) ?_
    refine tp_callV ⟨hx, hb, hml, hown, hts⟩ (mc_fails l D cy n ad o (tp_u I 2 0 0) 1) (cwV 1 hts gX2_unassessed_X2_fails rfl rfl rfl (by decide +kernel) ⟨Nat.le_of_ble_eq_true rfl, Nat.le_of_ble_eq_true rfl⟩) hK hP hD hS hA 2 2 tp_e2 rfl rfl rfl hl.1 rfl (Nat.le_of_ble_eq_true rfl) dX2_unassessed_23 ⟨Nat.zero_le _, Nat.zero_le _⟩ (fun I9 e9 H locs hP hD hS => ?_)
    subst e9
    exact tp_reti hx hb hr hlocks hK hP hD hS rfl rfl rfl dX2_unassessed_26
  · exact absurd rfl c10_1
set_option maxHeartbeats 4000000 in
set_option maxRecDepth 100000 in
/-- unassessed: ok -/
theorem mp_unassessed_ok (l : Launch) (D : va_G) (cy : Nat → ClassId) (n : Nat) (ad : Nat → Nat) (o : Int64) (I : Nat → Nat → Int32) (h : Nat) (hh : h < 6) (hH : tp_in (nI h) 0 (I 2 2 - 1) = 1) (hc : tp_C I h) (a0 e0 : Nat) (ha : I 3 h = nI a0) (he : I 2 1 = nI e0) (ha8 : a0 ≤ 48) (he8 : e0 ≤ 48) : tp_I l yX2_unassessed wsX2_unassessed (tp_rm 5 116) D cy n ad o [.ref (ad (2)), .int (nI h)] I (tp_mopen (tp_u I 2 0 0) h a0 e0) (tp_u I 2 0 0) := by
  refine tp_ofI (lv := [(0, .ref (ad (2))), (1, .int (nI h))]) (by decide) rfl (Nat.le_of_ble_eq_true rfl) rfl (fun p e s m args below meth c A ls S0 => ?_)
  obtain ⟨hx, hb, hr, hml, hown, hts, hlocks, hA, hK, hP, hD, hS, hl⟩ := S0
  refine lv_aload_n hx hb dX2_unassessed_0 rfl (lv_at hl 0 rfl) ?_
  refine lv_iconst (v := 0) hx hb dX2_unassessed_1 (by decide) ?_
  refine tp_put (ci := 2) (v := 0) (ty := .int) (C := RX2) (T := TX2) (N := 16) hx hb hts (fun _ h => List.mem_cons_of_mem _ (List.mem_append_right _ (h))) tyX2 tyX2_ok nmX2 hown hK hP hD hS 2 tp_e2 (by omega) rfl 0 (by decide) (hts _ (List.mem_of_getElem? (i := 1) rfl)) rfl (by decide +kernel) rfl rfl (Nat.le_of_ble_eq_true rfl) rfl dX2_unassessed_2 (fun H locs hP hD hS => ?_)
  refine lv_aload_n hx hb dX2_unassessed_5 rfl (lv_at hl 0 rfl) ?_
  refine lv_iload_n hx hb dX2_unassessed_6 rfl (lv_at hl 1 rfl) ?_
  refine tp_callV ⟨hx, hb, hml, hown, hts⟩ (tp_eqI (mc_isHome l D cy n ad o (tp_u I 2 0 0) (nI h)) hH rfl) (cwV 1 hts gX2_unassessed_X2_isHome rfl rfl rfl (by decide +kernel) ⟨Nat.le_of_ble_eq_true rfl, Nat.le_of_ble_eq_true rfl⟩) hK hP hD hS hA 2 2 tp_e2 rfl rfl rfl hl.1 rfl (Nat.le_of_ble_eq_true rfl) dX2_unassessed_7 ⟨Nat.zero_le _, Nat.zero_le _⟩ (fun I9 e9 H locs hP hD hS => ?_)
  subst e9
  refine lv_if_eq (tgt := 21) hx hb dX2_unassessed_10 (by decide) (fun c10_1 => ?_) (fun c10_1 => ?_)
  · exact absurd c10_1 (by decide)
  · refine lv_aload_n hx hb dX2_unassessed_13 rfl (lv_at hl 0 rfl) ?_
    refine lv_iload_n hx hb dX2_unassessed_14 rfl (lv_at hl 1 rfl) ?_
    refine tp_callV ⟨hx, hb, hml, hown, hts⟩ (mc_openOf l D cy n ad o (tp_u I 2 0 0) h (by omega) hc a0 e0 ha he ha8 he8) (cwV 1 hts gX2_unassessed_X2_openOf rfl rfl rfl (by decide +kernel) ⟨Nat.le_of_ble_eq_true rfl, Nat.le_of_ble_eq_true rfl⟩) hK hP hD hS hA 2 2 tp_e2 rfl rfl rfl hl.1 rfl (Nat.le_of_ble_eq_true rfl) dX2_unassessed_15 ⟨Nat.zero_le _, Nat.zero_le _⟩ (fun I9 e9 H locs hP hD hS => ?_)
    subst e9
    refine lv_goto (tgt := 26) hx hb dX2_unassessed_18 (by decide) ?_
    exact tp_reti hx hb hr hlocks hK hP hD hS rfl rfl rfl dX2_unassessed_26
set_option maxHeartbeats 4000000 in
set_option maxRecDepth 100000 in
/-- wouldPay: no -/
theorem mp_wouldPay_no (l : Launch) (D : va_G) (cy : Nat → ClassId) (n : Nat) (ad : Nat → Nat) (o : Int64) (I : Nat → Nat → Int32) (x : Int32) (hH : tp_in x 0 (I 2 2 - 1) = 0) : tp_I l yX2_wouldPay wsX2_wouldPay (tp_rm 2 43) D cy n ad o [.ref (ad (2)), .int x] I (0) (tp_u (tp_u I 2 0 0) 2 0 1) := by
  refine tp_ofI (lv := [(0, .ref (ad (2))), (1, .int x)]) (by decide) rfl (Nat.le_of_ble_eq_true rfl) rfl (fun p e s m args below meth c A ls S0 => ?_)
  obtain ⟨hx, hb, hr, hml, hown, hts, hlocks, hA, hK, hP, hD, hS, hl⟩ := S0
  refine lv_aload_n hx hb dX2_wouldPay_0 rfl (lv_at hl 0 rfl) ?_
  refine lv_iconst (v := 0) hx hb dX2_wouldPay_1 (by decide) ?_
  refine tp_put (ci := 2) (v := 0) (ty := .int) (C := RX2) (T := TX2) (N := 16) hx hb hts (fun _ h => List.mem_cons_of_mem _ (List.mem_append_right _ (h))) tyX2 tyX2_ok nmX2 hown hK hP hD hS 2 tp_e2 (by omega) rfl 0 (by decide) (hts _ (List.mem_of_getElem? (i := 1) rfl)) rfl (by decide +kernel) rfl rfl (Nat.le_of_ble_eq_true rfl) rfl dX2_wouldPay_2 (fun H locs hP hD hS => ?_)
  refine lv_aload_n hx hb dX2_wouldPay_5 rfl (lv_at hl 0 rfl) ?_
  refine lv_iload_n hx hb dX2_wouldPay_6 rfl (lv_at hl 1 rfl) ?_
  refine tp_callV ⟨hx, hb, hml, hown, hts⟩ (tp_eqI (mc_isHome l D cy n ad o (tp_u I 2 0 0) x) hH rfl) (cwV 1 hts gX2_wouldPay_X2_isHome rfl rfl rfl (by decide +kernel) ⟨Nat.le_of_ble_eq_true rfl, Nat.le_of_ble_eq_true rfl⟩) hK hP hD hS hA 2 2 tp_e2 rfl rfl rfl hl.1 rfl (Nat.le_of_ble_eq_true rfl) dX2_wouldPay_7 ⟨Nat.zero_le _, Nat.zero_le _⟩ (fun I9 e9 H locs hP hD hS => ?_)
  subst e9
  refine lv_if_ne (tgt := 19) hx hb dX2_wouldPay_10 (by decide) (fun c10_1 => ?_) (fun c10_1 => ?_)
  · exact absurd rfl c10_1
  · refine lv_aload_n hx hb dX2_wouldPay_13 rfl (lv_at hl 0 rfl) ?_
    refine lv_iconst (v := 1) hx hb dX2_wouldPay_14 (by decide) ?_
    refine tp_callV ⟨hx, hb, hml, hown, hts⟩ (mc_fails l D cy n ad o (tp_u I 2 0 0) 1) (cwV 1 hts gX2_wouldPay_X2_fails rfl rfl rfl (by decide +kernel) ⟨Nat.le_of_ble_eq_true rfl, Nat.le_of_ble_eq_true rfl⟩) hK hP hD hS hA 2 2 tp_e2 rfl rfl rfl hl.1 rfl (Nat.le_of_ble_eq_true rfl) dX2_wouldPay_15 ⟨Nat.zero_le _, Nat.zero_le _⟩ (fun I9 e9 H locs hP hD hS => ?_)
    subst e9
    exact tp_reti hx hb hr hlocks hK hP hD hS rfl rfl rfl dX2_wouldPay_18
set_option maxHeartbeats 4000000 in
set_option maxRecDepth 100000 in
/-- wouldPay: end -/
theorem mp_wouldPay_end (l : Launch) (D : va_G) (cy : Nat → ClassId) (n : Nat) (ad : Nat → Nat) (o : Int64) (I : Nat → Nat → Int32) (h : Nat) (hh : h < 6) (hH : tp_in (nI h) 0 (I 2 2 - 1) = 1) (he : I 2 1 = 48) : tp_I l yX2_wouldPay wsX2_wouldPay (tp_rm 2 43) D cy n ad o [.ref (ad (2)), .int (nI h)] I (0) (tp_u I 2 0 0) := by
  refine tp_ofI (lv := [(0, .ref (ad (2))), (1, .int (nI h))]) (by decide) rfl (Nat.le_of_ble_eq_true rfl) rfl (fun p e s m args below meth c A ls S0 => ?_)
  obtain ⟨hx, hb, hr, hml, hown, hts, hlocks, hA, hK, hP, hD, hS, hl⟩ := S0
  refine lv_aload_n hx hb dX2_wouldPay_0 rfl (lv_at hl 0 rfl) ?_
  refine lv_iconst (v := 0) hx hb dX2_wouldPay_1 (by decide) ?_
  refine tp_put (ci := 2) (v := 0) (ty := .int) (C := RX2) (T := TX2) (N := 16) hx hb hts (fun _ h => List.mem_cons_of_mem _ (List.mem_append_right _ (h))) tyX2 tyX2_ok nmX2 hown hK hP hD hS 2 tp_e2 (by omega) rfl 0 (by decide) (hts _ (List.mem_of_getElem? (i := 1) rfl)) rfl (by decide +kernel) rfl rfl (Nat.le_of_ble_eq_true rfl) rfl dX2_wouldPay_2 (fun H locs hP hD hS => ?_)
  refine lv_aload_n hx hb dX2_wouldPay_5 rfl (lv_at hl 0 rfl) ?_
  refine lv_iload_n hx hb dX2_wouldPay_6 rfl (lv_at hl 1 rfl) ?_
  refine tp_callV ⟨hx, hb, hml, hown, hts⟩ (tp_eqI (mc_isHome l D cy n ad o (tp_u I 2 0 0) (nI h)) hH rfl) (cwV 1 hts gX2_wouldPay_X2_isHome rfl rfl rfl (by decide +kernel) ⟨Nat.le_of_ble_eq_true rfl, Nat.le_of_ble_eq_true rfl⟩) hK hP hD hS hA 2 2 tp_e2 rfl rfl rfl hl.1 rfl (Nat.le_of_ble_eq_true rfl) dX2_wouldPay_7 ⟨Nat.zero_le _, Nat.zero_le _⟩ (fun I9 e9 H locs hP hD hS => ?_)
  subst e9
  refine lv_if_ne (tgt := 19) hx hb dX2_wouldPay_10 (by decide) (fun c10_1 => ?_) (fun c10_1 => ?_)
  · refine lv_aload_n hx hb dX2_wouldPay_19 rfl (lv_at hl 0 rfl) ?_
    refine va_get (D := D) (ci := 2) (v := .int (I 2 1)) (C := RX2) (T := TX2) (N := 16) hx hb hts (fun _ h => List.mem_cons_of_mem _ (List.mem_append_right _ (h))) hown hK hP 2 tp_e2 rfl 1 (by decide) (hts _ (List.mem_of_getElem? (i := 2) rfl)) (fun _ h9 => h9) rfl dX2_wouldPay_20 ?_
    refine lv_bipush (v := 48) hx hb dX2_wouldPay_23 (by decide) ?_
    refine lv_icmp_ne (tgt := 30) hx hb dX2_wouldPay_25 (by decide) (fun c25_2 => ?_) (fun c25_2 => ?_)
    · exact absurd he c25_2
    · refine lv_iconst (v := 0) hx hb dX2_wouldPay_28 (by decide) ?_
      exact tp_reti hx hb hr hlocks hK hP hD hS rfl rfl rfl dX2_wouldPay_29
  · exact absurd c10_1 (by decide)
set_option maxHeartbeats 4000000 in
set_option maxRecDepth 100000 in
/-- wouldPay: ok -/
theorem mp_wouldPay_ok (l : Launch) (D : va_G) (cy : Nat → ClassId) (n : Nat) (ad : Nat → Nat) (o : Int64) (I : Nat → Nat → Int32) (h : Nat) (hh : h < 6) (hH : tp_in (nI h) 0 (I 2 2 - 1) = 1) (hc : tp_C I h) (a0 e0 : Nat) (ha : I 3 h = nI a0) (he : I 2 1 = nI e0) (ha8 : a0 ≤ 48) (he8 : e0 ≤ 48) (hlt : e0 < 48) : tp_I l yX2_wouldPay wsX2_wouldPay (tp_rm 6 142) D cy n ad o [.ref (ad (2)), .int (nI h)] I (tp_rpay (tp_u I 2 0 0) h (nI e0) (tp_mopen (tp_u I 2 0 0) h a0 e0)) (tp_reck (tp_u I 2 0 0) h (nI e0) (tp_mopen (tp_u I 2 0 0) h a0 e0)) := by
  refine tp_ofI (lv := [(0, .ref (ad (2))), (1, .int (nI h))]) (by decide) rfl (Nat.le_of_ble_eq_true rfl) rfl (fun p e s m args below meth c A ls S0 => ?_)
  obtain ⟨hx, hb, hr, hml, hown, hts, hlocks, hA, hK, hP, hD, hS, hl⟩ := S0
  refine lv_aload_n hx hb dX2_wouldPay_0 rfl (lv_at hl 0 rfl) ?_
  refine lv_iconst (v := 0) hx hb dX2_wouldPay_1 (by decide) ?_
  refine tp_put (ci := 2) (v := 0) (ty := .int) (C := RX2) (T := TX2) (N := 16) hx hb hts (fun _ h => List.mem_cons_of_mem _ (List.mem_append_right _ (h))) tyX2 tyX2_ok nmX2 hown hK hP hD hS 2 tp_e2 (by omega) rfl 0 (by decide) (hts _ (List.mem_of_getElem? (i := 1) rfl)) rfl (by decide +kernel) rfl rfl (Nat.le_of_ble_eq_true rfl) rfl dX2_wouldPay_2 (fun H locs hP hD hS => ?_)
  refine lv_aload_n hx hb dX2_wouldPay_5 rfl (lv_at hl 0 rfl) ?_
  refine lv_iload_n hx hb dX2_wouldPay_6 rfl (lv_at hl 1 rfl) ?_
  refine tp_callV ⟨hx, hb, hml, hown, hts⟩ (tp_eqI (mc_isHome l D cy n ad o (tp_u I 2 0 0) (nI h)) hH rfl) (cwV 1 hts gX2_wouldPay_X2_isHome rfl rfl rfl (by decide +kernel) ⟨Nat.le_of_ble_eq_true rfl, Nat.le_of_ble_eq_true rfl⟩) hK hP hD hS hA 2 2 tp_e2 rfl rfl rfl hl.1 rfl (Nat.le_of_ble_eq_true rfl) dX2_wouldPay_7 ⟨Nat.zero_le _, Nat.zero_le _⟩ (fun I9 e9 H locs hP hD hS => ?_)
  subst e9
  refine lv_if_ne (tgt := 19) hx hb dX2_wouldPay_10 (by decide) (fun c10_1 => ?_) (fun c10_1 => ?_)
  · refine lv_aload_n hx hb dX2_wouldPay_19 rfl (lv_at hl 0 rfl) ?_
    refine va_get (D := D) (ci := 2) (v := .int (I 2 1)) (C := RX2) (T := TX2) (N := 16) hx hb hts (fun _ h => List.mem_cons_of_mem _ (List.mem_append_right _ (h))) hown hK hP 2 tp_e2 rfl 1 (by decide) (hts _ (List.mem_of_getElem? (i := 2) rfl)) (fun _ h9 => h9) rfl dX2_wouldPay_20 ?_
    refine lv_bipush (v := 48) hx hb dX2_wouldPay_23 (by decide) ?_
    refine lv_icmp_ne (tgt := 30) hx hb dX2_wouldPay_25 (by decide) (fun c25_2 => ?_) (fun c25_2 => ?_)
    · refine lv_aload_n hx hb dX2_wouldPay_30 rfl (lv_at hl 0 rfl) ?_
      refine lv_iload_n hx hb dX2_wouldPay_31 rfl (lv_at hl 1 rfl) ?_
      refine tp_callVv ⟨hx, hb, hml, hown, hts⟩ (mc_reckons l D cy n ad o (tp_u I 2 0 0) h (by omega) hc a0 e0 ha he ha8 he8) (cwV 1 hts gX2_wouldPay_X2_reckons rfl rfl rfl (by decide +kernel) ⟨Nat.le_of_ble_eq_true rfl, Nat.le_of_ble_eq_true rfl⟩) hK hP hD hS hA 2 2 tp_e2 rfl rfl rfl hl.1 rfl (Nat.le_of_ble_eq_true rfl) dX2_wouldPay_32 ⟨Nat.zero_le _, Nat.zero_le _⟩ (fun I9 e9 H locs hP hD hS => ?_)
      subst e9
      refine lv_aload_n hx hb dX2_wouldPay_35 rfl (lv_at hl 0 rfl) ?_
      refine va_get (D := D) (ci := 2) (v := .int (tp_rpay (tp_u I 2 0 0) h (nI e0) (tp_mopen (tp_u I 2 0 0) h a0 e0))) (C := RX2) (T := TX2) (N := 16) hx hb hts (fun _ h => List.mem_cons_of_mem _ (List.mem_append_right _ (h))) hown hK hP 2 tp_e2 rfl 15 (by decide) (hts _ (List.mem_of_getElem? (i := 3) rfl)) (fun _ h9 => h9) rfl dX2_wouldPay_36 ?_
      exact tp_reti hx hb hr hlocks hK hP hD hS rfl rfl rfl dX2_wouldPay_39
    · exact absurd ((he.symm.trans c25_2 : nI e0 = nI 48)) (fun z => absurd ((nI_eq (by omega) (by decide)).mp z) (by omega))
  · exact absurd c10_1 (by decide)
set_option maxHeartbeats 4000000 in
set_option maxRecDepth 100000 in
/-- need: no -/
theorem mp_need_no (l : Launch) (D : va_G) (cy : Nat → ClassId) (n : Nat) (ad : Nat → Nat) (o : Int64) (I : Nat → Nat → Int32) (x k : Int32) (hq : tp_ask I x k = 1) : tp_I l yX2_need wsX2_need (tp_rm 3 65) D cy n ad o [.ref (ad (2)), .int x, .int k] I (0) (tp_u I 2 0 1) := by
  refine tp_ofI (lv := [(0, .ref (ad (2))), (1, .int x), (2, .int k)]) (by decide) rfl (Nat.le_of_ble_eq_true rfl) rfl (fun p e s m args below meth c A ls S0 => ?_)
  obtain ⟨hx, hb, hr, hml, hown, hts, hlocks, hA, hK, hP, hD, hS, hl⟩ := S0
  refine lv_aload_n hx hb dX2_need_0 rfl (lv_at hl 0 rfl) ?_
  refine lv_iload_n hx hb dX2_need_1 rfl (lv_at hl 1 rfl) ?_
  refine lv_iload_n hx hb dX2_need_2 rfl (lv_at hl 2 rfl) ?_
  refine tp_callV ⟨hx, hb, hml, hown, hts⟩ (tp_eqI (mc_isAsked l D cy n ad o I x k) (by rw [hq]) (congrArg (tp_u I 2 0) hq)) (cwV 2 hts gX2_need_X2_isAsked rfl rfl rfl (by decide +kernel) ⟨Nat.le_of_ble_eq_true rfl, Nat.le_of_ble_eq_true rfl⟩) hK hP hD hS hA 2 2 tp_e2 rfl rfl rfl hl.1 rfl (Nat.le_of_ble_eq_true rfl) dX2_need_3 ⟨Nat.zero_le _, Nat.zero_le _⟩ (fun I9 e9 H locs hP hD hS => ?_)
  subst e9
  refine lv_if_eq (tgt := 18) hx hb dX2_need_6 (by decide) (fun c6_1 => ?_) (fun c6_1 => ?_)
  · refine lv_iconst (v := 0) hx hb dX2_need_18 (by decide) ?_
    exact tp_reti hx hb hr hlocks hK hP hD hS rfl rfl rfl dX2_need_19
  · exact absurd rfl c6_1
set_option maxHeartbeats 4000000 in
set_option maxRecDepth 100000 in
/-- need: ok -/
theorem mp_need_ok (l : Launch) (D : va_G) (cy : Nat → ClassId) (n : Nat) (ad : Nat → Nat) (o : Int64) (I : Nat → Nat → Int32) (h : Nat) (hh : h < 6) (m0 : Nat) (hm : m0 < 48) (hq : tp_ask I (nI h) (nI m0) = 0) (hc : tp_C I h) : tp_I l yX2_need wsX2_need (tp_rm 3 70) D cy n ad o [.ref (ad (2)), .int (nI h), .int (nI m0)] I (tp_mneed (tp_u I 2 0 0) h (nI m0)) (tp_u I 2 0 0) := by
  refine tp_ofI (lv := [(0, .ref (ad (2))), (1, .int (nI h)), (2, .int (nI m0))]) (by decide) rfl (Nat.le_of_ble_eq_true rfl) rfl (fun p e s m args below meth c A ls S0 => ?_)
  obtain ⟨hx, hb, hr, hml, hown, hts, hlocks, hA, hK, hP, hD, hS, hl⟩ := S0
  refine lv_aload_n hx hb dX2_need_0 rfl (lv_at hl 0 rfl) ?_
  refine lv_iload_n hx hb dX2_need_1 rfl (lv_at hl 1 rfl) ?_
  refine lv_iload_n hx hb dX2_need_2 rfl (lv_at hl 2 rfl) ?_
  refine tp_callV ⟨hx, hb, hml, hown, hts⟩ (tp_eqI (mc_isAsked l D cy n ad o I (nI h) (nI m0)) (if_pos hq) (congrArg (tp_u I 2 0) hq)) (cwV 2 hts gX2_need_X2_isAsked rfl rfl rfl (by decide +kernel) ⟨Nat.le_of_ble_eq_true rfl, Nat.le_of_ble_eq_true rfl⟩) hK hP hD hS hA 2 2 tp_e2 rfl rfl rfl hl.1 rfl (Nat.le_of_ble_eq_true rfl) dX2_need_3 ⟨Nat.zero_le _, Nat.zero_le _⟩ (fun I9 e9 H locs hP hD hS => ?_)
  subst e9
  refine lv_if_eq (tgt := 18) hx hb dX2_need_6 (by decide) (fun c6_1 => ?_) (fun c6_1 => ?_)
  · exact absurd c6_1 (by decide)
  · refine lv_aload_n hx hb dX2_need_9 rfl (lv_at hl 0 rfl) ?_
    refine lv_iload_n hx hb dX2_need_10 rfl (lv_at hl 1 rfl) ?_
    refine lv_iload_n hx hb dX2_need_11 rfl (lv_at hl 2 rfl) ?_
    refine tp_callV ⟨hx, hb, hml, hown, hts⟩ (mc_needOf l D cy n ad o (tp_u I 2 0 0) h (by omega) hc (nI m0)) (cwV 2 hts gX2_need_X2_needOf rfl rfl rfl (by decide +kernel) ⟨Nat.le_of_ble_eq_true rfl, Nat.le_of_ble_eq_true rfl⟩) hK hP hD hS hA 2 2 tp_e2 rfl rfl rfl hl.1 rfl (Nat.le_of_ble_eq_true rfl) dX2_need_12 ⟨Nat.zero_le _, Nat.zero_le _⟩ (fun I9 e9 H locs hP hD hS => ?_)
    subst e9
    refine lv_goto (tgt := 19) hx hb dX2_need_15 (by decide) ?_
    exact tp_reti hx hb hr hlocks hK hP hD hS rfl rfl rfl dX2_need_19
set_option maxHeartbeats 4000000 in
set_option maxRecDepth 100000 in
/-- taper: no -/
theorem mp_taper_no (l : Launch) (D : va_G) (cy : Nat → ClassId) (n : Nat) (ad : Nat → Nat) (o : Int64) (I : Nat → Nat → Int32) (x k : Int32) (hq : tp_ask I x k = 1) : tp_I l yX2_taper wsX2_taper (tp_rm 3 65) D cy n ad o [.ref (ad (2)), .int x, .int k] I (0) (tp_u I 2 0 1) := by
  refine tp_ofI (lv := [(0, .ref (ad (2))), (1, .int x), (2, .int k)]) (by decide) rfl (Nat.le_of_ble_eq_true rfl) rfl (fun p e s m args below meth c A ls S0 => ?_)
  obtain ⟨hx, hb, hr, hml, hown, hts, hlocks, hA, hK, hP, hD, hS, hl⟩ := S0
  refine lv_aload_n hx hb dX2_taper_0 rfl (lv_at hl 0 rfl) ?_
  refine lv_iload_n hx hb dX2_taper_1 rfl (lv_at hl 1 rfl) ?_
  refine lv_iload_n hx hb dX2_taper_2 rfl (lv_at hl 2 rfl) ?_
  refine tp_callV ⟨hx, hb, hml, hown, hts⟩ (tp_eqI (mc_isAsked l D cy n ad o I x k) (by rw [hq]) (congrArg (tp_u I 2 0) hq)) (cwV 2 hts gX2_taper_X2_isAsked rfl rfl rfl (by decide +kernel) ⟨Nat.le_of_ble_eq_true rfl, Nat.le_of_ble_eq_true rfl⟩) hK hP hD hS hA 2 2 tp_e2 rfl rfl rfl hl.1 rfl (Nat.le_of_ble_eq_true rfl) dX2_taper_3 ⟨Nat.zero_le _, Nat.zero_le _⟩ (fun I9 e9 H locs hP hD hS => ?_)
  subst e9
  refine lv_if_eq (tgt := 18) hx hb dX2_taper_6 (by decide) (fun c6_1 => ?_) (fun c6_1 => ?_)
  · refine lv_iconst (v := 0) hx hb dX2_taper_18 (by decide) ?_
    exact tp_reti hx hb hr hlocks hK hP hD hS rfl rfl rfl dX2_taper_19
  · exact absurd rfl c6_1
set_option maxHeartbeats 4000000 in
set_option maxRecDepth 100000 in
/-- taper: ok -/
theorem mp_taper_ok (l : Launch) (D : va_G) (cy : Nat → ClassId) (n : Nat) (ad : Nat → Nat) (o : Int64) (I : Nat → Nat → Int32) (h : Nat) (hh : h < 6) (m0 : Nat) (hm : m0 < 48) (hq : tp_ask I (nI h) (nI m0) = 0) (hc : tp_C I h) : tp_I l yX2_taper wsX2_taper (tp_rm 3 70) D cy n ad o [.ref (ad (2)), .int (nI h), .int (nI m0)] I (tp_mtaper (tp_u I 2 0 0) h (nI m0)) (tp_u I 2 0 0) := by
  refine tp_ofI (lv := [(0, .ref (ad (2))), (1, .int (nI h)), (2, .int (nI m0))]) (by decide) rfl (Nat.le_of_ble_eq_true rfl) rfl (fun p e s m args below meth c A ls S0 => ?_)
  obtain ⟨hx, hb, hr, hml, hown, hts, hlocks, hA, hK, hP, hD, hS, hl⟩ := S0
  refine lv_aload_n hx hb dX2_taper_0 rfl (lv_at hl 0 rfl) ?_
  refine lv_iload_n hx hb dX2_taper_1 rfl (lv_at hl 1 rfl) ?_
  refine lv_iload_n hx hb dX2_taper_2 rfl (lv_at hl 2 rfl) ?_
  refine tp_callV ⟨hx, hb, hml, hown, hts⟩ (tp_eqI (mc_isAsked l D cy n ad o I (nI h) (nI m0)) (if_pos hq) (congrArg (tp_u I 2 0) hq)) (cwV 2 hts gX2_taper_X2_isAsked rfl rfl rfl (by decide +kernel) ⟨Nat.le_of_ble_eq_true rfl, Nat.le_of_ble_eq_true rfl⟩) hK hP hD hS hA 2 2 tp_e2 rfl rfl rfl hl.1 rfl (Nat.le_of_ble_eq_true rfl) dX2_taper_3 ⟨Nat.zero_le _, Nat.zero_le _⟩ (fun I9 e9 H locs hP hD hS => ?_)
  subst e9
  refine lv_if_eq (tgt := 18) hx hb dX2_taper_6 (by decide) (fun c6_1 => ?_) (fun c6_1 => ?_)
  · exact absurd c6_1 (by decide)
  · refine lv_aload_n hx hb dX2_taper_9 rfl (lv_at hl 0 rfl) ?_
    refine lv_iload_n hx hb dX2_taper_10 rfl (lv_at hl 1 rfl) ?_
    refine lv_iload_n hx hb dX2_taper_11 rfl (lv_at hl 2 rfl) ?_
    refine tp_callV ⟨hx, hb, hml, hown, hts⟩ (mc_taperOf l D cy n ad o (tp_u I 2 0 0) h (by omega) hc (nI m0)) (cwV 2 hts gX2_taper_X2_taperOf rfl rfl rfl (by decide +kernel) ⟨Nat.le_of_ble_eq_true rfl, Nat.le_of_ble_eq_true rfl⟩) hK hP hD hS hA 2 2 tp_e2 rfl rfl rfl hl.1 rfl (Nat.le_of_ble_eq_true rfl) dX2_taper_12 ⟨Nat.zero_le _, Nat.zero_le _⟩ (fun I9 e9 H locs hP hD hS => ?_)
    subst e9
    refine lv_goto (tgt := 19) hx hb dX2_taper_15 (by decide) ?_
    exact tp_reti hx hb hr hlocks hK hP hD hS rfl rfl rfl dX2_taper_19
set_option maxHeartbeats 4000000 in
set_option maxRecDepth 100000 in
/-- tariff: no -/
theorem mp_tariff_no (l : Launch) (D : va_G) (cy : Nat → ClassId) (n : Nat) (ad : Nat → Nat) (o : Int64) (I : Nat → Nat → Int32) (x k : Int32) (hq : tp_ask I x k = 1) : tp_I l yX2_tariff wsX2_tariff (tp_rm 3 65) D cy n ad o [.ref (ad (2)), .int x, .int k] I (0) (tp_u I 2 0 1) := by
  refine tp_ofI (lv := [(0, .ref (ad (2))), (1, .int x), (2, .int k)]) (by decide) rfl (Nat.le_of_ble_eq_true rfl) rfl (fun p e s m args below meth c A ls S0 => ?_)
  obtain ⟨hx, hb, hr, hml, hown, hts, hlocks, hA, hK, hP, hD, hS, hl⟩ := S0
  refine lv_aload_n hx hb dX2_tariff_0 rfl (lv_at hl 0 rfl) ?_
  refine lv_iload_n hx hb dX2_tariff_1 rfl (lv_at hl 1 rfl) ?_
  refine lv_iload_n hx hb dX2_tariff_2 rfl (lv_at hl 2 rfl) ?_
  refine tp_callV ⟨hx, hb, hml, hown, hts⟩ (tp_eqI (mc_isAsked l D cy n ad o I x k) (by rw [hq]) (congrArg (tp_u I 2 0) hq)) (cwV 2 hts gX2_tariff_X2_isAsked rfl rfl rfl (by decide +kernel) ⟨Nat.le_of_ble_eq_true rfl, Nat.le_of_ble_eq_true rfl⟩) hK hP hD hS hA 2 2 tp_e2 rfl rfl rfl hl.1 rfl (Nat.le_of_ble_eq_true rfl) dX2_tariff_3 ⟨Nat.zero_le _, Nat.zero_le _⟩ (fun I9 e9 H locs hP hD hS => ?_)
  subst e9
  refine lv_if_eq (tgt := 18) hx hb dX2_tariff_6 (by decide) (fun c6_1 => ?_) (fun c6_1 => ?_)
  · refine lv_iconst (v := 0) hx hb dX2_tariff_18 (by decide) ?_
    exact tp_reti hx hb hr hlocks hK hP hD hS rfl rfl rfl dX2_tariff_19
  · exact absurd rfl c6_1
set_option maxHeartbeats 4000000 in
set_option maxRecDepth 100000 in
/-- tariff: ok -/
theorem mp_tariff_ok (l : Launch) (D : va_G) (cy : Nat → ClassId) (n : Nat) (ad : Nat → Nat) (o : Int64) (I : Nat → Nat → Int32) (h : Nat) (hh : h < 6) (m0 : Nat) (hm : m0 < 48) (hq : tp_ask I (nI h) (nI m0) = 0) (hc : tp_C I h) : tp_I l yX2_tariff wsX2_tariff (tp_rm 3 70) D cy n ad o [.ref (ad (2)), .int (nI h), .int (nI m0)] I (tp_mtariff (tp_u I 2 0 0) h (nI m0)) (tp_u I 2 0 0) := by
  refine tp_ofI (lv := [(0, .ref (ad (2))), (1, .int (nI h)), (2, .int (nI m0))]) (by decide) rfl (Nat.le_of_ble_eq_true rfl) rfl (fun p e s m args below meth c A ls S0 => ?_)
  obtain ⟨hx, hb, hr, hml, hown, hts, hlocks, hA, hK, hP, hD, hS, hl⟩ := S0
  refine lv_aload_n hx hb dX2_tariff_0 rfl (lv_at hl 0 rfl) ?_
  refine lv_iload_n hx hb dX2_tariff_1 rfl (lv_at hl 1 rfl) ?_
  refine lv_iload_n hx hb dX2_tariff_2 rfl (lv_at hl 2 rfl) ?_
  refine tp_callV ⟨hx, hb, hml, hown, hts⟩ (tp_eqI (mc_isAsked l D cy n ad o I (nI h) (nI m0)) (if_pos hq) (congrArg (tp_u I 2 0) hq)) (cwV 2 hts gX2_tariff_X2_isAsked rfl rfl rfl (by decide +kernel) ⟨Nat.le_of_ble_eq_true rfl, Nat.le_of_ble_eq_true rfl⟩) hK hP hD hS hA 2 2 tp_e2 rfl rfl rfl hl.1 rfl (Nat.le_of_ble_eq_true rfl) dX2_tariff_3 ⟨Nat.zero_le _, Nat.zero_le _⟩ (fun I9 e9 H locs hP hD hS => ?_)
  subst e9
  refine lv_if_eq (tgt := 18) hx hb dX2_tariff_6 (by decide) (fun c6_1 => ?_) (fun c6_1 => ?_)
  · exact absurd c6_1 (by decide)
  · refine lv_aload_n hx hb dX2_tariff_9 rfl (lv_at hl 0 rfl) ?_
    refine lv_iload_n hx hb dX2_tariff_10 rfl (lv_at hl 1 rfl) ?_
    refine lv_iload_n hx hb dX2_tariff_11 rfl (lv_at hl 2 rfl) ?_
    refine tp_callV ⟨hx, hb, hml, hown, hts⟩ (mc_tariffOf l D cy n ad o (tp_u I 2 0 0) h (by omega) hc (nI m0)) (cwV 2 hts gX2_tariff_X2_tariffOf rfl rfl rfl (by decide +kernel) ⟨Nat.le_of_ble_eq_true rfl, Nat.le_of_ble_eq_true rfl⟩) hK hP hD hS hA 2 2 tp_e2 rfl rfl rfl hl.1 rfl (Nat.le_of_ble_eq_true rfl) dX2_tariff_12 ⟨Nat.zero_le _, Nat.zero_le _⟩ (fun I9 e9 H locs hP hD hS => ?_)
    subst e9
    refine lv_goto (tgt := 19) hx hb dX2_tariff_15 (by decide) ?_
    exact tp_reti hx hb hr hlocks hK hP hD hS rfl rfl rfl dX2_tariff_19
set_option maxHeartbeats 4000000 in
set_option maxRecDepth 100000 in
/-- due: no -/
theorem mp_due_no (l : Launch) (D : va_G) (cy : Nat → ClassId) (n : Nat) (ad : Nat → Nat) (o : Int64) (I : Nat → Nat → Int32) (x k : Int32) (hq : tp_ask I x k = 1) : tp_I l yX2_due wsX2_due (tp_rm 3 65) D cy n ad o [.ref (ad (2)), .int x, .int k] I (0) (tp_u I 2 0 1) := by
  refine tp_ofI (lv := [(0, .ref (ad (2))), (1, .int x), (2, .int k)]) (by decide) rfl (Nat.le_of_ble_eq_true rfl) rfl (fun p e s m args below meth c A ls S0 => ?_)
  obtain ⟨hx, hb, hr, hml, hown, hts, hlocks, hA, hK, hP, hD, hS, hl⟩ := S0
  refine lv_aload_n hx hb dX2_due_0 rfl (lv_at hl 0 rfl) ?_
  refine lv_iload_n hx hb dX2_due_1 rfl (lv_at hl 1 rfl) ?_
  refine lv_iload_n hx hb dX2_due_2 rfl (lv_at hl 2 rfl) ?_
  refine tp_callV ⟨hx, hb, hml, hown, hts⟩ (tp_eqI (mc_isAsked l D cy n ad o I x k) (by rw [hq]) (congrArg (tp_u I 2 0) hq)) (cwV 2 hts gX2_due_X2_isAsked rfl rfl rfl (by decide +kernel) ⟨Nat.le_of_ble_eq_true rfl, Nat.le_of_ble_eq_true rfl⟩) hK hP hD hS hA 2 2 tp_e2 rfl rfl rfl hl.1 rfl (Nat.le_of_ble_eq_true rfl) dX2_due_3 ⟨Nat.zero_le _, Nat.zero_le _⟩ (fun I9 e9 H locs hP hD hS => ?_)
  subst e9
  refine lv_if_eq (tgt := 18) hx hb dX2_due_6 (by decide) (fun c6_1 => ?_) (fun c6_1 => ?_)
  · refine lv_iconst (v := 0) hx hb dX2_due_18 (by decide) ?_
    exact tp_reti hx hb hr hlocks hK hP hD hS rfl rfl rfl dX2_due_19
  · exact absurd rfl c6_1
set_option maxHeartbeats 4000000 in
set_option maxRecDepth 100000 in
/-- due: ok -/
theorem mp_due_ok (l : Launch) (D : va_G) (cy : Nat → ClassId) (n : Nat) (ad : Nat → Nat) (o : Int64) (I : Nat → Nat → Int32) (h : Nat) (hh : h < 6) (m0 : Nat) (hm : m0 < 48) (hq : tp_ask I (nI h) (nI m0) = 0) (hc : tp_C I h) : tp_I l yX2_due wsX2_due (tp_rm 4 93) D cy n ad o [.ref (ad (2)), .int (nI h), .int (nI m0)] I (tp_mdue (tp_u I 2 0 0) h (nI m0)) (tp_u I 2 0 0) := by
  refine tp_ofI (lv := [(0, .ref (ad (2))), (1, .int (nI h)), (2, .int (nI m0))]) (by decide) rfl (Nat.le_of_ble_eq_true rfl) rfl (fun p e s m args below meth c A ls S0 => ?_)
  obtain ⟨hx, hb, hr, hml, hown, hts, hlocks, hA, hK, hP, hD, hS, hl⟩ := S0
  refine lv_aload_n hx hb dX2_due_0 rfl (lv_at hl 0 rfl) ?_
  refine lv_iload_n hx hb dX2_due_1 rfl (lv_at hl 1 rfl) ?_
  refine lv_iload_n hx hb dX2_due_2 rfl (lv_at hl 2 rfl) ?_
  refine tp_callV ⟨hx, hb, hml, hown, hts⟩ (tp_eqI (mc_isAsked l D cy n ad o I (nI h) (nI m0)) (if_pos hq) (congrArg (tp_u I 2 0) hq)) (cwV 2 hts gX2_due_X2_isAsked rfl rfl rfl (by decide +kernel) ⟨Nat.le_of_ble_eq_true rfl, Nat.le_of_ble_eq_true rfl⟩) hK hP hD hS hA 2 2 tp_e2 rfl rfl rfl hl.1 rfl (Nat.le_of_ble_eq_true rfl) dX2_due_3 ⟨Nat.zero_le _, Nat.zero_le _⟩ (fun I9 e9 H locs hP hD hS => ?_)
  subst e9
  refine lv_if_eq (tgt := 18) hx hb dX2_due_6 (by decide) (fun c6_1 => ?_) (fun c6_1 => ?_)
  · exact absurd c6_1 (by decide)
  · refine lv_aload_n hx hb dX2_due_9 rfl (lv_at hl 0 rfl) ?_
    refine lv_iload_n hx hb dX2_due_10 rfl (lv_at hl 1 rfl) ?_
    refine lv_iload_n hx hb dX2_due_11 rfl (lv_at hl 2 rfl) ?_
    refine tp_callV ⟨hx, hb, hml, hown, hts⟩ (mc_dueOf l D cy n ad o (tp_u I 2 0 0) h (by omega) hc (nI m0)) (cwV 2 hts gX2_due_X2_dueOf rfl rfl rfl (by decide +kernel) ⟨Nat.le_of_ble_eq_true rfl, Nat.le_of_ble_eq_true rfl⟩) hK hP hD hS hA 2 2 tp_e2 rfl rfl rfl hl.1 rfl (Nat.le_of_ble_eq_true rfl) dX2_due_12 ⟨Nat.zero_le _, Nat.zero_le _⟩ (fun I9 e9 H locs hP hD hS => ?_)
    subst e9
    refine lv_goto (tgt := 19) hx hb dX2_due_15 (by decide) ?_
    exact tp_reti hx hb hr hlocks hK hP hD hS rfl rfl rfl dX2_due_19
set_option maxHeartbeats 4000000 in
set_option maxRecDepth 100000 in
/-- assessed: no -/
theorem mp_assessed_no (l : Launch) (D : va_G) (cy : Nat → ClassId) (n : Nat) (ad : Nat → Nat) (o : Int64) (I : Nat → Nat → Int32) (x k : Int32) (hq : tp_ask I x k = 1) : tp_I l yX2_assessed wsX2_assessed (tp_rm 3 65) D cy n ad o [.ref (ad (2)), .int x, .int k] I (0) (tp_u I 2 0 1) := by
  refine tp_ofI (lv := [(0, .ref (ad (2))), (1, .int x), (2, .int k)]) (by decide) rfl (Nat.le_of_ble_eq_true rfl) rfl (fun p e s m args below meth c A ls S0 => ?_)
  obtain ⟨hx, hb, hr, hml, hown, hts, hlocks, hA, hK, hP, hD, hS, hl⟩ := S0
  refine lv_aload_n hx hb dX2_assessed_0 rfl (lv_at hl 0 rfl) ?_
  refine lv_iload_n hx hb dX2_assessed_1 rfl (lv_at hl 1 rfl) ?_
  refine lv_iload_n hx hb dX2_assessed_2 rfl (lv_at hl 2 rfl) ?_
  refine tp_callV ⟨hx, hb, hml, hown, hts⟩ (tp_eqI (mc_isAsked l D cy n ad o I x k) (by rw [hq]) (congrArg (tp_u I 2 0) hq)) (cwV 2 hts gX2_assessed_X2_isAsked rfl rfl rfl (by decide +kernel) ⟨Nat.le_of_ble_eq_true rfl, Nat.le_of_ble_eq_true rfl⟩) hK hP hD hS hA 2 2 tp_e2 rfl rfl rfl hl.1 rfl (Nat.le_of_ble_eq_true rfl) dX2_assessed_3 ⟨Nat.zero_le _, Nat.zero_le _⟩ (fun I9 e9 H locs hP hD hS => ?_)
  subst e9
  refine lv_if_eq (tgt := 23) hx hb dX2_assessed_6 (by decide) (fun c6_1 => ?_) (fun c6_1 => ?_)
  · refine lv_iconst (v := 0) hx hb dX2_assessed_23 (by decide) ?_
    exact tp_reti hx hb hr hlocks hK hP hD hS rfl rfl rfl dX2_assessed_24
  · exact absurd rfl c6_1
set_option maxHeartbeats 4000000 in
set_option maxRecDepth 100000 in
/-- assessed: ok -/
theorem mp_assessed_ok (l : Launch) (D : va_G) (cy : Nat → ClassId) (n : Nat) (ad : Nat → Nat) (o : Int64) (I : Nat → Nat → Int32) (h : Nat) (hh : h < 6) (m0 : Nat) (hm : m0 < 48) (hq : tp_ask I (nI h) (nI m0) = 0) : tp_I l yX2_assessed wsX2_assessed (tp_rm 3 65) D cy n ad o [.ref (ad (2)), .int (nI h), .int (nI m0)] I (I 8 (48 * h + m0)) (tp_u I 2 0 0) := by
  refine tp_ofI (lv := [(0, .ref (ad (2))), (1, .int (nI h)), (2, .int (nI m0))]) (by decide) rfl (Nat.le_of_ble_eq_true rfl) rfl (fun p e s m args below meth c A ls S0 => ?_)
  obtain ⟨hx, hb, hr, hml, hown, hts, hlocks, hA, hK, hP, hD, hS, hl⟩ := S0
  refine lv_aload_n hx hb dX2_assessed_0 rfl (lv_at hl 0 rfl) ?_
  refine lv_iload_n hx hb dX2_assessed_1 rfl (lv_at hl 1 rfl) ?_
  refine lv_iload_n hx hb dX2_assessed_2 rfl (lv_at hl 2 rfl) ?_
  refine tp_callV ⟨hx, hb, hml, hown, hts⟩ (tp_eqI (mc_isAsked l D cy n ad o I (nI h) (nI m0)) (if_pos hq) (congrArg (tp_u I 2 0) hq)) (cwV 2 hts gX2_assessed_X2_isAsked rfl rfl rfl (by decide +kernel) ⟨Nat.le_of_ble_eq_true rfl, Nat.le_of_ble_eq_true rfl⟩) hK hP hD hS hA 2 2 tp_e2 rfl rfl rfl hl.1 rfl (Nat.le_of_ble_eq_true rfl) dX2_assessed_3 ⟨Nat.zero_le _, Nat.zero_le _⟩ (fun I9 e9 H locs hP hD hS => ?_)
  subst e9
  refine lv_if_eq (tgt := 23) hx hb dX2_assessed_6 (by decide) (fun c6_1 => ?_) (fun c6_1 => ?_)
  · exact absurd c6_1 (by decide)
  · refine lv_aload_n hx hb dX2_assessed_9 rfl (lv_at hl 0 rfl) ?_
    refine va_get (D := D) (ci := 2) (v := .ref (ad (8))) (C := RX2) (T := TX2) (N := 16) hx hb hts (fun _ h => List.mem_cons_of_mem _ (List.mem_append_right _ (h))) hown hK hP 2 tp_e2 rfl 8 (by decide) (hts _ (List.mem_of_getElem? (i := 1) rfl)) (fun _ h9 => h9) rfl dX2_assessed_10 ?_
    refine lv_bipush (v := 48) hx hb dX2_assessed_13 (by decide) ?_
    refine lv_iload_n hx hb dX2_assessed_15 rfl (lv_at hl 1 rfl) ?_
    refine lv_imul hx hb dX2_assessed_16 ?_
    refine tp_eqi (y := nI (48 * h)) (pk_mul 48 h) ?_
    refine lv_iload_n hx hb dX2_assessed_17 rfl (lv_at hl 2 rfl) ?_
    refine lv_iadd hx hb dX2_assessed_18 ?_
    refine tp_eqi (y := nI ((48 * h) + m0)) (nI_add (48 * h) m0) ?_
    refine tp_iald hx hb hK hP 8 288 (((48 * h) + m0)) (by omega) rfl rfl (by omega) (by decide) dX2_assessed_19 ?_
    refine tp_eqi (y := (I 8 ((48 * h) + m0))) rfl ?_
    refine lv_goto (tgt := 24) hx hb dX2_assessed_20 (by decide) ?_
    exact tp_reti hx hb hr hlocks hK hP hD hS rfl rfl rfl dX2_assessed_24
set_option maxHeartbeats 4000000 in
set_option maxRecDepth 100000 in
/-- paid: no -/
theorem mp_paid_no (l : Launch) (D : va_G) (cy : Nat → ClassId) (n : Nat) (ad : Nat → Nat) (o : Int64) (I : Nat → Nat → Int32) (x k : Int32) (hq : tp_ask I x k = 1) : tp_I l yX2_paid wsX2_paid (tp_rm 3 65) D cy n ad o [.ref (ad (2)), .int x, .int k] I (0) (tp_u I 2 0 1) := by
  refine tp_ofI (lv := [(0, .ref (ad (2))), (1, .int x), (2, .int k)]) (by decide) rfl (Nat.le_of_ble_eq_true rfl) rfl (fun p e s m args below meth c A ls S0 => ?_)
  obtain ⟨hx, hb, hr, hml, hown, hts, hlocks, hA, hK, hP, hD, hS, hl⟩ := S0
  refine lv_aload_n hx hb dX2_paid_0 rfl (lv_at hl 0 rfl) ?_
  refine lv_iload_n hx hb dX2_paid_1 rfl (lv_at hl 1 rfl) ?_
  refine lv_iload_n hx hb dX2_paid_2 rfl (lv_at hl 2 rfl) ?_
  refine tp_callV ⟨hx, hb, hml, hown, hts⟩ (tp_eqI (mc_isAsked l D cy n ad o I x k) (by rw [hq]) (congrArg (tp_u I 2 0) hq)) (cwV 2 hts gX2_paid_X2_isAsked rfl rfl rfl (by decide +kernel) ⟨Nat.le_of_ble_eq_true rfl, Nat.le_of_ble_eq_true rfl⟩) hK hP hD hS hA 2 2 tp_e2 rfl rfl rfl hl.1 rfl (Nat.le_of_ble_eq_true rfl) dX2_paid_3 ⟨Nat.zero_le _, Nat.zero_le _⟩ (fun I9 e9 H locs hP hD hS => ?_)
  subst e9
  refine lv_if_eq (tgt := 23) hx hb dX2_paid_6 (by decide) (fun c6_1 => ?_) (fun c6_1 => ?_)
  · refine lv_iconst (v := 0) hx hb dX2_paid_23 (by decide) ?_
    exact tp_reti hx hb hr hlocks hK hP hD hS rfl rfl rfl dX2_paid_24
  · exact absurd rfl c6_1
set_option maxHeartbeats 4000000 in
set_option maxRecDepth 100000 in
/-- paid: ok -/
theorem mp_paid_ok (l : Launch) (D : va_G) (cy : Nat → ClassId) (n : Nat) (ad : Nat → Nat) (o : Int64) (I : Nat → Nat → Int32) (h : Nat) (hh : h < 6) (m0 : Nat) (hm : m0 < 48) (hq : tp_ask I (nI h) (nI m0) = 0) : tp_I l yX2_paid wsX2_paid (tp_rm 3 65) D cy n ad o [.ref (ad (2)), .int (nI h), .int (nI m0)] I (I 9 (48 * h + m0)) (tp_u I 2 0 0) := by
  refine tp_ofI (lv := [(0, .ref (ad (2))), (1, .int (nI h)), (2, .int (nI m0))]) (by decide) rfl (Nat.le_of_ble_eq_true rfl) rfl (fun p e s m args below meth c A ls S0 => ?_)
  obtain ⟨hx, hb, hr, hml, hown, hts, hlocks, hA, hK, hP, hD, hS, hl⟩ := S0
  refine lv_aload_n hx hb dX2_paid_0 rfl (lv_at hl 0 rfl) ?_
  refine lv_iload_n hx hb dX2_paid_1 rfl (lv_at hl 1 rfl) ?_
  refine lv_iload_n hx hb dX2_paid_2 rfl (lv_at hl 2 rfl) ?_
  refine tp_callV ⟨hx, hb, hml, hown, hts⟩ (tp_eqI (mc_isAsked l D cy n ad o I (nI h) (nI m0)) (if_pos hq) (congrArg (tp_u I 2 0) hq)) (cwV 2 hts gX2_paid_X2_isAsked rfl rfl rfl (by decide +kernel) ⟨Nat.le_of_ble_eq_true rfl, Nat.le_of_ble_eq_true rfl⟩) hK hP hD hS hA 2 2 tp_e2 rfl rfl rfl hl.1 rfl (Nat.le_of_ble_eq_true rfl) dX2_paid_3 ⟨Nat.zero_le _, Nat.zero_le _⟩ (fun I9 e9 H locs hP hD hS => ?_)
  subst e9
  refine lv_if_eq (tgt := 23) hx hb dX2_paid_6 (by decide) (fun c6_1 => ?_) (fun c6_1 => ?_)
  · exact absurd c6_1 (by decide)
  · refine lv_aload_n hx hb dX2_paid_9 rfl (lv_at hl 0 rfl) ?_
    refine va_get (D := D) (ci := 2) (v := .ref (ad (9))) (C := RX2) (T := TX2) (N := 16) hx hb hts (fun _ h => List.mem_cons_of_mem _ (List.mem_append_right _ (h))) hown hK hP 2 tp_e2 rfl 9 (by decide) (hts _ (List.mem_of_getElem? (i := 1) rfl)) (fun _ h9 => h9) rfl dX2_paid_10 ?_
    refine lv_bipush (v := 48) hx hb dX2_paid_13 (by decide) ?_
    refine lv_iload_n hx hb dX2_paid_15 rfl (lv_at hl 1 rfl) ?_
    refine lv_imul hx hb dX2_paid_16 ?_
    refine tp_eqi (y := nI (48 * h)) (pk_mul 48 h) ?_
    refine lv_iload_n hx hb dX2_paid_17 rfl (lv_at hl 2 rfl) ?_
    refine lv_iadd hx hb dX2_paid_18 ?_
    refine tp_eqi (y := nI ((48 * h) + m0)) (nI_add (48 * h) m0) ?_
    refine tp_iald hx hb hK hP 9 288 (((48 * h) + m0)) (by omega) rfl rfl (by omega) (by decide) dX2_paid_19 ?_
    refine tp_eqi (y := (I 9 ((48 * h) + m0))) rfl ?_
    refine lv_goto (tgt := 24) hx hb dX2_paid_20 (by decide) ?_
    exact tp_reti hx hb hr hlocks hK hP hD hS rfl rfl rfl dX2_paid_24
set_option maxHeartbeats 4000000 in
set_option maxRecDepth 100000 in
/-- fact: no -/
theorem mp_fact_no (l : Launch) (D : va_G) (cy : Nat → ClassId) (n : Nat) (ad : Nat → Nat) (o : Int64) (I : Nat → Nat → Int32) (x f k : Int32) (hq : tp_ask I x k = 1) : tp_I l yX2_fact wsX2_fact (tp_rm 3 65) D cy n ad o [.ref (ad (2)), .int x, .int f, .int k] I (0) (tp_u I 2 0 1) := by
  refine tp_ofI (lv := [(0, .ref (ad (2))), (1, .int x), (2, .int f), (3, .int k)]) (by decide) rfl (Nat.le_of_ble_eq_true rfl) rfl (fun p e s m args below meth c A ls S0 => ?_)
  obtain ⟨hx, hb, hr, hml, hown, hts, hlocks, hA, hK, hP, hD, hS, hl⟩ := S0
  refine lv_aload_n hx hb dX2_fact_0 rfl (lv_at hl 0 rfl) ?_
  refine lv_iload_n hx hb dX2_fact_1 rfl (lv_at hl 1 rfl) ?_
  refine lv_iload_n hx hb dX2_fact_2 rfl (lv_at hl 3 rfl) ?_
  refine tp_callV ⟨hx, hb, hml, hown, hts⟩ (tp_eqI (mc_isAsked l D cy n ad o I x k) (by rw [hq]) (congrArg (tp_u I 2 0) hq)) (cwV 2 hts gX2_fact_X2_isAsked rfl rfl rfl (by decide +kernel) ⟨Nat.le_of_ble_eq_true rfl, Nat.le_of_ble_eq_true rfl⟩) hK hP hD hS hA 2 2 tp_e2 rfl rfl rfl hl.1 rfl (Nat.le_of_ble_eq_true rfl) dX2_fact_3 ⟨Nat.zero_le _, Nat.zero_le _⟩ (fun I9 e9 H locs hP hD hS => ?_)
  subst e9
  refine lv_if_ne (tgt := 11) hx hb dX2_fact_6 (by decide) (fun c6_1 => ?_) (fun c6_1 => ?_)
  · exact absurd rfl c6_1
  · refine lv_iconst (v := 0) hx hb dX2_fact_9 (by decide) ?_
    exact tp_reti hx hb hr hlocks hK hP hD hS rfl rfl rfl dX2_fact_10
set_option maxHeartbeats 4000000 in
set_option maxRecDepth 100000 in
/-- fact: bad -/
theorem mp_fact_bad (l : Launch) (D : va_G) (cy : Nat → ClassId) (n : Nat) (ad : Nat → Nat) (o : Int64) (I : Nat → Nat → Int32) (h : Nat) (hh : h < 6) (m0 : Nat) (hm : m0 < 48) (hq : tp_ask I (nI h) (nI m0) = 0) (f : Int32) (hf : tp_in f 0 4 = 0) : tp_I l yX2_fact wsX2_fact (tp_rm 3 65) D cy n ad o [.ref (ad (2)), .int (nI h), .int f, .int (nI m0)] I (0) (tp_u (tp_u I 2 0 0) 2 0 2) := by
  refine tp_ofI (lv := [(0, .ref (ad (2))), (1, .int (nI h)), (2, .int f), (3, .int (nI m0))]) (by decide) rfl (Nat.le_of_ble_eq_true rfl) rfl (fun p e s m args below meth c A ls S0 => ?_)
  obtain ⟨hx, hb, hr, hml, hown, hts, hlocks, hA, hK, hP, hD, hS, hl⟩ := S0
  refine lv_aload_n hx hb dX2_fact_0 rfl (lv_at hl 0 rfl) ?_
  refine lv_iload_n hx hb dX2_fact_1 rfl (lv_at hl 1 rfl) ?_
  refine lv_iload_n hx hb dX2_fact_2 rfl (lv_at hl 3 rfl) ?_
  refine tp_callV ⟨hx, hb, hml, hown, hts⟩ (tp_eqI (mc_isAsked l D cy n ad o I (nI h) (nI m0)) (if_pos hq) (congrArg (tp_u I 2 0) hq)) (cwV 2 hts gX2_fact_X2_isAsked rfl rfl rfl (by decide +kernel) ⟨Nat.le_of_ble_eq_true rfl, Nat.le_of_ble_eq_true rfl⟩) hK hP hD hS hA 2 2 tp_e2 rfl rfl rfl hl.1 rfl (Nat.le_of_ble_eq_true rfl) dX2_fact_3 ⟨Nat.zero_le _, Nat.zero_le _⟩ (fun I9 e9 H locs hP hD hS => ?_)
  subst e9
  refine lv_if_ne (tgt := 11) hx hb dX2_fact_6 (by decide) (fun c6_1 => ?_) (fun c6_1 => ?_)
  · refine lv_iload_n hx hb dX2_fact_11 rfl (lv_at hl 2 rfl) ?_
    refine lv_iconst (v := 0) hx hb dX2_fact_12 (by decide) ?_
    refine lv_iconst (v := 4) hx hb dX2_fact_13 (by decide) ?_
    refine tp_callS ⟨hx, hb, hml, hown, hts⟩ (mc_in l D cy n ad o (tp_u I 2 0 0) f 0 4) (va_cwS 3 hts gX2_fact_X2_in rfl rfl rfl (by decide +kernel) ⟨Nat.le_of_ble_eq_true rfl, Nat.le_of_ble_eq_true rfl⟩) hK hP hD hS hA rfl hl.1 rfl (Nat.le_of_ble_eq_true rfl) dX2_fact_14 ⟨Nat.zero_le _, Nat.zero_le _⟩ (fun I9 e9 H locs hP hD hS => ?_)
    subst e9
    refine lv_if_eq (tgt := 30) hx hb dX2_fact_17 (by decide) (fun c17_2 => ?_) (fun c17_2 => ?_)
    · refine lv_aload_n hx hb dX2_fact_30 rfl (lv_at hl 0 rfl) ?_
      refine lv_iconst (v := 2) hx hb dX2_fact_31 (by decide) ?_
      refine tp_callV ⟨hx, hb, hml, hown, hts⟩ (mc_fails l D cy n ad o (tp_u I 2 0 0) 2) (cwV 1 hts gX2_fact_X2_fails rfl rfl rfl (by decide +kernel) ⟨Nat.le_of_ble_eq_true rfl, Nat.le_of_ble_eq_true rfl⟩) hK hP hD hS hA 2 2 tp_e2 rfl rfl rfl hl.1 rfl (Nat.le_of_ble_eq_true rfl) dX2_fact_32 ⟨Nat.zero_le _, Nat.zero_le _⟩ (fun I9 e9 H locs hP hD hS => ?_)
      subst e9
      exact tp_reti hx hb hr hlocks hK hP hD hS rfl rfl rfl dX2_fact_35
    · exact absurd hf c17_2
  · exact absurd c6_1 (by decide)
set_option maxHeartbeats 4000000 in
set_option maxRecDepth 100000 in
/-- fact: ok -/
theorem mp_fact_ok (l : Launch) (D : va_G) (cy : Nat → ClassId) (n : Nat) (ad : Nat → Nat) (o : Int64) (I : Nat → Nat → Int32) (h : Nat) (hh : h < 6) (m0 : Nat) (hm : m0 < 48) (hq : tp_ask I (nI h) (nI m0) = 0) (f : Int32) (hf : tp_in f 0 4 = 1) (hc : tp_C I h) : tp_I l yX2_fact wsX2_fact (tp_rm 3 65) D cy n ad o [.ref (ad (2)), .int (nI h), .int f, .int (nI m0)] I (tp_mfact (tp_u I 2 0 0) h f (nI m0)) (tp_u I 2 0 0) := by
  refine tp_ofI (lv := [(0, .ref (ad (2))), (1, .int (nI h)), (2, .int f), (3, .int (nI m0))]) (by decide) rfl (Nat.le_of_ble_eq_true rfl) rfl (fun p e s m args below meth c A ls S0 => ?_)
  obtain ⟨hx, hb, hr, hml, hown, hts, hlocks, hA, hK, hP, hD, hS, hl⟩ := S0
  refine lv_aload_n hx hb dX2_fact_0 rfl (lv_at hl 0 rfl) ?_
  refine lv_iload_n hx hb dX2_fact_1 rfl (lv_at hl 1 rfl) ?_
  refine lv_iload_n hx hb dX2_fact_2 rfl (lv_at hl 3 rfl) ?_
  refine tp_callV ⟨hx, hb, hml, hown, hts⟩ (tp_eqI (mc_isAsked l D cy n ad o I (nI h) (nI m0)) (if_pos hq) (congrArg (tp_u I 2 0) hq)) (cwV 2 hts gX2_fact_X2_isAsked rfl rfl rfl (by decide +kernel) ⟨Nat.le_of_ble_eq_true rfl, Nat.le_of_ble_eq_true rfl⟩) hK hP hD hS hA 2 2 tp_e2 rfl rfl rfl hl.1 rfl (Nat.le_of_ble_eq_true rfl) dX2_fact_3 ⟨Nat.zero_le _, Nat.zero_le _⟩ (fun I9 e9 H locs hP hD hS => ?_)
  subst e9
  refine lv_if_ne (tgt := 11) hx hb dX2_fact_6 (by decide) (fun c6_1 => ?_) (fun c6_1 => ?_)
  · refine lv_iload_n hx hb dX2_fact_11 rfl (lv_at hl 2 rfl) ?_
    refine lv_iconst (v := 0) hx hb dX2_fact_12 (by decide) ?_
    refine lv_iconst (v := 4) hx hb dX2_fact_13 (by decide) ?_
    refine tp_callS ⟨hx, hb, hml, hown, hts⟩ (mc_in l D cy n ad o (tp_u I 2 0 0) f 0 4) (va_cwS 3 hts gX2_fact_X2_in rfl rfl rfl (by decide +kernel) ⟨Nat.le_of_ble_eq_true rfl, Nat.le_of_ble_eq_true rfl⟩) hK hP hD hS hA rfl hl.1 rfl (Nat.le_of_ble_eq_true rfl) dX2_fact_14 ⟨Nat.zero_le _, Nat.zero_le _⟩ (fun I9 e9 H locs hP hD hS => ?_)
    subst e9
    refine lv_if_eq (tgt := 30) hx hb dX2_fact_17 (by decide) (fun c17_2 => ?_) (fun c17_2 => ?_)
    · exact absurd (hf.symm.trans c17_2) (by decide)
    · refine lv_aload_n hx hb dX2_fact_20 rfl (lv_at hl 0 rfl) ?_
      refine lv_iload_n hx hb dX2_fact_21 rfl (lv_at hl 1 rfl) ?_
      refine lv_iload_n hx hb dX2_fact_22 rfl (lv_at hl 2 rfl) ?_
      refine lv_iload_n hx hb dX2_fact_23 rfl (lv_at hl 3 rfl) ?_
      refine tp_callV ⟨hx, hb, hml, hown, hts⟩ (mc_factOf l D cy n ad o (tp_u I 2 0 0) h (by omega) hc f (nI m0)) (cwV 3 hts gX2_fact_X2_factOf rfl rfl rfl (by decide +kernel) ⟨Nat.le_of_ble_eq_true rfl, Nat.le_of_ble_eq_true rfl⟩) hK hP hD hS hA 2 2 tp_e2 rfl rfl rfl hl.1 rfl (Nat.le_of_ble_eq_true rfl) dX2_fact_24 ⟨Nat.zero_le _, Nat.zero_le _⟩ (fun I9 e9 H locs hP hD hS => ?_)
      subst e9
      refine lv_goto (tgt := 35) hx hb dX2_fact_27 (by decide) ?_
      exact tp_reti hx hb hr hlocks hK hP hD hS rfl rfl rfl dX2_fact_35
  · exact absurd c6_1 (by decide)
set_option maxHeartbeats 4000000 in
set_option maxRecDepth 100000 in
/-- dispute: no -/
theorem mp_dispute_no (l : Launch) (D : va_G) (cy : Nat → ClassId) (n : Nat) (ad : Nat → Nat) (o : Int64) (I : Nat → Nat → Int32) (x v : Int32) (hH : tp_in x 0 (I 2 2 - 1) = 0) : tp_I l yX2_dispute wsX2_dispute (tp_rm 2 43) D cy n ad o [.ref (ad (2)), .int x, .int v] I (0) (tp_u I 2 0 1) := by
  refine tp_ofI (lv := [(0, .ref (ad (2))), (1, .int x), (2, .int v)]) (by decide) rfl (Nat.le_of_ble_eq_true rfl) rfl (fun p e s m args below meth c A ls S0 => ?_)
  obtain ⟨hx, hb, hr, hml, hown, hts, hlocks, hA, hK, hP, hD, hS, hl⟩ := S0
  refine lv_aload_n hx hb dX2_dispute_0 rfl (lv_at hl 0 rfl) ?_
  refine lv_aload_n hx hb dX2_dispute_1 rfl (lv_at hl 0 rfl) ?_
  refine lv_iload_n hx hb dX2_dispute_2 rfl (lv_at hl 1 rfl) ?_
  refine tp_callV ⟨hx, hb, hml, hown, hts⟩ (tp_eqI (mc_isHome l D cy n ad o I x) hH rfl) (cwV 1 hts gX2_dispute_X2_isHome rfl rfl rfl (by decide +kernel) ⟨Nat.le_of_ble_eq_true rfl, Nat.le_of_ble_eq_true rfl⟩) hK hP hD hS hA 2 2 tp_e2 rfl rfl rfl hl.1 rfl (Nat.le_of_ble_eq_true rfl) dX2_dispute_3 ⟨Nat.zero_le _, Nat.zero_le _⟩ (fun I9 e9 H locs hP hD hS => ?_)
  subst e9
  refine lv_if_eq (tgt := 13) hx hb dX2_dispute_6 (by decide) (fun c6_1 => ?_) (fun c6_1 => ?_)
  · refine lv_iconst (v := 1) hx hb dX2_dispute_13 (by decide) ?_
    refine tp_put (ci := 2) (v := 1) (ty := .int) (C := RX2) (T := TX2) (N := 16) hx hb hts (fun _ h => List.mem_cons_of_mem _ (List.mem_append_right _ (h))) tyX2 tyX2_ok nmX2 hown hK hP hD hS 2 tp_e2 (by omega) rfl 0 (by decide) (hts _ (List.mem_of_getElem? (i := 1) rfl)) rfl (by decide +kernel) rfl rfl (Nat.le_of_ble_eq_true rfl) rfl dX2_dispute_14 (fun H locs hP hD hS => ?_)
    refine lv_aload_n hx hb dX2_dispute_17 rfl (lv_at hl 0 rfl) ?_
    refine va_get (D := D) (ci := 2) (v := .int 1) (C := RX2) (T := TX2) (N := 16) hx hb hts (fun _ h => List.mem_cons_of_mem _ (List.mem_append_right _ (h))) hown hK hP 2 tp_e2 rfl 0 (by decide) (hts _ (List.mem_of_getElem? (i := 1) rfl)) (fun _ h9 => h9) rfl dX2_dispute_18 ?_
    refine lv_if_ne (tgt := 37) hx hb dX2_dispute_21 (by decide) (fun c21_2 => ?_) (fun c21_2 => ?_)
    · refine lv_iconst (v := 0) hx hb dX2_dispute_37 (by decide) ?_
      refine lv_istore_n (lv' := [(3, .int 0), (0, .ref (ad (2))), (1, .int x), (2, .int v)]) hx hb dX2_dispute_38 rfl hl (by decide) rfl (fun ls hl => ?_)
      refine lv_aload_n hx hb dX2_dispute_39 rfl (lv_at hl 1 rfl) ?_
      refine va_get (D := D) (ci := 2) (v := .int 1) (C := RX2) (T := TX2) (N := 16) hx hb hts (fun _ h => List.mem_cons_of_mem _ (List.mem_append_right _ (h))) hown hK hP 2 tp_e2 rfl 0 (by decide) (hts _ (List.mem_of_getElem? (i := 1) rfl)) (fun _ h9 => h9) rfl dX2_dispute_40 ?_
      refine lv_if_ne (tgt := 53) hx hb dX2_dispute_43 (by decide) (fun c43_3 => ?_) (fun c43_3 => ?_)
      · refine lv_iload_n hx hb dX2_dispute_53 rfl (lv_at hl 0 rfl) ?_
        exact tp_reti hx hb hr hlocks hK hP hD hS rfl rfl rfl dX2_dispute_54
      · exact absurd c43_3 (by decide)
    · exact absurd c21_2 (by decide)
  · exact absurd rfl c6_1
set_option maxHeartbeats 4000000 in
set_option maxRecDepth 100000 in
/-- dispute: ok -/
theorem mp_dispute_ok (l : Launch) (D : va_G) (cy : Nat → ClassId) (n : Nat) (ad : Nat → Nat) (o : Int64) (I : Nat → Nat → Int32) (h : Nat) (hh : h < 6) (hH : tp_in (nI h) 0 (I 2 2 - 1) = 1) (v : Int32) (hv : vp_nar .boolean v = v) : tp_I l yX2_dispute wsX2_dispute (tp_rm 2 43) D cy n ad o [.ref (ad (2)), .int (nI h), .int v] I (if I 12 h = 0 then 0 else 1) (tp_u (tp_u I 2 0 0) 12 h v) := by
  refine tp_ofI (lv := [(0, .ref (ad (2))), (1, .int (nI h)), (2, .int v)]) (by decide) rfl (Nat.le_of_ble_eq_true rfl) rfl (fun p e s m args below meth c A ls S0 => ?_)
  obtain ⟨hx, hb, hr, hml, hown, hts, hlocks, hA, hK, hP, hD, hS, hl⟩ := S0
  refine lv_aload_n hx hb dX2_dispute_0 rfl (lv_at hl 0 rfl) ?_
  refine lv_aload_n hx hb dX2_dispute_1 rfl (lv_at hl 0 rfl) ?_
  refine lv_iload_n hx hb dX2_dispute_2 rfl (lv_at hl 1 rfl) ?_
  refine tp_callV ⟨hx, hb, hml, hown, hts⟩ (tp_eqI (mc_isHome l D cy n ad o I (nI h)) hH rfl) (cwV 1 hts gX2_dispute_X2_isHome rfl rfl rfl (by decide +kernel) ⟨Nat.le_of_ble_eq_true rfl, Nat.le_of_ble_eq_true rfl⟩) hK hP hD hS hA 2 2 tp_e2 rfl rfl rfl hl.1 rfl (Nat.le_of_ble_eq_true rfl) dX2_dispute_3 ⟨Nat.zero_le _, Nat.zero_le _⟩ (fun I9 e9 H locs hP hD hS => ?_)
  subst e9
  refine lv_if_eq (tgt := 13) hx hb dX2_dispute_6 (by decide) (fun c6_1 => ?_) (fun c6_1 => ?_)
  · exact absurd c6_1 (by decide)
  · refine lv_iconst (v := 0) hx hb dX2_dispute_9 (by decide) ?_
    refine lv_goto (tgt := 14) hx hb dX2_dispute_10 (by decide) ?_
    refine tp_put (ci := 2) (v := 0) (ty := .int) (C := RX2) (T := TX2) (N := 16) hx hb hts (fun _ h => List.mem_cons_of_mem _ (List.mem_append_right _ (h))) tyX2 tyX2_ok nmX2 hown hK hP hD hS 2 tp_e2 (by omega) rfl 0 (by decide) (hts _ (List.mem_of_getElem? (i := 1) rfl)) rfl (by decide +kernel) rfl rfl (Nat.le_of_ble_eq_true rfl) rfl dX2_dispute_14 (fun H locs hP hD hS => ?_)
    refine lv_aload_n hx hb dX2_dispute_17 rfl (lv_at hl 0 rfl) ?_
    refine va_get (D := D) (ci := 2) (v := .int 0) (C := RX2) (T := TX2) (N := 16) hx hb hts (fun _ h => List.mem_cons_of_mem _ (List.mem_append_right _ (h))) hown hK hP 2 tp_e2 rfl 0 (by decide) (hts _ (List.mem_of_getElem? (i := 1) rfl)) (fun _ h9 => h9) rfl dX2_dispute_18 ?_
    refine lv_if_ne (tgt := 37) hx hb dX2_dispute_21 (by decide) (fun c21_2 => ?_) (fun c21_2 => ?_)
    · exact absurd rfl c21_2
    · refine lv_aload_n hx hb dX2_dispute_24 rfl (lv_at hl 0 rfl) ?_
      refine va_get (D := D) (ci := 2) (v := .ref (ad (12))) (C := RX2) (T := TX2) (N := 16) hx hb hts (fun _ h => List.mem_cons_of_mem _ (List.mem_append_right _ (h))) hown hK hP 2 tp_e2 rfl 12 (by decide) (hts _ (List.mem_of_getElem? (i := 2) rfl)) (fun _ h9 => h9) rfl dX2_dispute_25 ?_
      refine lv_iload_n hx hb dX2_dispute_28 rfl (lv_at hl 1 rfl) ?_
      refine tp_zald hx hb hK hP 12 6 (h) (by omega) rfl rfl (by omega) (by decide) dX2_dispute_29 ?_
      refine tp_eqi (y := (I 12 h)) rfl ?_
      refine lv_if_eq (tgt := 37) hx hb dX2_dispute_30 (by decide) (fun c30_3 => ?_) (fun c30_3 => ?_)
      · refine lv_iconst (v := 0) hx hb dX2_dispute_37 (by decide) ?_
        refine lv_istore_n (lv' := [(3, .int 0), (0, .ref (ad (2))), (1, .int (nI h)), (2, .int v)]) hx hb dX2_dispute_38 rfl hl (by decide) rfl (fun ls hl => ?_)
        refine lv_aload_n hx hb dX2_dispute_39 rfl (lv_at hl 1 rfl) ?_
        refine va_get (D := D) (ci := 2) (v := .int 0) (C := RX2) (T := TX2) (N := 16) hx hb hts (fun _ h => List.mem_cons_of_mem _ (List.mem_append_right _ (h))) hown hK hP 2 tp_e2 rfl 0 (by decide) (hts _ (List.mem_of_getElem? (i := 1) rfl)) (fun _ h9 => h9) rfl dX2_dispute_40 ?_
        refine lv_if_ne (tgt := 53) hx hb dX2_dispute_43 (by decide) (fun c43_4 => ?_) (fun c43_4 => ?_)
        · exact absurd rfl c43_4
        · refine lv_aload_n hx hb dX2_dispute_46 rfl (lv_at hl 1 rfl) ?_
          refine va_get (D := D) (ci := 2) (v := .ref (ad (12))) (C := RX2) (T := TX2) (N := 16) hx hb hts (fun _ h => List.mem_cons_of_mem _ (List.mem_append_right _ (h))) hown hK hP 2 tp_e2 rfl 12 (by decide) (hts _ (List.mem_of_getElem? (i := 2) rfl)) (fun _ h9 => h9) rfl dX2_dispute_47 ?_
          refine lv_iload_n hx hb dX2_dispute_50 rfl (lv_at hl 2 rfl) ?_
          refine lv_iload_n hx hb dX2_dispute_51 rfl (lv_at hl 3 rfl) ?_
          refine tp_zast hx hb hK hP hD hS (12) 6 (h) (by omega) (fun _ => rfl) rfl (by omega) (by decide) (by assumption) dX2_dispute_52 (fun H locs hP hD hS => ?_)
          refine lv_iload_n hx hb dX2_dispute_53 rfl (lv_at hl 0 rfl) ?_
          exact tp_reti hx hb hr hlocks hK hP hD hS rfl (by rw [if_pos c30_3]) rfl dX2_dispute_54
      · refine lv_iconst (v := 1) hx hb dX2_dispute_33 (by decide) ?_
        refine lv_goto (tgt := 38) hx hb dX2_dispute_34 (by decide) ?_
        refine lv_istore_n (lv' := [(3, .int 1), (0, .ref (ad (2))), (1, .int (nI h)), (2, .int v)]) hx hb dX2_dispute_38 rfl hl (by decide) rfl (fun ls hl => ?_)
        refine lv_aload_n hx hb dX2_dispute_39 rfl (lv_at hl 1 rfl) ?_
        refine va_get (D := D) (ci := 2) (v := .int 0) (C := RX2) (T := TX2) (N := 16) hx hb hts (fun _ h => List.mem_cons_of_mem _ (List.mem_append_right _ (h))) hown hK hP 2 tp_e2 rfl 0 (by decide) (hts _ (List.mem_of_getElem? (i := 1) rfl)) (fun _ h9 => h9) rfl dX2_dispute_40 ?_
        refine lv_if_ne (tgt := 53) hx hb dX2_dispute_43 (by decide) (fun c43_4 => ?_) (fun c43_4 => ?_)
        · exact absurd rfl c43_4
        · refine lv_aload_n hx hb dX2_dispute_46 rfl (lv_at hl 1 rfl) ?_
          refine va_get (D := D) (ci := 2) (v := .ref (ad (12))) (C := RX2) (T := TX2) (N := 16) hx hb hts (fun _ h => List.mem_cons_of_mem _ (List.mem_append_right _ (h))) hown hK hP 2 tp_e2 rfl 12 (by decide) (hts _ (List.mem_of_getElem? (i := 2) rfl)) (fun _ h9 => h9) rfl dX2_dispute_47 ?_
          refine lv_iload_n hx hb dX2_dispute_50 rfl (lv_at hl 2 rfl) ?_
          refine lv_iload_n hx hb dX2_dispute_51 rfl (lv_at hl 3 rfl) ?_
          refine tp_zast hx hb hK hP hD hS (12) 6 (h) (by omega) (fun _ => rfl) rfl (by omega) (by decide) (by assumption) dX2_dispute_52 (fun H locs hP hD hS => ?_)
          refine lv_iload_n hx hb dX2_dispute_53 rfl (lv_at hl 0 rfl) ?_
          exact tp_reti hx hb hr hlocks hK hP hD hS rfl (by rw [if_neg c30_3]) rfl dX2_dispute_54
set_option maxHeartbeats 4000000 in
set_option maxRecDepth 100000 in
/-- payBack: no -/
theorem mp_payBack_no (l : Launch) (D : va_G) (cy : Nat → ClassId) (n : Nat) (ad : Nat → Nat) (o : Int64) (I : Nat → Nat → Int32) (y x : Int32) (hH : tp_in y 0 (I 2 2 - 1) = 0) : tp_I l yX2_payBack wsX2_payBack (tp_rm 2 43) D cy n ad o [.ref (ad (2)), .int y, .int x] I (0) (tp_u (tp_u I 2 0 0) 2 0 1) := by
  refine tp_ofI (lv := [(0, .ref (ad (2))), (1, .int y), (2, .int x)]) (by decide) rfl (Nat.le_of_ble_eq_true rfl) rfl (fun p e s m args below meth c A ls S0 => ?_)
  obtain ⟨hx, hb, hr, hml, hown, hts, hlocks, hA, hK, hP, hD, hS, hl⟩ := S0
  refine lv_aload_n hx hb dX2_payBack_0 rfl (lv_at hl 0 rfl) ?_
  refine lv_iconst (v := 0) hx hb dX2_payBack_1 (by decide) ?_
  refine tp_put (ci := 2) (v := 0) (ty := .int) (C := RX2) (T := TX2) (N := 16) hx hb hts (fun _ h => List.mem_cons_of_mem _ (List.mem_append_right _ (h))) tyX2 tyX2_ok nmX2 hown hK hP hD hS 2 tp_e2 (by omega) rfl 0 (by decide) (hts _ (List.mem_of_getElem? (i := 1) rfl)) rfl (by decide +kernel) rfl rfl (Nat.le_of_ble_eq_true rfl) rfl dX2_payBack_2 (fun H locs hP hD hS => ?_)
  refine lv_aload_n hx hb dX2_payBack_5 rfl (lv_at hl 0 rfl) ?_
  refine lv_iload_n hx hb dX2_payBack_6 rfl (lv_at hl 1 rfl) ?_
  refine tp_callV ⟨hx, hb, hml, hown, hts⟩ (tp_eqI (mc_isHome l D cy n ad o (tp_u I 2 0 0) y) hH rfl) (cwV 1 hts gX2_payBack_X2_isHome rfl rfl rfl (by decide +kernel) ⟨Nat.le_of_ble_eq_true rfl, Nat.le_of_ble_eq_true rfl⟩) hK hP hD hS hA 2 2 tp_e2 rfl rfl rfl hl.1 rfl (Nat.le_of_ble_eq_true rfl) dX2_payBack_7 ⟨Nat.zero_le _, Nat.zero_le _⟩ (fun I9 e9 H locs hP hD hS => ?_)
  subst e9
  refine lv_if_ne (tgt := 19) hx hb dX2_payBack_10 (by decide) (fun c10_1 => ?_) (fun c10_1 => ?_)
  · exact absurd rfl c10_1
  · refine lv_aload_n hx hb dX2_payBack_13 rfl (lv_at hl 0 rfl) ?_
    refine lv_iconst (v := 1) hx hb dX2_payBack_14 (by decide) ?_
    refine tp_callV ⟨hx, hb, hml, hown, hts⟩ (mc_fails l D cy n ad o (tp_u I 2 0 0) 1) (cwV 1 hts gX2_payBack_X2_fails rfl rfl rfl (by decide +kernel) ⟨Nat.le_of_ble_eq_true rfl, Nat.le_of_ble_eq_true rfl⟩) hK hP hD hS hA 2 2 tp_e2 rfl rfl rfl hl.1 rfl (Nat.le_of_ble_eq_true rfl) dX2_payBack_15 ⟨Nat.zero_le _, Nat.zero_le _⟩ (fun I9 e9 H locs hP hD hS => ?_)
    subst e9
    exact tp_reti hx hb hr hlocks hK hP hD hS rfl rfl rfl dX2_payBack_18
set_option maxHeartbeats 4000000 in
set_option maxRecDepth 100000 in
/-- payBack: bad -/
theorem mp_payBack_bad (l : Launch) (D : va_G) (cy : Nat → ClassId) (n : Nat) (ad : Nat → Nat) (o : Int64) (I : Nat → Nat → Int32) (h : Nat) (hh : h < 6) (hH : tp_in (nI h) 0 (I 2 2 - 1) = 1) (x : Int32) (hx2 : tp_in x 1 1000000 = 0) : tp_I l yX2_payBack wsX2_payBack (tp_rm 2 43) D cy n ad o [.ref (ad (2)), .int (nI h), .int x] I (0) (tp_u (tp_u I 2 0 0) 2 0 2) := by
  refine tp_ofI (lv := [(0, .ref (ad (2))), (1, .int (nI h)), (2, .int x)]) (by decide) rfl (Nat.le_of_ble_eq_true rfl) rfl (fun p e s m args below meth c A ls S0 => ?_)
  obtain ⟨hx, hb, hr, hml, hown, hts, hlocks, hA, hK, hP, hD, hS, hl⟩ := S0
  refine lv_aload_n hx hb dX2_payBack_0 rfl (lv_at hl 0 rfl) ?_
  refine lv_iconst (v := 0) hx hb dX2_payBack_1 (by decide) ?_
  refine tp_put (ci := 2) (v := 0) (ty := .int) (C := RX2) (T := TX2) (N := 16) hx hb hts (fun _ h => List.mem_cons_of_mem _ (List.mem_append_right _ (h))) tyX2 tyX2_ok nmX2 hown hK hP hD hS 2 tp_e2 (by omega) rfl 0 (by decide) (hts _ (List.mem_of_getElem? (i := 1) rfl)) rfl (by decide +kernel) rfl rfl (Nat.le_of_ble_eq_true rfl) rfl dX2_payBack_2 (fun H locs hP hD hS => ?_)
  refine lv_aload_n hx hb dX2_payBack_5 rfl (lv_at hl 0 rfl) ?_
  refine lv_iload_n hx hb dX2_payBack_6 rfl (lv_at hl 1 rfl) ?_
  refine tp_callV ⟨hx, hb, hml, hown, hts⟩ (tp_eqI (mc_isHome l D cy n ad o (tp_u I 2 0 0) (nI h)) hH rfl) (cwV 1 hts gX2_payBack_X2_isHome rfl rfl rfl (by decide +kernel) ⟨Nat.le_of_ble_eq_true rfl, Nat.le_of_ble_eq_true rfl⟩) hK hP hD hS hA 2 2 tp_e2 rfl rfl rfl hl.1 rfl (Nat.le_of_ble_eq_true rfl) dX2_payBack_7 ⟨Nat.zero_le _, Nat.zero_le _⟩ (fun I9 e9 H locs hP hD hS => ?_)
  subst e9
  refine lv_if_ne (tgt := 19) hx hb dX2_payBack_10 (by decide) (fun c10_1 => ?_) (fun c10_1 => ?_)
  · refine lv_iload_n hx hb dX2_payBack_19 rfl (lv_at hl 2 rfl) ?_
    refine lv_iconst (v := 1) hx hb dX2_payBack_20 (by decide) ?_
    refine lv_ldc (v := 1000000) hx hb hown (hts _ (List.mem_of_getElem? (i := 2) rfl)) dX2_payBack_21 ?_
    refine tp_callS ⟨hx, hb, hml, hown, hts⟩ (mc_in l D cy n ad o (tp_u I 2 0 0) x 1 1000000) (va_cwS 3 hts gX2_payBack_X2_in rfl rfl rfl (by decide +kernel) ⟨Nat.le_of_ble_eq_true rfl, Nat.le_of_ble_eq_true rfl⟩) hK hP hD hS hA rfl hl.1 rfl (Nat.le_of_ble_eq_true rfl) dX2_payBack_23 ⟨Nat.zero_le _, Nat.zero_le _⟩ (fun I9 e9 H locs hP hD hS => ?_)
    subst e9
    refine lv_if_ne (tgt := 35) hx hb dX2_payBack_26 (by decide) (fun c26_2 => ?_) (fun c26_2 => ?_)
    · exact absurd hx2 c26_2
    · refine lv_aload_n hx hb dX2_payBack_29 rfl (lv_at hl 0 rfl) ?_
      refine lv_iconst (v := 2) hx hb dX2_payBack_30 (by decide) ?_
      refine tp_callV ⟨hx, hb, hml, hown, hts⟩ (mc_fails l D cy n ad o (tp_u I 2 0 0) 2) (cwV 1 hts gX2_payBack_X2_fails rfl rfl rfl (by decide +kernel) ⟨Nat.le_of_ble_eq_true rfl, Nat.le_of_ble_eq_true rfl⟩) hK hP hD hS hA 2 2 tp_e2 rfl rfl rfl hl.1 rfl (Nat.le_of_ble_eq_true rfl) dX2_payBack_31 ⟨Nat.zero_le _, Nat.zero_le _⟩ (fun I9 e9 H locs hP hD hS => ?_)
      subst e9
      exact tp_reti hx hb hr hlocks hK hP hD hS rfl rfl rfl dX2_payBack_34
  · exact absurd c10_1 (by decide)
set_option maxHeartbeats 4000000 in
set_option maxRecDepth 100000 in
/-- payBack: less -/
theorem mp_payBack_less (l : Launch) (D : va_G) (cy : Nat → ClassId) (n : Nat) (ad : Nat → Nat) (o : Int64) (I : Nat → Nat → Int32) (h : Nat) (hh : h < 6) (hH : tp_in (nI h) 0 (I 2 2 - 1) = 1) (x : Int32) (hx2 : tp_in x 1 1000000 = 1) (hx3 : ¬ x ≤ I 10 h) : tp_I l yX2_payBack wsX2_payBack (tp_rm 2 43) D cy n ad o [.ref (ad (2)), .int (nI h), .int x] I (0) (tp_u (tp_u I 2 0 0) 2 0 3) := by
  refine tp_ofI (lv := [(0, .ref (ad (2))), (1, .int (nI h)), (2, .int x)]) (by decide) rfl (Nat.le_of_ble_eq_true rfl) rfl (fun p e s m args below meth c A ls S0 => ?_)
  obtain ⟨hx, hb, hr, hml, hown, hts, hlocks, hA, hK, hP, hD, hS, hl⟩ := S0
  refine lv_aload_n hx hb dX2_payBack_0 rfl (lv_at hl 0 rfl) ?_
  refine lv_iconst (v := 0) hx hb dX2_payBack_1 (by decide) ?_
  refine tp_put (ci := 2) (v := 0) (ty := .int) (C := RX2) (T := TX2) (N := 16) hx hb hts (fun _ h => List.mem_cons_of_mem _ (List.mem_append_right _ (h))) tyX2 tyX2_ok nmX2 hown hK hP hD hS 2 tp_e2 (by omega) rfl 0 (by decide) (hts _ (List.mem_of_getElem? (i := 1) rfl)) rfl (by decide +kernel) rfl rfl (Nat.le_of_ble_eq_true rfl) rfl dX2_payBack_2 (fun H locs hP hD hS => ?_)
  refine lv_aload_n hx hb dX2_payBack_5 rfl (lv_at hl 0 rfl) ?_
  refine lv_iload_n hx hb dX2_payBack_6 rfl (lv_at hl 1 rfl) ?_
  refine tp_callV ⟨hx, hb, hml, hown, hts⟩ (tp_eqI (mc_isHome l D cy n ad o (tp_u I 2 0 0) (nI h)) hH rfl) (cwV 1 hts gX2_payBack_X2_isHome rfl rfl rfl (by decide +kernel) ⟨Nat.le_of_ble_eq_true rfl, Nat.le_of_ble_eq_true rfl⟩) hK hP hD hS hA 2 2 tp_e2 rfl rfl rfl hl.1 rfl (Nat.le_of_ble_eq_true rfl) dX2_payBack_7 ⟨Nat.zero_le _, Nat.zero_le _⟩ (fun I9 e9 H locs hP hD hS => ?_)
  subst e9
  refine lv_if_ne (tgt := 19) hx hb dX2_payBack_10 (by decide) (fun c10_1 => ?_) (fun c10_1 => ?_)
  · refine lv_iload_n hx hb dX2_payBack_19 rfl (lv_at hl 2 rfl) ?_
    refine lv_iconst (v := 1) hx hb dX2_payBack_20 (by decide) ?_
    refine lv_ldc (v := 1000000) hx hb hown (hts _ (List.mem_of_getElem? (i := 2) rfl)) dX2_payBack_21 ?_
    refine tp_callS ⟨hx, hb, hml, hown, hts⟩ (mc_in l D cy n ad o (tp_u I 2 0 0) x 1 1000000) (va_cwS 3 hts gX2_payBack_X2_in rfl rfl rfl (by decide +kernel) ⟨Nat.le_of_ble_eq_true rfl, Nat.le_of_ble_eq_true rfl⟩) hK hP hD hS hA rfl hl.1 rfl (Nat.le_of_ble_eq_true rfl) dX2_payBack_23 ⟨Nat.zero_le _, Nat.zero_le _⟩ (fun I9 e9 H locs hP hD hS => ?_)
    subst e9
    refine lv_if_ne (tgt := 35) hx hb dX2_payBack_26 (by decide) (fun c26_2 => ?_) (fun c26_2 => ?_)
    · refine lv_aload_n hx hb dX2_payBack_35 rfl (lv_at hl 0 rfl) ?_
      refine va_get (D := D) (ci := 2) (v := .ref (ad (10))) (C := RX2) (T := TX2) (N := 16) hx hb hts (fun _ h => List.mem_cons_of_mem _ (List.mem_append_right _ (h))) hown hK hP 2 tp_e2 rfl 10 (by decide) (hts _ (List.mem_of_getElem? (i := 3) rfl)) (fun _ h9 => h9) rfl dX2_payBack_36 ?_
      refine lv_iload_n hx hb dX2_payBack_39 rfl (lv_at hl 1 rfl) ?_
      refine tp_iald hx hb hK hP 10 6 (h) (by omega) rfl rfl (by omega) (by decide) dX2_payBack_40 ?_
      refine tp_eqi (y := (I 10 h)) rfl ?_
      refine lv_iload_n hx hb dX2_payBack_41 rfl (lv_at hl 2 rfl) ?_
      refine lv_icmp_ge (tgt := 51) hx hb dX2_payBack_42 (by decide) (fun c42_3 => ?_) (fun c42_3 => ?_)
      · exact absurd c42_3 hx3
      · refine lv_aload_n hx hb dX2_payBack_45 rfl (lv_at hl 0 rfl) ?_
        refine lv_iconst (v := 3) hx hb dX2_payBack_46 (by decide) ?_
        refine tp_callV ⟨hx, hb, hml, hown, hts⟩ (mc_fails l D cy n ad o (tp_u I 2 0 0) 3) (cwV 1 hts gX2_payBack_X2_fails rfl rfl rfl (by decide +kernel) ⟨Nat.le_of_ble_eq_true rfl, Nat.le_of_ble_eq_true rfl⟩) hK hP hD hS hA 2 2 tp_e2 rfl rfl rfl hl.1 rfl (Nat.le_of_ble_eq_true rfl) dX2_payBack_47 ⟨Nat.zero_le _, Nat.zero_le _⟩ (fun I9 e9 H locs hP hD hS => ?_)
        subst e9
        exact tp_reti hx hb hr hlocks hK hP hD hS rfl rfl rfl dX2_payBack_50
    · exact absurd (hx2.symm.trans c26_2) (by decide)
  · exact absurd c10_1 (by decide)
set_option maxHeartbeats 4000000 in
set_option maxRecDepth 100000 in
/-- payBack: ok -/
theorem mp_payBack_ok (l : Launch) (D : va_G) (cy : Nat → ClassId) (n : Nat) (ad : Nat → Nat) (o : Int64) (I : Nat → Nat → Int32) (h : Nat) (hh : h < 6) (hH : tp_in (nI h) 0 (I 2 2 - 1) = 1) (x : Int32) (hx2 : tp_in x 1 1000000 = 1) (hx3 : x ≤ I 10 h) : tp_I l yX2_payBack wsX2_payBack (tp_rm 2 43) D cy n ad o [.ref (ad (2)), .int (nI h), .int x] I (I 10 h - x) (tp_u (tp_u (tp_u I 2 0 0) 10 h (I 10 h - x)) 11 h (I 11 h + x)) := by
  refine tp_ofI (lv := [(0, .ref (ad (2))), (1, .int (nI h)), (2, .int x)]) (by decide) rfl (Nat.le_of_ble_eq_true rfl) rfl (fun p e s m args below meth c A ls S0 => ?_)
  obtain ⟨hx, hb, hr, hml, hown, hts, hlocks, hA, hK, hP, hD, hS, hl⟩ := S0
  refine lv_aload_n hx hb dX2_payBack_0 rfl (lv_at hl 0 rfl) ?_
  refine lv_iconst (v := 0) hx hb dX2_payBack_1 (by decide) ?_
  refine tp_put (ci := 2) (v := 0) (ty := .int) (C := RX2) (T := TX2) (N := 16) hx hb hts (fun _ h => List.mem_cons_of_mem _ (List.mem_append_right _ (h))) tyX2 tyX2_ok nmX2 hown hK hP hD hS 2 tp_e2 (by omega) rfl 0 (by decide) (hts _ (List.mem_of_getElem? (i := 1) rfl)) rfl (by decide +kernel) rfl rfl (Nat.le_of_ble_eq_true rfl) rfl dX2_payBack_2 (fun H locs hP hD hS => ?_)
  refine lv_aload_n hx hb dX2_payBack_5 rfl (lv_at hl 0 rfl) ?_
  refine lv_iload_n hx hb dX2_payBack_6 rfl (lv_at hl 1 rfl) ?_
  refine tp_callV ⟨hx, hb, hml, hown, hts⟩ (tp_eqI (mc_isHome l D cy n ad o (tp_u I 2 0 0) (nI h)) hH rfl) (cwV 1 hts gX2_payBack_X2_isHome rfl rfl rfl (by decide +kernel) ⟨Nat.le_of_ble_eq_true rfl, Nat.le_of_ble_eq_true rfl⟩) hK hP hD hS hA 2 2 tp_e2 rfl rfl rfl hl.1 rfl (Nat.le_of_ble_eq_true rfl) dX2_payBack_7 ⟨Nat.zero_le _, Nat.zero_le _⟩ (fun I9 e9 H locs hP hD hS => ?_)
  subst e9
  refine lv_if_ne (tgt := 19) hx hb dX2_payBack_10 (by decide) (fun c10_1 => ?_) (fun c10_1 => ?_)
  · refine lv_iload_n hx hb dX2_payBack_19 rfl (lv_at hl 2 rfl) ?_
    refine lv_iconst (v := 1) hx hb dX2_payBack_20 (by decide) ?_
    refine lv_ldc (v := 1000000) hx hb hown (hts _ (List.mem_of_getElem? (i := 2) rfl)) dX2_payBack_21 ?_
    refine tp_callS ⟨hx, hb, hml, hown, hts⟩ (mc_in l D cy n ad o (tp_u I 2 0 0) x 1 1000000) (va_cwS 3 hts gX2_payBack_X2_in rfl rfl rfl (by decide +kernel) ⟨Nat.le_of_ble_eq_true rfl, Nat.le_of_ble_eq_true rfl⟩) hK hP hD hS hA rfl hl.1 rfl (Nat.le_of_ble_eq_true rfl) dX2_payBack_23 ⟨Nat.zero_le _, Nat.zero_le _⟩ (fun I9 e9 H locs hP hD hS => ?_)
    subst e9
    refine lv_if_ne (tgt := 35) hx hb dX2_payBack_26 (by decide) (fun c26_2 => ?_) (fun c26_2 => ?_)
    · refine lv_aload_n hx hb dX2_payBack_35 rfl (lv_at hl 0 rfl) ?_
      refine va_get (D := D) (ci := 2) (v := .ref (ad (10))) (C := RX2) (T := TX2) (N := 16) hx hb hts (fun _ h => List.mem_cons_of_mem _ (List.mem_append_right _ (h))) hown hK hP 2 tp_e2 rfl 10 (by decide) (hts _ (List.mem_of_getElem? (i := 3) rfl)) (fun _ h9 => h9) rfl dX2_payBack_36 ?_
      refine lv_iload_n hx hb dX2_payBack_39 rfl (lv_at hl 1 rfl) ?_
      refine tp_iald hx hb hK hP 10 6 (h) (by omega) rfl rfl (by omega) (by decide) dX2_payBack_40 ?_
      refine tp_eqi (y := (I 10 h)) rfl ?_
      refine lv_iload_n hx hb dX2_payBack_41 rfl (lv_at hl 2 rfl) ?_
      refine lv_icmp_ge (tgt := 51) hx hb dX2_payBack_42 (by decide) (fun c42_3 => ?_) (fun c42_3 => ?_)
      · refine lv_aload_n hx hb dX2_payBack_51 rfl (lv_at hl 0 rfl) ?_
        refine va_get (D := D) (ci := 2) (v := .ref (ad (10))) (C := RX2) (T := TX2) (N := 16) hx hb hts (fun _ h => List.mem_cons_of_mem _ (List.mem_append_right _ (h))) hown hK hP 2 tp_e2 rfl 10 (by decide) (hts _ (List.mem_of_getElem? (i := 3) rfl)) (fun _ h9 => h9) rfl dX2_payBack_52 ?_
        refine lv_iload_n hx hb dX2_payBack_55 rfl (lv_at hl 1 rfl) ?_
        refine lv_dup2_11 hx hb dX2_payBack_56 rfl rfl ?_
        refine tp_iald hx hb hK hP 10 6 (h) (by omega) rfl rfl (by omega) (by decide) dX2_payBack_57 ?_
        refine tp_eqi (y := (I 10 h)) rfl ?_
        refine lv_iload_n hx hb dX2_payBack_58 rfl (lv_at hl 2 rfl) ?_
        refine lv_isub hx hb dX2_payBack_59 ?_
        refine tp_iast hx hb hK hP hD hS (10) 6 (h) (by omega) (fun _ => rfl) rfl (by omega) (by decide) dX2_payBack_60 (fun H locs hP hD hS => ?_)
        refine lv_aload_n hx hb dX2_payBack_61 rfl (lv_at hl 0 rfl) ?_
        refine va_get (D := D) (ci := 2) (v := .ref (ad (11))) (C := RX2) (T := TX2) (N := 16) hx hb hts (fun _ h => List.mem_cons_of_mem _ (List.mem_append_right _ (h))) hown hK hP 2 tp_e2 rfl 11 (by decide) (hts _ (List.mem_of_getElem? (i := 4) rfl)) (fun _ h9 => h9) rfl dX2_payBack_62 ?_
        refine lv_iload_n hx hb dX2_payBack_65 rfl (lv_at hl 1 rfl) ?_
        refine lv_dup2_11 hx hb dX2_payBack_66 rfl rfl ?_
        refine tp_iald hx hb hK hP 11 6 (h) (by omega) rfl rfl (by omega) (by decide) dX2_payBack_67 ?_
        refine tp_eqi (y := (I 11 h)) rfl ?_
        refine lv_iload_n hx hb dX2_payBack_68 rfl (lv_at hl 2 rfl) ?_
        refine lv_iadd hx hb dX2_payBack_69 ?_
        refine tp_iast hx hb hK hP hD hS (11) 6 (h) (by omega) (fun _ => rfl) rfl (by omega) (by decide) dX2_payBack_70 (fun H locs hP hD hS => ?_)
        refine lv_aload_n hx hb dX2_payBack_71 rfl (lv_at hl 0 rfl) ?_
        refine va_get (D := D) (ci := 2) (v := .ref (ad (10))) (C := RX2) (T := TX2) (N := 16) hx hb hts (fun _ h => List.mem_cons_of_mem _ (List.mem_append_right _ (h))) hown hK hP 2 tp_e2 rfl 10 (by decide) (hts _ (List.mem_of_getElem? (i := 3) rfl)) (fun _ h9 => h9) rfl dX2_payBack_72 ?_
        refine lv_iload_n hx hb dX2_payBack_75 rfl (lv_at hl 1 rfl) ?_
        refine tp_iald hx hb hK hP 10 6 (h) (by omega) rfl rfl (by omega) (by decide) dX2_payBack_76 ?_
        refine tp_eqi (y := ((I 10 h) - x)) (by rw [tp_u_oth (a := 10) (k := 11) (by decide), tp_u_s]) ?_
        exact tp_reti hx hb hr hlocks hK hP hD hS rfl rfl rfl dX2_payBack_77
      · exact absurd hx3 c42_3
    · exact absurd (hx2.symm.trans c26_2) (by decide)
  · exact absurd c10_1 (by decide)
set_option maxHeartbeats 4000000 in
set_option maxRecDepth 100000 in
/-- tell: no -/
theorem mp_tell_no (l : Launch) (D : va_G) (cy : Nat → ClassId) (n : Nat) (ad : Nat → Nat) (o : Int64) (I : Nat → Nat → Int32) (x f d v : Int32) (hH : tp_in x 0 (I 2 2 - 1) = 0) : tp_I l yX2_tell wsX2_tell (tp_rm 2 43) D cy n ad o [.ref (ad (2)), .int x, .int f, .int d, .int v] I (0) (tp_u (tp_u I 2 0 0) 2 0 1) := by
  refine tp_ofI (lv := [(0, .ref (ad (2))), (1, .int x), (2, .int f), (3, .int d), (4, .int v)]) (by decide) rfl (Nat.le_of_ble_eq_true rfl) rfl (fun p e s m args below meth c A ls S0 => ?_)
  obtain ⟨hx, hb, hr, hml, hown, hts, hlocks, hA, hK, hP, hD, hS, hl⟩ := S0
  refine lv_aload_n hx hb dX2_tell_0 rfl (lv_at hl 0 rfl) ?_
  refine lv_iconst (v := 0) hx hb dX2_tell_1 (by decide) ?_
  refine tp_put (ci := 2) (v := 0) (ty := .int) (C := RX2) (T := TX2) (N := 16) hx hb hts (fun _ h => List.mem_cons_of_mem _ (List.mem_append_right _ (h))) tyX2 tyX2_ok nmX2 hown hK hP hD hS 2 tp_e2 (by omega) rfl 0 (by decide) (hts _ (List.mem_of_getElem? (i := 1) rfl)) rfl (by decide +kernel) rfl rfl (Nat.le_of_ble_eq_true rfl) rfl dX2_tell_2 (fun H locs hP hD hS => ?_)
  refine lv_aload_n hx hb dX2_tell_5 rfl (lv_at hl 0 rfl) ?_
  refine lv_iload_n hx hb dX2_tell_6 rfl (lv_at hl 1 rfl) ?_
  refine tp_callV ⟨hx, hb, hml, hown, hts⟩ (tp_eqI (mc_isHome l D cy n ad o (tp_u I 2 0 0) x) hH rfl) (cwV 1 hts gX2_tell_X2_isHome rfl rfl rfl (by decide +kernel) ⟨Nat.le_of_ble_eq_true rfl, Nat.le_of_ble_eq_true rfl⟩) hK hP hD hS hA 2 2 tp_e2 rfl rfl rfl hl.1 rfl (Nat.le_of_ble_eq_true rfl) dX2_tell_7 ⟨Nat.zero_le _, Nat.zero_le _⟩ (fun I9 e9 H locs hP hD hS => ?_)
  subst e9
  refine lv_if_ne (tgt := 19) hx hb dX2_tell_10 (by decide) (fun c10_1 => ?_) (fun c10_1 => ?_)
  · exact absurd rfl c10_1
  · refine lv_aload_n hx hb dX2_tell_13 rfl (lv_at hl 0 rfl) ?_
    refine lv_iconst (v := 1) hx hb dX2_tell_14 (by decide) ?_
    refine tp_callV ⟨hx, hb, hml, hown, hts⟩ (mc_fails l D cy n ad o (tp_u I 2 0 0) 1) (cwV 1 hts gX2_tell_X2_fails rfl rfl rfl (by decide +kernel) ⟨Nat.le_of_ble_eq_true rfl, Nat.le_of_ble_eq_true rfl⟩) hK hP hD hS hA 2 2 tp_e2 rfl rfl rfl hl.1 rfl (Nat.le_of_ble_eq_true rfl) dX2_tell_15 ⟨Nat.zero_le _, Nat.zero_le _⟩ (fun I9 e9 H locs hP hD hS => ?_)
    subst e9
    exact tp_reti hx hb hr hlocks hK hP hD hS rfl rfl rfl dX2_tell_18
set_option maxHeartbeats 4000000 in
set_option maxRecDepth 100000 in
/-- tell: bad -/
theorem mp_tell_bad (l : Launch) (D : va_G) (cy : Nat → ClassId) (n : Nat) (ad : Nat → Nat) (o : Int64) (I : Nat → Nat → Int32) (h : Nat) (hh : h < 6) (hH : tp_in (nI h) 0 (I 2 2 - 1) = 1) (f d v : Int32) (hq : tp_tok f d v = 0) : tp_I l yX2_tell wsX2_tell (tp_rm 2 43) D cy n ad o [.ref (ad (2)), .int (nI h), .int f, .int d, .int v] I (0) (tp_u (tp_u I 2 0 0) 2 0 2) := by
  refine tp_ofI (lv := [(0, .ref (ad (2))), (1, .int (nI h)), (2, .int f), (3, .int d), (4, .int v)]) (by decide) rfl (Nat.le_of_ble_eq_true rfl) rfl (fun p e s m args below meth c A ls S0 => ?_)
  obtain ⟨hx, hb, hr, hml, hown, hts, hlocks, hA, hK, hP, hD, hS, hl⟩ := S0
  refine lv_aload_n hx hb dX2_tell_0 rfl (lv_at hl 0 rfl) ?_
  refine lv_iconst (v := 0) hx hb dX2_tell_1 (by decide) ?_
  refine tp_put (ci := 2) (v := 0) (ty := .int) (C := RX2) (T := TX2) (N := 16) hx hb hts (fun _ h => List.mem_cons_of_mem _ (List.mem_append_right _ (h))) tyX2 tyX2_ok nmX2 hown hK hP hD hS 2 tp_e2 (by omega) rfl 0 (by decide) (hts _ (List.mem_of_getElem? (i := 1) rfl)) rfl (by decide +kernel) rfl rfl (Nat.le_of_ble_eq_true rfl) rfl dX2_tell_2 (fun H locs hP hD hS => ?_)
  refine lv_aload_n hx hb dX2_tell_5 rfl (lv_at hl 0 rfl) ?_
  refine lv_iload_n hx hb dX2_tell_6 rfl (lv_at hl 1 rfl) ?_
  refine tp_callV ⟨hx, hb, hml, hown, hts⟩ (tp_eqI (mc_isHome l D cy n ad o (tp_u I 2 0 0) (nI h)) hH rfl) (cwV 1 hts gX2_tell_X2_isHome rfl rfl rfl (by decide +kernel) ⟨Nat.le_of_ble_eq_true rfl, Nat.le_of_ble_eq_true rfl⟩) hK hP hD hS hA 2 2 tp_e2 rfl rfl rfl hl.1 rfl (Nat.le_of_ble_eq_true rfl) dX2_tell_7 ⟨Nat.zero_le _, Nat.zero_le _⟩ (fun I9 e9 H locs hP hD hS => ?_)
  subst e9
  refine lv_if_ne (tgt := 19) hx hb dX2_tell_10 (by decide) (fun c10_1 => ?_) (fun c10_1 => ?_)
  · refine lv_iload_n hx hb dX2_tell_19 rfl (lv_at hl 2 rfl) ?_
    refine lv_iconst (v := 0) hx hb dX2_tell_20 (by decide) ?_
    refine lv_iconst (v := 4) hx hb dX2_tell_21 (by decide) ?_
    refine tp_callS ⟨hx, hb, hml, hown, hts⟩ (mc_in l D cy n ad o (tp_u I 2 0 0) f 0 4) (va_cwS 3 hts gX2_tell_X2_in rfl rfl rfl (by decide +kernel) ⟨Nat.le_of_ble_eq_true rfl, Nat.le_of_ble_eq_true rfl⟩) hK hP hD hS hA rfl hl.1 rfl (Nat.le_of_ble_eq_true rfl) dX2_tell_22 ⟨Nat.zero_le _, Nat.zero_le _⟩ (fun I9 e9 H locs hP hD hS => ?_)
    subst e9
    refine lv_if_eq (tgt := 55) hx hb dX2_tell_25 (by decide) (fun c25_2 => ?_) (fun c25_2 => ?_)
    · refine lv_aload_n hx hb dX2_tell_55 rfl (lv_at hl 0 rfl) ?_
      refine lv_iconst (v := 2) hx hb dX2_tell_56 (by decide) ?_
      refine tp_callV ⟨hx, hb, hml, hown, hts⟩ (mc_fails l D cy n ad o (tp_u I 2 0 0) 2) (cwV 1 hts gX2_tell_X2_fails rfl rfl rfl (by decide +kernel) ⟨Nat.le_of_ble_eq_true rfl, Nat.le_of_ble_eq_true rfl⟩) hK hP hD hS hA 2 2 tp_e2 rfl rfl rfl hl.1 rfl (Nat.le_of_ble_eq_true rfl) dX2_tell_57 ⟨Nat.zero_le _, Nat.zero_le _⟩ (fun I9 e9 H locs hP hD hS => ?_)
      subst e9
      exact tp_reti hx hb hr hlocks hK hP hD hS rfl rfl rfl dX2_tell_60
    · refine lv_iload_n hx hb dX2_tell_28 rfl (lv_at hl 3 rfl) ?_
      refine lv_iconst (v := 0) hx hb dX2_tell_29 (by decide) ?_
      refine lv_sipush (v := 1439) hx hb dX2_tell_30 (by decide) ?_
      refine tp_callS ⟨hx, hb, hml, hown, hts⟩ (mc_in l D cy n ad o (tp_u I 2 0 0) d 0 1439) (va_cwS 3 hts gX2_tell_X2_in rfl rfl rfl (by decide +kernel) ⟨Nat.le_of_ble_eq_true rfl, Nat.le_of_ble_eq_true rfl⟩) hK hP hD hS hA rfl hl.1 rfl (Nat.le_of_ble_eq_true rfl) dX2_tell_33 ⟨Nat.zero_le _, Nat.zero_le _⟩ (fun I9 e9 H locs hP hD hS => ?_)
      subst e9
      refine lv_if_eq (tgt := 55) hx hb dX2_tell_36 (by decide) (fun c36_3 => ?_) (fun c36_3 => ?_)
      · refine lv_aload_n hx hb dX2_tell_55 rfl (lv_at hl 0 rfl) ?_
        refine lv_iconst (v := 2) hx hb dX2_tell_56 (by decide) ?_
        refine tp_callV ⟨hx, hb, hml, hown, hts⟩ (mc_fails l D cy n ad o (tp_u I 2 0 0) 2) (cwV 1 hts gX2_tell_X2_fails rfl rfl rfl (by decide +kernel) ⟨Nat.le_of_ble_eq_true rfl, Nat.le_of_ble_eq_true rfl⟩) hK hP hD hS hA 2 2 tp_e2 rfl rfl rfl hl.1 rfl (Nat.le_of_ble_eq_true rfl) dX2_tell_57 ⟨Nat.zero_le _, Nat.zero_le _⟩ (fun I9 e9 H locs hP hD hS => ?_)
        subst e9
        exact tp_reti hx hb hr hlocks hK hP hD hS rfl rfl rfl dX2_tell_60
      · refine lv_iload hx hb dX2_tell_39 (lv_at hl 4 rfl) ?_
        refine lv_iload_n hx hb dX2_tell_41 rfl (lv_at hl 2 rfl) ?_
        refine tp_callS ⟨hx, hb, hml, hown, hts⟩ (mc_lowest l D cy n ad o (tp_u I 2 0 0) f) (va_cwS 1 hts gX2_tell_X2_lowest rfl rfl rfl (by decide +kernel) ⟨Nat.le_of_ble_eq_true rfl, Nat.le_of_ble_eq_true rfl⟩) hK hP hD hS hA rfl hl.1 rfl (Nat.le_of_ble_eq_true rfl) dX2_tell_42 ⟨Nat.zero_le _, Nat.zero_le _⟩ (fun I9 e9 H locs hP hD hS => ?_)
        subst e9
        refine lv_iload_n hx hb dX2_tell_45 rfl (lv_at hl 2 rfl) ?_
        refine tp_callS ⟨hx, hb, hml, hown, hts⟩ (mc_greatest l D cy n ad o (tp_u I 2 0 0) f) (va_cwS 1 hts gX2_tell_X2_greatest rfl rfl rfl (by decide +kernel) ⟨Nat.le_of_ble_eq_true rfl, Nat.le_of_ble_eq_true rfl⟩) hK hP hD hS hA rfl hl.1 rfl (Nat.le_of_ble_eq_true rfl) dX2_tell_46 ⟨Nat.zero_le _, Nat.zero_le _⟩ (fun I9 e9 H locs hP hD hS => ?_)
        subst e9
        refine tp_callS ⟨hx, hb, hml, hown, hts⟩ (mc_in l D cy n ad o (tp_u I 2 0 0) v (tp_low f) (tp_great f)) (va_cwS 3 hts gX2_tell_X2_in rfl rfl rfl (by decide +kernel) ⟨Nat.le_of_ble_eq_true rfl, Nat.le_of_ble_eq_true rfl⟩) hK hP hD hS hA rfl hl.1 rfl (Nat.le_of_ble_eq_true rfl) dX2_tell_49 ⟨Nat.zero_le _, Nat.zero_le _⟩ (fun I9 e9 H locs hP hD hS => ?_)
        subst e9
        refine lv_if_ne (tgt := 61) hx hb dX2_tell_52 (by decide) (fun c52_4 => ?_) (fun c52_4 => ?_)
        · exact absurd (show tp_tok f d v = 0 from hq) (by unfold tp_tok; rw [if_neg c25_2, if_neg c36_3]; exact c52_4)
        · refine lv_aload_n hx hb dX2_tell_55 rfl (lv_at hl 0 rfl) ?_
          refine lv_iconst (v := 2) hx hb dX2_tell_56 (by decide) ?_
          refine tp_callV ⟨hx, hb, hml, hown, hts⟩ (mc_fails l D cy n ad o (tp_u I 2 0 0) 2) (cwV 1 hts gX2_tell_X2_fails rfl rfl rfl (by decide +kernel) ⟨Nat.le_of_ble_eq_true rfl, Nat.le_of_ble_eq_true rfl⟩) hK hP hD hS hA 2 2 tp_e2 rfl rfl rfl hl.1 rfl (Nat.le_of_ble_eq_true rfl) dX2_tell_57 ⟨Nat.zero_le _, Nat.zero_le _⟩ (fun I9 e9 H locs hP hD hS => ?_)
          subst e9
          exact tp_reti hx hb hr hlocks hK hP hD hS rfl rfl rfl dX2_tell_60
  · exact absurd c10_1 (by decide)
set_option maxHeartbeats 4000000 in
set_option maxRecDepth 100000 in
/-- tell: full -/
theorem mp_tell_full (l : Launch) (D : va_G) (cy : Nat → ClassId) (n : Nat) (ad : Nat → Nat) (o : Int64) (I : Nat → Nat → Int32) (h : Nat) (hh : h < 6) (hH : tp_in (nI h) 0 (I 2 2 - 1) = 1) (f d v : Int32) (hq : tp_tok f d v = 1) (h100 : I 4 h = 100) : tp_I l yX2_tell wsX2_tell (tp_rm 2 43) D cy n ad o [.ref (ad (2)), .int (nI h), .int f, .int d, .int v] I (0) (tp_u (tp_u I 2 0 0) 2 0 3) := by
  refine tp_ofI (lv := [(0, .ref (ad (2))), (1, .int (nI h)), (2, .int f), (3, .int d), (4, .int v)]) (by decide) rfl (Nat.le_of_ble_eq_true rfl) rfl (fun p e s m args below meth c A ls S0 => ?_)
  obtain ⟨hx, hb, hr, hml, hown, hts, hlocks, hA, hK, hP, hD, hS, hl⟩ := S0
  refine lv_aload_n hx hb dX2_tell_0 rfl (lv_at hl 0 rfl) ?_
  refine lv_iconst (v := 0) hx hb dX2_tell_1 (by decide) ?_
  refine tp_put (ci := 2) (v := 0) (ty := .int) (C := RX2) (T := TX2) (N := 16) hx hb hts (fun _ h => List.mem_cons_of_mem _ (List.mem_append_right _ (h))) tyX2 tyX2_ok nmX2 hown hK hP hD hS 2 tp_e2 (by omega) rfl 0 (by decide) (hts _ (List.mem_of_getElem? (i := 1) rfl)) rfl (by decide +kernel) rfl rfl (Nat.le_of_ble_eq_true rfl) rfl dX2_tell_2 (fun H locs hP hD hS => ?_)
  refine lv_aload_n hx hb dX2_tell_5 rfl (lv_at hl 0 rfl) ?_
  refine lv_iload_n hx hb dX2_tell_6 rfl (lv_at hl 1 rfl) ?_
  refine tp_callV ⟨hx, hb, hml, hown, hts⟩ (tp_eqI (mc_isHome l D cy n ad o (tp_u I 2 0 0) (nI h)) hH rfl) (cwV 1 hts gX2_tell_X2_isHome rfl rfl rfl (by decide +kernel) ⟨Nat.le_of_ble_eq_true rfl, Nat.le_of_ble_eq_true rfl⟩) hK hP hD hS hA 2 2 tp_e2 rfl rfl rfl hl.1 rfl (Nat.le_of_ble_eq_true rfl) dX2_tell_7 ⟨Nat.zero_le _, Nat.zero_le _⟩ (fun I9 e9 H locs hP hD hS => ?_)
  subst e9
  refine lv_if_ne (tgt := 19) hx hb dX2_tell_10 (by decide) (fun c10_1 => ?_) (fun c10_1 => ?_)
  · refine lv_iload_n hx hb dX2_tell_19 rfl (lv_at hl 2 rfl) ?_
    refine lv_iconst (v := 0) hx hb dX2_tell_20 (by decide) ?_
    refine lv_iconst (v := 4) hx hb dX2_tell_21 (by decide) ?_
    refine tp_callS ⟨hx, hb, hml, hown, hts⟩ (mc_in l D cy n ad o (tp_u I 2 0 0) f 0 4) (va_cwS 3 hts gX2_tell_X2_in rfl rfl rfl (by decide +kernel) ⟨Nat.le_of_ble_eq_true rfl, Nat.le_of_ble_eq_true rfl⟩) hK hP hD hS hA rfl hl.1 rfl (Nat.le_of_ble_eq_true rfl) dX2_tell_22 ⟨Nat.zero_le _, Nat.zero_le _⟩ (fun I9 e9 H locs hP hD hS => ?_)
    subst e9
    refine lv_if_eq (tgt := 55) hx hb dX2_tell_25 (by decide) (fun c25_2 => ?_) (fun c25_2 => ?_)
    · exact absurd (hq.symm.trans (show tp_tok f d v = 0 by unfold tp_tok; rw [if_pos c25_2])) (by decide)
    · refine lv_iload_n hx hb dX2_tell_28 rfl (lv_at hl 3 rfl) ?_
      refine lv_iconst (v := 0) hx hb dX2_tell_29 (by decide) ?_
      refine lv_sipush (v := 1439) hx hb dX2_tell_30 (by decide) ?_
      refine tp_callS ⟨hx, hb, hml, hown, hts⟩ (mc_in l D cy n ad o (tp_u I 2 0 0) d 0 1439) (va_cwS 3 hts gX2_tell_X2_in rfl rfl rfl (by decide +kernel) ⟨Nat.le_of_ble_eq_true rfl, Nat.le_of_ble_eq_true rfl⟩) hK hP hD hS hA rfl hl.1 rfl (Nat.le_of_ble_eq_true rfl) dX2_tell_33 ⟨Nat.zero_le _, Nat.zero_le _⟩ (fun I9 e9 H locs hP hD hS => ?_)
      subst e9
      refine lv_if_eq (tgt := 55) hx hb dX2_tell_36 (by decide) (fun c36_3 => ?_) (fun c36_3 => ?_)
      · exact absurd (hq.symm.trans (show tp_tok f d v = 0 by unfold tp_tok; rw [if_neg c25_2, if_pos c36_3])) (by decide)
      · refine lv_iload hx hb dX2_tell_39 (lv_at hl 4 rfl) ?_
        refine lv_iload_n hx hb dX2_tell_41 rfl (lv_at hl 2 rfl) ?_
        refine tp_callS ⟨hx, hb, hml, hown, hts⟩ (mc_lowest l D cy n ad o (tp_u I 2 0 0) f) (va_cwS 1 hts gX2_tell_X2_lowest rfl rfl rfl (by decide +kernel) ⟨Nat.le_of_ble_eq_true rfl, Nat.le_of_ble_eq_true rfl⟩) hK hP hD hS hA rfl hl.1 rfl (Nat.le_of_ble_eq_true rfl) dX2_tell_42 ⟨Nat.zero_le _, Nat.zero_le _⟩ (fun I9 e9 H locs hP hD hS => ?_)
        subst e9
        refine lv_iload_n hx hb dX2_tell_45 rfl (lv_at hl 2 rfl) ?_
        refine tp_callS ⟨hx, hb, hml, hown, hts⟩ (mc_greatest l D cy n ad o (tp_u I 2 0 0) f) (va_cwS 1 hts gX2_tell_X2_greatest rfl rfl rfl (by decide +kernel) ⟨Nat.le_of_ble_eq_true rfl, Nat.le_of_ble_eq_true rfl⟩) hK hP hD hS hA rfl hl.1 rfl (Nat.le_of_ble_eq_true rfl) dX2_tell_46 ⟨Nat.zero_le _, Nat.zero_le _⟩ (fun I9 e9 H locs hP hD hS => ?_)
        subst e9
        refine tp_callS ⟨hx, hb, hml, hown, hts⟩ (mc_in l D cy n ad o (tp_u I 2 0 0) v (tp_low f) (tp_great f)) (va_cwS 3 hts gX2_tell_X2_in rfl rfl rfl (by decide +kernel) ⟨Nat.le_of_ble_eq_true rfl, Nat.le_of_ble_eq_true rfl⟩) hK hP hD hS hA rfl hl.1 rfl (Nat.le_of_ble_eq_true rfl) dX2_tell_49 ⟨Nat.zero_le _, Nat.zero_le _⟩ (fun I9 e9 H locs hP hD hS => ?_)
        subst e9
        refine lv_if_ne (tgt := 61) hx hb dX2_tell_52 (by decide) (fun c52_4 => ?_) (fun c52_4 => ?_)
        · refine lv_aload_n hx hb dX2_tell_61 rfl (lv_at hl 0 rfl) ?_
          refine va_get (D := D) (ci := 2) (v := .ref (ad (4))) (C := RX2) (T := TX2) (N := 16) hx hb hts (fun _ h => List.mem_cons_of_mem _ (List.mem_append_right _ (h))) hown hK hP 2 tp_e2 rfl 4 (by decide) (hts _ (List.mem_of_getElem? (i := 2) rfl)) (fun _ h9 => h9) rfl dX2_tell_62 ?_
          refine lv_iload_n hx hb dX2_tell_65 rfl (lv_at hl 1 rfl) ?_
          refine tp_iald hx hb hK hP 4 6 (h) (by omega) rfl rfl (by omega) (by decide) dX2_tell_66 ?_
          refine tp_eqi (y := (I 4 h)) rfl ?_
          refine lv_bipush (v := 100) hx hb dX2_tell_67 (by decide) ?_
          refine lv_icmp_ne (tgt := 78) hx hb dX2_tell_69 (by decide) (fun c69_5 => ?_) (fun c69_5 => ?_)
          · exact absurd h100 c69_5
          · refine lv_aload_n hx hb dX2_tell_72 rfl (lv_at hl 0 rfl) ?_
            refine lv_iconst (v := 3) hx hb dX2_tell_73 (by decide) ?_
            refine tp_callV ⟨hx, hb, hml, hown, hts⟩ (mc_fails l D cy n ad o (tp_u I 2 0 0) 3) (cwV 1 hts gX2_tell_X2_fails rfl rfl rfl (by decide +kernel) ⟨Nat.le_of_ble_eq_true rfl, Nat.le_of_ble_eq_true rfl⟩) hK hP hD hS hA 2 2 tp_e2 rfl rfl rfl hl.1 rfl (Nat.le_of_ble_eq_true rfl) dX2_tell_74 ⟨Nat.zero_le _, Nat.zero_le _⟩ (fun I9 e9 H locs hP hD hS => ?_)
            subst e9
            exact tp_reti hx hb hr hlocks hK hP hD hS rfl rfl rfl dX2_tell_77
        · exact absurd (hq.symm.trans (show tp_tok f d v = 0 by unfold tp_tok; rw [if_neg c25_2, if_neg c36_3]; exact c52_4)) (by decide)
  · exact absurd c10_1 (by decide)
set_option maxHeartbeats 4000000 in
set_option maxRecDepth 100000 in
/-- tell: ok -/
theorem mp_tell_ok (l : Launch) (D : va_G) (cy : Nat → ClassId) (n : Nat) (ad : Nat → Nat) (o : Int64) (I : Nat → Nat → Int32) (h : Nat) (hh : h < 6) (hH : tp_in (nI h) 0 (I 2 2 - 1) = 1) (f d v : Int32) (hq : tp_tok f d v = 1) (c0 : Nat) (hc0 : I 4 h = nI c0) (hc100 : c0 < 100) : tp_I l yX2_tell wsX2_tell (tp_rm 2 43) D cy n ad o [.ref (ad (2)), .int (nI h), .int f, .int d, .int v] I (d / 30 + (if 15 ≤ d - d / 30 * 30 then 1 else 0)) (tp_u (tp_u (tp_u (tp_u (tp_u I 2 0 0) 5 (100 * h + c0) f) 6 (100 * h + c0) (d / 30 + (if 15 ≤ d - d / 30 * 30 then 1 else 0))) 7 (100 * h + c0) v) 4 h (nI (c0 + 1))) := by
  refine tp_ofI (lv := [(0, .ref (ad (2))), (1, .int (nI h)), (2, .int f), (3, .int d), (4, .int v)]) (by decide) rfl (Nat.le_of_ble_eq_true rfl) rfl (fun p e s m args below meth c A ls S0 => ?_)
  obtain ⟨hx, hb, hr, hml, hown, hts, hlocks, hA, hK, hP, hD, hS, hl⟩ := S0
  refine lv_aload_n hx hb dX2_tell_0 rfl (lv_at hl 0 rfl) ?_
  refine lv_iconst (v := 0) hx hb dX2_tell_1 (by decide) ?_
  refine tp_put (ci := 2) (v := 0) (ty := .int) (C := RX2) (T := TX2) (N := 16) hx hb hts (fun _ h => List.mem_cons_of_mem _ (List.mem_append_right _ (h))) tyX2 tyX2_ok nmX2 hown hK hP hD hS 2 tp_e2 (by omega) rfl 0 (by decide) (hts _ (List.mem_of_getElem? (i := 1) rfl)) rfl (by decide +kernel) rfl rfl (Nat.le_of_ble_eq_true rfl) rfl dX2_tell_2 (fun H locs hP hD hS => ?_)
  refine lv_aload_n hx hb dX2_tell_5 rfl (lv_at hl 0 rfl) ?_
  refine lv_iload_n hx hb dX2_tell_6 rfl (lv_at hl 1 rfl) ?_
  refine tp_callV ⟨hx, hb, hml, hown, hts⟩ (tp_eqI (mc_isHome l D cy n ad o (tp_u I 2 0 0) (nI h)) hH rfl) (cwV 1 hts gX2_tell_X2_isHome rfl rfl rfl (by decide +kernel) ⟨Nat.le_of_ble_eq_true rfl, Nat.le_of_ble_eq_true rfl⟩) hK hP hD hS hA 2 2 tp_e2 rfl rfl rfl hl.1 rfl (Nat.le_of_ble_eq_true rfl) dX2_tell_7 ⟨Nat.zero_le _, Nat.zero_le _⟩ (fun I9 e9 H locs hP hD hS => ?_)
  subst e9
  refine lv_if_ne (tgt := 19) hx hb dX2_tell_10 (by decide) (fun c10_1 => ?_) (fun c10_1 => ?_)
  · refine lv_iload_n hx hb dX2_tell_19 rfl (lv_at hl 2 rfl) ?_
    refine lv_iconst (v := 0) hx hb dX2_tell_20 (by decide) ?_
    refine lv_iconst (v := 4) hx hb dX2_tell_21 (by decide) ?_
    refine tp_callS ⟨hx, hb, hml, hown, hts⟩ (mc_in l D cy n ad o (tp_u I 2 0 0) f 0 4) (va_cwS 3 hts gX2_tell_X2_in rfl rfl rfl (by decide +kernel) ⟨Nat.le_of_ble_eq_true rfl, Nat.le_of_ble_eq_true rfl⟩) hK hP hD hS hA rfl hl.1 rfl (Nat.le_of_ble_eq_true rfl) dX2_tell_22 ⟨Nat.zero_le _, Nat.zero_le _⟩ (fun I9 e9 H locs hP hD hS => ?_)
    subst e9
    refine lv_if_eq (tgt := 55) hx hb dX2_tell_25 (by decide) (fun c25_2 => ?_) (fun c25_2 => ?_)
    · exact absurd (hq.symm.trans (show tp_tok f d v = 0 by unfold tp_tok; rw [if_pos c25_2])) (by decide)
    · refine lv_iload_n hx hb dX2_tell_28 rfl (lv_at hl 3 rfl) ?_
      refine lv_iconst (v := 0) hx hb dX2_tell_29 (by decide) ?_
      refine lv_sipush (v := 1439) hx hb dX2_tell_30 (by decide) ?_
      refine tp_callS ⟨hx, hb, hml, hown, hts⟩ (mc_in l D cy n ad o (tp_u I 2 0 0) d 0 1439) (va_cwS 3 hts gX2_tell_X2_in rfl rfl rfl (by decide +kernel) ⟨Nat.le_of_ble_eq_true rfl, Nat.le_of_ble_eq_true rfl⟩) hK hP hD hS hA rfl hl.1 rfl (Nat.le_of_ble_eq_true rfl) dX2_tell_33 ⟨Nat.zero_le _, Nat.zero_le _⟩ (fun I9 e9 H locs hP hD hS => ?_)
      subst e9
      refine lv_if_eq (tgt := 55) hx hb dX2_tell_36 (by decide) (fun c36_3 => ?_) (fun c36_3 => ?_)
      · exact absurd (hq.symm.trans (show tp_tok f d v = 0 by unfold tp_tok; rw [if_neg c25_2, if_pos c36_3])) (by decide)
      · refine lv_iload hx hb dX2_tell_39 (lv_at hl 4 rfl) ?_
        refine lv_iload_n hx hb dX2_tell_41 rfl (lv_at hl 2 rfl) ?_
        refine tp_callS ⟨hx, hb, hml, hown, hts⟩ (mc_lowest l D cy n ad o (tp_u I 2 0 0) f) (va_cwS 1 hts gX2_tell_X2_lowest rfl rfl rfl (by decide +kernel) ⟨Nat.le_of_ble_eq_true rfl, Nat.le_of_ble_eq_true rfl⟩) hK hP hD hS hA rfl hl.1 rfl (Nat.le_of_ble_eq_true rfl) dX2_tell_42 ⟨Nat.zero_le _, Nat.zero_le _⟩ (fun I9 e9 H locs hP hD hS => ?_)
        subst e9
        refine lv_iload_n hx hb dX2_tell_45 rfl (lv_at hl 2 rfl) ?_
        refine tp_callS ⟨hx, hb, hml, hown, hts⟩ (mc_greatest l D cy n ad o (tp_u I 2 0 0) f) (va_cwS 1 hts gX2_tell_X2_greatest rfl rfl rfl (by decide +kernel) ⟨Nat.le_of_ble_eq_true rfl, Nat.le_of_ble_eq_true rfl⟩) hK hP hD hS hA rfl hl.1 rfl (Nat.le_of_ble_eq_true rfl) dX2_tell_46 ⟨Nat.zero_le _, Nat.zero_le _⟩ (fun I9 e9 H locs hP hD hS => ?_)
        subst e9
        refine tp_callS ⟨hx, hb, hml, hown, hts⟩ (mc_in l D cy n ad o (tp_u I 2 0 0) v (tp_low f) (tp_great f)) (va_cwS 3 hts gX2_tell_X2_in rfl rfl rfl (by decide +kernel) ⟨Nat.le_of_ble_eq_true rfl, Nat.le_of_ble_eq_true rfl⟩) hK hP hD hS hA rfl hl.1 rfl (Nat.le_of_ble_eq_true rfl) dX2_tell_49 ⟨Nat.zero_le _, Nat.zero_le _⟩ (fun I9 e9 H locs hP hD hS => ?_)
        subst e9
        refine lv_if_ne (tgt := 61) hx hb dX2_tell_52 (by decide) (fun c52_4 => ?_) (fun c52_4 => ?_)
        · refine lv_aload_n hx hb dX2_tell_61 rfl (lv_at hl 0 rfl) ?_
          refine va_get (D := D) (ci := 2) (v := .ref (ad (4))) (C := RX2) (T := TX2) (N := 16) hx hb hts (fun _ h => List.mem_cons_of_mem _ (List.mem_append_right _ (h))) hown hK hP 2 tp_e2 rfl 4 (by decide) (hts _ (List.mem_of_getElem? (i := 2) rfl)) (fun _ h9 => h9) rfl dX2_tell_62 ?_
          refine lv_iload_n hx hb dX2_tell_65 rfl (lv_at hl 1 rfl) ?_
          refine tp_iald hx hb hK hP 4 6 (h) (by omega) rfl rfl (by omega) (by decide) dX2_tell_66 ?_
          refine tp_eqi (y := (I 4 h)) rfl ?_
          refine tp_eqi (y := nI c0) hc0 ?_
          refine lv_bipush (v := 100) hx hb dX2_tell_67 (by decide) ?_
          refine lv_icmp_ne (tgt := 78) hx hb dX2_tell_69 (by decide) (fun c69_5 => ?_) (fun c69_5 => ?_)
          · refine lv_bipush (v := 100) hx hb dX2_tell_78 (by decide) ?_
            refine lv_iload_n hx hb dX2_tell_80 rfl (lv_at hl 1 rfl) ?_
            refine lv_imul hx hb dX2_tell_81 ?_
            refine tp_eqi (y := nI (100 * h)) (pk_mul 100 h) ?_
            refine lv_aload_n hx hb dX2_tell_82 rfl (lv_at hl 0 rfl) ?_
            refine va_get (D := D) (ci := 2) (v := .ref (ad (4))) (C := RX2) (T := TX2) (N := 16) hx hb hts (fun _ h => List.mem_cons_of_mem _ (List.mem_append_right _ (h))) hown hK hP 2 tp_e2 rfl 4 (by decide) (hts _ (List.mem_of_getElem? (i := 2) rfl)) (fun _ h9 => h9) rfl dX2_tell_83 ?_
            refine lv_iload_n hx hb dX2_tell_86 rfl (lv_at hl 1 rfl) ?_
            refine tp_iald hx hb hK hP 4 6 (h) (by omega) rfl rfl (by omega) (by decide) dX2_tell_87 ?_
            refine tp_eqi (y := (I 4 h)) rfl ?_
            refine tp_eqi (y := nI c0) hc0 ?_
            refine lv_iadd hx hb dX2_tell_88 ?_
            refine tp_eqi (y := nI ((100 * h) + c0)) (nI_add (100 * h) c0) ?_
            refine lv_istore (lv' := [(5, .int (nI ((100 * h) + c0))), (0, .ref (ad (2))), (1, .int (nI h)), (2, .int f), (3, .int d), (4, .int v)]) hx hb dX2_tell_89 hl (by decide) rfl (fun ls hl => ?_)
            refine lv_aload_n hx hb dX2_tell_91 rfl (lv_at hl 1 rfl) ?_
            refine va_get (D := D) (ci := 2) (v := .ref (ad (5))) (C := RX2) (T := TX2) (N := 16) hx hb hts (fun _ h => List.mem_cons_of_mem _ (List.mem_append_right _ (h))) hown hK hP 2 tp_e2 rfl 5 (by decide) (hts _ (List.mem_of_getElem? (i := 3) rfl)) (fun _ h9 => h9) rfl dX2_tell_92 ?_
            refine lv_iload hx hb dX2_tell_95 (lv_at hl 0 rfl) ?_
            refine lv_iload_n hx hb dX2_tell_97 rfl (lv_at hl 3 rfl) ?_
            refine tp_iast hx hb hK hP hD hS (5) 600 (((100 * h) + c0)) (by omega) (fun _ => rfl) rfl (by omega) (by decide) dX2_tell_98 (fun H locs hP hD hS => ?_)
            refine lv_aload_n hx hb dX2_tell_99 rfl (lv_at hl 1 rfl) ?_
            refine va_get (D := D) (ci := 2) (v := .ref (ad (6))) (C := RX2) (T := TX2) (N := 16) hx hb hts (fun _ h => List.mem_cons_of_mem _ (List.mem_append_right _ (h))) hown hK hP 2 tp_e2 rfl 6 (by decide) (hts _ (List.mem_of_getElem? (i := 4) rfl)) (fun _ h9 => h9) rfl dX2_tell_100 ?_
            refine lv_iload hx hb dX2_tell_103 (lv_at hl 0 rfl) ?_
            refine lv_iload_n hx hb dX2_tell_105 rfl (lv_at hl 4 rfl) ?_
            refine lv_bipush (v := 30) hx hb dX2_tell_106 (by decide) ?_
            refine lv_idiv hx hb dX2_tell_108 (by decide) ?_
            refine tp_meetH (D := D) (cy := cy) (n := n) (ad := ad) (I := tp_u (tp_u I 2 0 0) 5 ((100 * h) + c0) f) (o := o) (A := A) (H0 := s.heap) (if 15 ≤ d - d / 30 * 30 then 1 else 0 : Int32) (fun y => F0 m 123 ls (.int y :: [.int (d / 30), .int (nI ((100 * h) + c0)), .ref (ad (6))])) (fun hj123 => ?_) (fun H locs hP hD hS => ?_)
            · refine lv_iload_n hx hb dX2_tell_109 rfl (lv_at hl 4 rfl) ?_
              refine lv_bipush (v := 30) hx hb dX2_tell_110 (by decide) ?_
              refine lv_irem hx hb dX2_tell_112 (by decide) ?_
              refine lv_bipush (v := 15) hx hb dX2_tell_113 (by decide) ?_
              refine lv_icmp_ge (tgt := 122) hx hb dX2_tell_115 (by decide) (fun c115_6 => ?_) (fun c115_6 => ?_)
              · refine lv_iconst (v := 1) hx hb dX2_tell_122 (by decide) ?_
                exact hj123 _ (by rw [if_pos c115_6]) H locs hP hD hS
              · refine lv_iconst (v := 0) hx hb dX2_tell_118 (by decide) ?_
                refine lv_goto (tgt := 123) hx hb dX2_tell_119 (by decide) ?_
                exact hj123 _ (by rw [if_neg c115_6]) H locs hP hD hS
            refine lv_iadd hx hb dX2_tell_123 ?_
            refine tp_iast hx hb hK hP hD hS (6) 600 (((100 * h) + c0)) (by omega) (fun _ => rfl) rfl (by omega) (by decide) dX2_tell_124 (fun H locs hP hD hS => ?_)
            refine lv_aload_n hx hb dX2_tell_125 rfl (lv_at hl 1 rfl) ?_
            refine va_get (D := D) (ci := 2) (v := .ref (ad (7))) (C := RX2) (T := TX2) (N := 16) hx hb hts (fun _ h => List.mem_cons_of_mem _ (List.mem_append_right _ (h))) hown hK hP 2 tp_e2 rfl 7 (by decide) (hts _ (List.mem_of_getElem? (i := 5) rfl)) (fun _ h9 => h9) rfl dX2_tell_126 ?_
            refine lv_iload hx hb dX2_tell_129 (lv_at hl 0 rfl) ?_
            refine lv_iload hx hb dX2_tell_131 (lv_at hl 5 rfl) ?_
            refine tp_iast hx hb hK hP hD hS (7) 600 (((100 * h) + c0)) (by omega) (fun _ => rfl) rfl (by omega) (by decide) dX2_tell_133 (fun H locs hP hD hS => ?_)
            refine lv_aload_n hx hb dX2_tell_134 rfl (lv_at hl 1 rfl) ?_
            refine va_get (D := D) (ci := 2) (v := .ref (ad (4))) (C := RX2) (T := TX2) (N := 16) hx hb hts (fun _ h => List.mem_cons_of_mem _ (List.mem_append_right _ (h))) hown hK hP 2 tp_e2 rfl 4 (by decide) (hts _ (List.mem_of_getElem? (i := 2) rfl)) (fun _ h9 => h9) rfl dX2_tell_135 ?_
            refine lv_iload_n hx hb dX2_tell_138 rfl (lv_at hl 2 rfl) ?_
            refine lv_dup2_11 hx hb dX2_tell_139 rfl rfl ?_
            refine tp_iald hx hb hK hP 4 6 (h) (by omega) rfl rfl (by omega) (by decide) dX2_tell_140 ?_
            refine tp_eqi (y := (I 4 h)) rfl ?_
            refine tp_eqi (y := nI c0) hc0 ?_
            refine lv_iconst (v := 1) hx hb dX2_tell_141 (by decide) ?_
            refine lv_iadd hx hb dX2_tell_142 ?_
            refine tp_eqi (y := nI (c0 + 1)) (nI_add c0 1) ?_
            refine tp_iast hx hb hK hP hD hS (4) 6 (h) (by omega) (fun _ => rfl) rfl (by omega) (by decide) dX2_tell_143 (fun H locs hP hD hS => ?_)
            refine lv_aload_n hx hb dX2_tell_144 rfl (lv_at hl 1 rfl) ?_
            refine va_get (D := D) (ci := 2) (v := .ref (ad (6))) (C := RX2) (T := TX2) (N := 16) hx hb hts (fun _ h => List.mem_cons_of_mem _ (List.mem_append_right _ (h))) hown hK hP 2 tp_e2 rfl 6 (by decide) (hts _ (List.mem_of_getElem? (i := 4) rfl)) (fun _ h9 => h9) rfl dX2_tell_145 ?_
            refine lv_iload hx hb dX2_tell_148 (lv_at hl 0 rfl) ?_
            refine tp_iald hx hb hK hP 6 600 (((100 * h) + c0)) (by omega) rfl rfl (by omega) (by decide) dX2_tell_150 ?_
            refine tp_eqi (y := ((d / 30) + (if 15 ≤ d - d / 30 * 30 then 1 else 0))) (by rw [tp_u_oth (a := 6) (k := 4) (by decide), tp_u_oth (a := 6) (k := 7) (by decide), tp_u_s]) ?_
            exact tp_reti hx hb hr hlocks hK hP hD hS rfl rfl rfl dX2_tell_151
          · exact absurd ((nI_eq (by omega) (by decide)).mp (show nI c0 = nI 100 from c69_5)) (by omega)
        · exact absurd (hq.symm.trans (show tp_tok f d v = 0 by unfold tp_tok; rw [if_neg c25_2, if_neg c36_3]; exact c52_4)) (by decide)
  · exact absurd c10_1 (by decide)
set_option maxHeartbeats 4000000 in
set_option maxRecDepth 100000 in
/-- add: full -/
theorem mp_add_full (l : Launch) (D : va_G) (cy : Nat → ClassId) (n : Nat) (ad : Nat → Nat) (o : Int64) (I : Nat → Nat → Int32) (hf : I 2 2 = 6) : tp_I l yX2_add wsX2_add (tp_rm 1 21) D cy n ad o [.ref (ad (2))] I (0) (tp_u (tp_u I 2 0 0) 2 0 1) := by
  refine tp_ofI (lv := [(0, .ref (ad (2)))]) (by decide) rfl (Nat.le_of_ble_eq_true rfl) rfl (fun p e s m args below meth c A ls S0 => ?_)
  obtain ⟨hx, hb, hr, hml, hown, hts, hlocks, hA, hK, hP, hD, hS, hl⟩ := S0
  refine lv_aload_n hx hb dX2_add_0 rfl (lv_at hl 0 rfl) ?_
  refine lv_iconst (v := 0) hx hb dX2_add_1 (by decide) ?_
  refine tp_put (ci := 2) (v := 0) (ty := .int) (C := RX2) (T := TX2) (N := 16) hx hb hts (fun _ h => List.mem_cons_of_mem _ (List.mem_append_right _ (h))) tyX2 tyX2_ok nmX2 hown hK hP hD hS 2 tp_e2 (by omega) rfl 0 (by decide) (hts _ (List.mem_of_getElem? (i := 1) rfl)) rfl (by decide +kernel) rfl rfl (Nat.le_of_ble_eq_true rfl) rfl dX2_add_2 (fun H locs hP hD hS => ?_)
  refine lv_aload_n hx hb dX2_add_5 rfl (lv_at hl 0 rfl) ?_
  refine va_get (D := D) (ci := 2) (v := .int (I 2 2)) (C := RX2) (T := TX2) (N := 16) hx hb hts (fun _ h => List.mem_cons_of_mem _ (List.mem_append_right _ (h))) hown hK hP 2 tp_e2 rfl 2 (by decide) (hts _ (List.mem_of_getElem? (i := 2) rfl)) (fun _ h9 => h9) rfl dX2_add_6 ?_
  refine lv_bipush (v := 6) hx hb dX2_add_9 (by decide) ?_
  refine lv_icmp_eq (tgt := 23) hx hb dX2_add_11 (by decide) (fun c11_1 => ?_) (fun c11_1 => ?_)
  · refine lv_aload_n hx hb dX2_add_23 rfl (lv_at hl 0 rfl) ?_
    refine lv_iconst (v := 1) hx hb dX2_add_24 (by decide) ?_
    refine tp_callV ⟨hx, hb, hml, hown, hts⟩ (mc_fails l D cy n ad o (tp_u I 2 0 0) 1) (cwV 1 hts gX2_add_X2_fails rfl rfl rfl (by decide +kernel) ⟨Nat.le_of_ble_eq_true rfl, Nat.le_of_ble_eq_true rfl⟩) hK hP hD hS hA 2 2 tp_e2 rfl rfl rfl hl.1 rfl (Nat.le_of_ble_eq_true rfl) dX2_add_25 ⟨Nat.zero_le _, Nat.zero_le _⟩ (fun I9 e9 H locs hP hD hS => ?_)
    subst e9
    exact tp_reti hx hb hr hlocks hK hP hD hS rfl rfl rfl dX2_add_28
  · exact absurd hf c11_1
set_option maxHeartbeats 4000000 in
set_option maxRecDepth 100000 in
/-- add: end -/
theorem mp_add_end (l : Launch) (D : va_G) (cy : Nat → ClassId) (n : Nat) (ad : Nat → Nat) (o : Int64) (I : Nat → Nat → Int32) (hf : ¬ I 2 2 = 6) (he : I 2 1 = 48) : tp_I l yX2_add wsX2_add (tp_rm 1 21) D cy n ad o [.ref (ad (2))] I (0) (tp_u (tp_u I 2 0 0) 2 0 1) := by
  refine tp_ofI (lv := [(0, .ref (ad (2)))]) (by decide) rfl (Nat.le_of_ble_eq_true rfl) rfl (fun p e s m args below meth c A ls S0 => ?_)
  obtain ⟨hx, hb, hr, hml, hown, hts, hlocks, hA, hK, hP, hD, hS, hl⟩ := S0
  refine lv_aload_n hx hb dX2_add_0 rfl (lv_at hl 0 rfl) ?_
  refine lv_iconst (v := 0) hx hb dX2_add_1 (by decide) ?_
  refine tp_put (ci := 2) (v := 0) (ty := .int) (C := RX2) (T := TX2) (N := 16) hx hb hts (fun _ h => List.mem_cons_of_mem _ (List.mem_append_right _ (h))) tyX2 tyX2_ok nmX2 hown hK hP hD hS 2 tp_e2 (by omega) rfl 0 (by decide) (hts _ (List.mem_of_getElem? (i := 1) rfl)) rfl (by decide +kernel) rfl rfl (Nat.le_of_ble_eq_true rfl) rfl dX2_add_2 (fun H locs hP hD hS => ?_)
  refine lv_aload_n hx hb dX2_add_5 rfl (lv_at hl 0 rfl) ?_
  refine va_get (D := D) (ci := 2) (v := .int (I 2 2)) (C := RX2) (T := TX2) (N := 16) hx hb hts (fun _ h => List.mem_cons_of_mem _ (List.mem_append_right _ (h))) hown hK hP 2 tp_e2 rfl 2 (by decide) (hts _ (List.mem_of_getElem? (i := 2) rfl)) (fun _ h9 => h9) rfl dX2_add_6 ?_
  refine lv_bipush (v := 6) hx hb dX2_add_9 (by decide) ?_
  refine lv_icmp_eq (tgt := 23) hx hb dX2_add_11 (by decide) (fun c11_1 => ?_) (fun c11_1 => ?_)
  · exact absurd c11_1 hf
  · refine lv_aload_n hx hb dX2_add_14 rfl (lv_at hl 0 rfl) ?_
    refine va_get (D := D) (ci := 2) (v := .int (I 2 1)) (C := RX2) (T := TX2) (N := 16) hx hb hts (fun _ h => List.mem_cons_of_mem _ (List.mem_append_right _ (h))) hown hK hP 2 tp_e2 rfl 1 (by decide) (hts _ (List.mem_of_getElem? (i := 3) rfl)) (fun _ h9 => h9) rfl dX2_add_15 ?_
    refine lv_bipush (v := 48) hx hb dX2_add_18 (by decide) ?_
    refine lv_icmp_ne (tgt := 29) hx hb dX2_add_20 (by decide) (fun c20_2 => ?_) (fun c20_2 => ?_)
    · exact absurd he c20_2
    · refine lv_aload_n hx hb dX2_add_23 rfl (lv_at hl 0 rfl) ?_
      refine lv_iconst (v := 1) hx hb dX2_add_24 (by decide) ?_
      refine tp_callV ⟨hx, hb, hml, hown, hts⟩ (mc_fails l D cy n ad o (tp_u I 2 0 0) 1) (cwV 1 hts gX2_add_X2_fails rfl rfl rfl (by decide +kernel) ⟨Nat.le_of_ble_eq_true rfl, Nat.le_of_ble_eq_true rfl⟩) hK hP hD hS hA 2 2 tp_e2 rfl rfl rfl hl.1 rfl (Nat.le_of_ble_eq_true rfl) dX2_add_25 ⟨Nat.zero_le _, Nat.zero_le _⟩ (fun I9 e9 H locs hP hD hS => ?_)
      subst e9
      exact tp_reti hx hb hr hlocks hK hP hD hS rfl rfl rfl dX2_add_28
set_option maxHeartbeats 4000000 in
set_option maxRecDepth 100000 in
/-- add: ok -/
theorem mp_add_ok (l : Launch) (D : va_G) (cy : Nat → ClassId) (n : Nat) (ad : Nat → Nat) (o : Int64) (I : Nat → Nat → Int32) (n0 : Nat) (hn0 : I 2 2 = nI n0) (hn6 : n0 < 6) (he : ¬ I 2 1 = 48) : tp_I l yX2_add wsX2_add (tp_rm 0 0) D cy n ad o [.ref (ad (2))] I (nI n0) (tp_u (tp_u (tp_u I 2 0 0) 3 n0 (I 2 1)) 2 2 (nI (n0 + 1))) := by
  refine tp_ofI (lv := [(0, .ref (ad (2)))]) (by decide) rfl (Nat.le_of_ble_eq_true rfl) rfl (fun p e s m args below meth c A ls S0 => ?_)
  obtain ⟨hx, hb, hr, hml, hown, hts, hlocks, hA, hK, hP, hD, hS, hl⟩ := S0
  refine lv_aload_n hx hb dX2_add_0 rfl (lv_at hl 0 rfl) ?_
  refine lv_iconst (v := 0) hx hb dX2_add_1 (by decide) ?_
  refine tp_put (ci := 2) (v := 0) (ty := .int) (C := RX2) (T := TX2) (N := 16) hx hb hts (fun _ h => List.mem_cons_of_mem _ (List.mem_append_right _ (h))) tyX2 tyX2_ok nmX2 hown hK hP hD hS 2 tp_e2 (by omega) rfl 0 (by decide) (hts _ (List.mem_of_getElem? (i := 1) rfl)) rfl (by decide +kernel) rfl rfl (Nat.le_of_ble_eq_true rfl) rfl dX2_add_2 (fun H locs hP hD hS => ?_)
  refine lv_aload_n hx hb dX2_add_5 rfl (lv_at hl 0 rfl) ?_
  refine va_get (D := D) (ci := 2) (v := .int (I 2 2)) (C := RX2) (T := TX2) (N := 16) hx hb hts (fun _ h => List.mem_cons_of_mem _ (List.mem_append_right _ (h))) hown hK hP 2 tp_e2 rfl 2 (by decide) (hts _ (List.mem_of_getElem? (i := 2) rfl)) (fun _ h9 => h9) rfl dX2_add_6 ?_
  refine tp_eqi (y := nI n0) hn0 ?_
  refine lv_bipush (v := 6) hx hb dX2_add_9 (by decide) ?_
  refine lv_icmp_eq (tgt := 23) hx hb dX2_add_11 (by decide) (fun c11_1 => ?_) (fun c11_1 => ?_)
  · exact absurd ((nI_eq (by omega) (by decide)).mp (show nI n0 = nI 6 from c11_1)) (by omega)
  · refine lv_aload_n hx hb dX2_add_14 rfl (lv_at hl 0 rfl) ?_
    refine va_get (D := D) (ci := 2) (v := .int (I 2 1)) (C := RX2) (T := TX2) (N := 16) hx hb hts (fun _ h => List.mem_cons_of_mem _ (List.mem_append_right _ (h))) hown hK hP 2 tp_e2 rfl 1 (by decide) (hts _ (List.mem_of_getElem? (i := 3) rfl)) (fun _ h9 => h9) rfl dX2_add_15 ?_
    refine lv_bipush (v := 48) hx hb dX2_add_18 (by decide) ?_
    refine lv_icmp_ne (tgt := 29) hx hb dX2_add_20 (by decide) (fun c20_2 => ?_) (fun c20_2 => ?_)
    · refine lv_aload_n hx hb dX2_add_29 rfl (lv_at hl 0 rfl) ?_
      refine va_get (D := D) (ci := 2) (v := .ref (ad (3))) (C := RX2) (T := TX2) (N := 16) hx hb hts (fun _ h => List.mem_cons_of_mem _ (List.mem_append_right _ (h))) hown hK hP 2 tp_e2 rfl 3 (by decide) (hts _ (List.mem_of_getElem? (i := 4) rfl)) (fun _ h9 => h9) rfl dX2_add_30 ?_
      refine lv_aload_n hx hb dX2_add_33 rfl (lv_at hl 0 rfl) ?_
      refine va_get (D := D) (ci := 2) (v := .int (I 2 2)) (C := RX2) (T := TX2) (N := 16) hx hb hts (fun _ h => List.mem_cons_of_mem _ (List.mem_append_right _ (h))) hown hK hP 2 tp_e2 rfl 2 (by decide) (hts _ (List.mem_of_getElem? (i := 2) rfl)) (fun _ h9 => h9) rfl dX2_add_34 ?_
      refine tp_eqi (y := nI n0) hn0 ?_
      refine lv_aload_n hx hb dX2_add_37 rfl (lv_at hl 0 rfl) ?_
      refine va_get (D := D) (ci := 2) (v := .int (I 2 1)) (C := RX2) (T := TX2) (N := 16) hx hb hts (fun _ h => List.mem_cons_of_mem _ (List.mem_append_right _ (h))) hown hK hP 2 tp_e2 rfl 1 (by decide) (hts _ (List.mem_of_getElem? (i := 3) rfl)) (fun _ h9 => h9) rfl dX2_add_38 ?_
      refine tp_iast hx hb hK hP hD hS (3) 6 (n0) (by omega) (fun _ => rfl) rfl (by omega) (by decide) dX2_add_41 (fun H locs hP hD hS => ?_)
      refine lv_aload_n hx hb dX2_add_42 rfl (lv_at hl 0 rfl) ?_
      refine lv_dup hx hb dX2_add_43 rfl ?_
      refine va_get (D := D) (ci := 2) (v := .int (I 2 2)) (C := RX2) (T := TX2) (N := 16) hx hb hts (fun _ h => List.mem_cons_of_mem _ (List.mem_append_right _ (h))) hown hK hP 2 tp_e2 rfl 2 (by decide) (hts _ (List.mem_of_getElem? (i := 2) rfl)) (fun _ h9 => h9) rfl dX2_add_44 ?_
      refine tp_eqi (y := nI n0) hn0 ?_
      refine lv_iconst (v := 1) hx hb dX2_add_47 (by decide) ?_
      refine lv_iadd hx hb dX2_add_48 ?_
      refine tp_eqi (y := nI (n0 + 1)) (nI_add n0 1) ?_
      refine tp_put (ci := 2) (v := (nI (n0 + 1))) (ty := .int) (C := RX2) (T := TX2) (N := 16) hx hb hts (fun _ h => List.mem_cons_of_mem _ (List.mem_append_right _ (h))) tyX2 tyX2_ok nmX2 hown hK hP hD hS 2 tp_e2 (by omega) rfl 2 (by decide) (hts _ (List.mem_of_getElem? (i := 2) rfl)) rfl (by decide +kernel) rfl rfl (Nat.le_of_ble_eq_true rfl) rfl dX2_add_49 (fun H locs hP hD hS => ?_)
      refine lv_aload_n hx hb dX2_add_52 rfl (lv_at hl 0 rfl) ?_
      refine va_get (D := D) (ci := 2) (v := .int (nI (n0 + 1))) (C := RX2) (T := TX2) (N := 16) hx hb hts (fun _ h => List.mem_cons_of_mem _ (List.mem_append_right _ (h))) hown hK hP 2 tp_e2 rfl 2 (by decide) (hts _ (List.mem_of_getElem? (i := 2) rfl)) (fun _ h9 => h9) rfl dX2_add_53 ?_
      refine lv_iconst (v := 1) hx hb dX2_add_56 (by decide) ?_
      refine lv_isub hx hb dX2_add_57 ?_
      exact tp_reti hx hb hr hlocks hK hP hD hS rfl (nI_pred _) rfl dX2_add_58
    · exact absurd c20_2 he
end
section
/-! STRETCHES OF AN ARRAY FILLED, and what doesn't depend on them -/
def tp_fill (I : Nat → Nat → Int32) (c lo : Nat) (g : Nat → Int32) (s : Nat) : Nat → Nat → Int32 := va_up I c (fun j => if lo ≤ j ∧ j < lo + s then g (j - lo) else I c j)
theorem tp_fill_oth {I : Nat → Nat → Int32} {c lo a : Nat} {g : Nat → Int32} {s : Nat} (h : a ≠ c) : tp_fill I c lo g s a = I a := va_up_ne I _ h
theorem tp_fill_at {I : Nat → Nat → Int32} {c lo : Nat} {g : Nat → Int32} {s : Nat} : tp_fill I c lo g s c = fun j => if lo ≤ j ∧ j < lo + s then g (j - lo) else I c j := va_up_self I c _
theorem tp_fill_0 {I : Nat → Nat → Int32} {c lo : Nat} {g : Nat → Int32} : tp_fill I c lo g 0 = I := by
  funext a
  by_cases h : a = c
  · subst h
    rw [tp_fill_at]
    funext j
    rw [if_neg (by omega)]
  · rw [tp_fill_oth h]
theorem tp_fill_s {I : Nat → Nat → Int32} {c lo : Nat} {g : Nat → Int32} {s : Nat} {x : Int32} (hx : x = g s) : tp_u (tp_fill I c lo g s) c (lo + s) x = tp_fill I c lo g (s + 1) := by
  subst hx
  funext a
  by_cases h : a = c
  · subst h
    rw [tp_u_at, tp_fill_at, tp_fill_at]
    funext j
    unfold upd
    dsimp only
    by_cases hj : j = lo + s
    · subst hj
      rw [if_pos rfl, if_pos (by omega), Nat.add_sub_cancel_left]
    · rw [if_neg hj]
      by_cases h2 : lo ≤ j ∧ j < lo + s
      · rw [if_pos h2, if_pos (by omega)]
      · rw [if_neg h2, if_neg (by omega)]
  · rw [tp_u_oth h, tp_fill_oth h, tp_fill_oth h]
/-- two arrays side by side -/
theorem tp_fill_s2 {I : Nat → Nat → Int32} {c c2 lo : Nat} {g g2 : Nat → Int32} {s : Nat} {x x2 : Int32} (hne : c ≠ c2) (hx : x = g s) (hx2 : x2 = g2 s) : tp_u (tp_u (tp_fill (tp_fill I c lo g s) c2 lo g2 s) c (lo + s) x) c2 (lo + s) x2 = tp_fill (tp_fill I c lo g (s + 1)) c2 lo g2 (s + 1) := by
  have e : tp_u (tp_fill (tp_fill I c lo g s) c2 lo g2 s) c (lo + s) x = tp_fill (tp_fill I c lo g (s + 1)) c2 lo g2 s := by
    rw [← tp_fill_s hx]
    funext a
    by_cases h : a = c
    · subst h
      rw [tp_u_at, tp_fill_oth hne, tp_fill_oth hne, tp_u_at]
    · rw [tp_u_oth h]
      by_cases h2 : a = c2
      · subst h2
        rw [tp_fill_at, tp_fill_at, tp_u_oth h]
      · rw [tp_fill_oth h2, tp_fill_oth h2, tp_u_oth h]
  rw [e]
  exact tp_fill_s hx2
theorem tp_sum_cong {g g2 : Nat → Int32} (a : Nat) : ∀ k : Nat, (∀ m, a ≤ m → m < a + k → g m = g2 m) → tp_sum g a k = tp_sum g2 a k
  | 0, _ => rfl
  | k + 1, h => by
    show tp_sum g a k + g (a + k) = tp_sum g2 a k + g2 (a + k)
    rw [tp_sum_cong a k (fun m h1 h2 => h m h1 (by omega)), h (a + k) (by omega) (by omega)]
/-- a household's facts alone count for what is due -/
theorem tp_due_cong {I J : Nat → Nat → Int32} {b m : Nat} (h : ∀ f, f < 5 → I (b + 2 + f) = J (b + 2 + f)) : tp_due I b m = tp_due J b m := by
  unfold tp_due tp_need tp_taper tp_tariff
  rw [h 0 (by omega), h 1 (by omega), h 2 (by omega), h 3 (by omega), h 4 (by omega)]
theorem tp_due_u {I : Nat → Nat → Int32} {b m k j : Nat} {x : Int32} (h : ∀ f, f < 5 → b + 2 + f ≠ k) : tp_due (tp_u I k j x) b m = tp_due I b m := tp_due_cong (fun f hf => tp_u_oth (h f hf))
theorem tp_due_fill {I : Nat → Nat → Int32} {b m c lo s : Nat} {g : Nat → Int32} (h : ∀ f, f < 5 → b + 2 + f ≠ c) : tp_due (tp_fill I c lo g s) b m = tp_due I b m := tp_due_cong (fun f hf => tp_fill_oth (h f hf))
/-- the model's rows of changes alone count for a fact -/
theorem tp_scan_cong {I J : Nat → Nat → Int32} {f m : Int32} {b : Nat} : ∀ t : Nat, (∀ j, b ≤ j → j < b + t → I 5 j = J 5 j ∧ I 6 j = J 6 j ∧ I 7 j = J 7 j) → tp_scan I f m b t = tp_scan J f m b t
  | 0, _ => rfl
  | t + 1, h => by
    obtain ⟨h5, h6, h7⟩ := h (b + t) (by omega) (by omega)
    have ih := tp_scan_cong (I := I) (J := J) (f := f) (m := m) (b := b) t (fun j a1 a2 => h j a1 (by omega))
    unfold tp_scan
    rw [ih]
    unfold tp_cnt
    rw [h5, h6, h7]
theorem tp_mfact_cong {I J : Nat → Nat → Int32} {h : Nat} {f m : Int32} (h4 : I 4 = J 4) (h5 : I 5 = J 5) (h6 : I 6 = J 6) (h7 : I 7 = J 7) : tp_mfact I h f m = tp_mfact J h f m := by
  unfold tp_mfact
  rw [h4, tp_scan_cong (I := I) (J := J) _ (fun j _ _ => ⟨by rw [h5], by rw [h6], by rw [h7]⟩)]
theorem tp_mdue_cong {I J : Nat → Nat → Int32} {h : Nat} {m : Int32} (h4 : I 4 = J 4) (h5 : I 5 = J 5) (h6 : I 6 = J 6) (h7 : I 7 = J 7) : tp_mdue I h m = tp_mdue J h m := by
  unfold tp_mdue tp_mneed tp_mtaper tp_mtariff
  simp only [tp_mfact_cong (I := I) (J := J) h4 h5 h6 h7]
theorem tp_mopen_cong {I J : Nat → Nat → Int32} {h a e : Nat} (h4 : I 4 = J 4) (h5 : I 5 = J 5) (h6 : I 6 = J 6) (h7 : I 7 = J 7) (h8 : ∀ m, m < 48 → I 8 (48 * h + m) = J 8 (48 * h + m)) (he : e ≤ 48) : tp_mopen I h a e = tp_mopen J h a e := by
  unfold tp_mopen
  refine tp_sum_cong a _ (fun m h1 h2 => ?_)
  rw [tp_mdue_cong (I := I) (J := J) h4 h5 h6 h7, h8 m (by omega)]
/-! CLOSING -/
/-- a household settled: b its first cell, a its first month, m the current one -/
def tp_settle (I : Nat → Nat → Int32) (b a m : Nat) : Nat → Nat → Int32 :=
  tp_u (tp_fill (tp_u (tp_u (tp_u I b 6 (tp_owed I b (tp_open I b a m))) b 6 (tp_owed I b (tp_open I b a m) - tp_rec I b m (tp_owed I b (tp_open I b a m)))) b 7 (I b 7 + tp_rec I b m (tp_owed I b (tp_open I b a m)))) (b + 13) a (fun s => tp_due I b (a + s)) (m + 1 - a)) (b + 14) m (tp_paym I b a m)
/-- a change entered, up to the month lo + s -/
def tp_chg (I : Nat → Nat → Int32) (b f lo : Nat) (v : Int32) (s : Nat) : Nat → Nat → Int32 :=
  tp_fill (tp_fill (tp_u I b 2 (I b 2 + 1)) (b + 2 + f) lo (fun _ => v) s) (b + 8 + f) lo (fun _ => nI lo) s
/-- one household of the model closed -/
def tp_mcl (I : Nat → Nat → Int32) (a e k : Nat) : Nat → Nat → Int32 :=
  tp_fill (tp_u (tp_u (tp_u (tp_reck I k (nI e) (tp_mopen I k a e)) 10 k (tp_rthen I k (tp_mopen I k a e) - tp_rtaken I k (nI e) (tp_mopen I k a e))) 11 k (I 11 k + tp_rtaken I k (nI e) (tp_mopen I k a e))) 9 (48 * k + e) (tp_rpay I k (nI e) (tp_mopen I k a e))) 8 (48 * k + a) (fun s => tp_mdue I k (nI (a + s))) (e + 1 - a)
def tp_cls (I : Nat → Nat → Int32) (a : Nat → Nat) (e : Nat) : Nat → Nat → Nat → Int32
  | 0 => tp_u I 2 0 0
  | k + 1 => tp_mcl (tp_cls I a e k) (a k) e k
def tp_clsum (I : Nat → Nat → Int32) (a : Nat → Nat) (e : Nat) : Nat → Int32
  | 0 => 0
  | k + 1 => tp_clsum I a e k + tp_rpay (tp_cls I a e k) k (nI e) (tp_mopen (tp_cls I a e k) k (a k) e)
theorem tp_mcl_keep {I : Nat → Nat → Int32} {a e k c : Nat} (h2 : c ≠ 2) (h8 : c ≠ 8) (h9 : c ≠ 9) (h10 : c ≠ 10) (h11 : c ≠ 11) : tp_mcl I a e k c = I c := by
  unfold tp_mcl tp_reck
  rw [tp_fill_oth h8, tp_u_oth h9, tp_u_oth h11, tp_u_oth h10, tp_u_oth h2, tp_u_oth h2, tp_u_oth h2]
theorem tp_mcl_keep2 {I : Nat → Nat → Int32} {a e k j : Nat} (h : j < 13) : tp_mcl I a e k 2 j = I 2 j := by
  unfold tp_mcl tp_reck
  rw [tp_fill_oth (by decide), tp_u_oth (a := 2) (k := 9) (by decide), tp_u_oth (a := 2) (k := 11) (by decide), tp_u_oth (a := 2) (k := 10) (by decide), tp_u_n (by omega), tp_u_n (by omega), tp_u_n (by omega)]
theorem tp_cls_keep {I : Nat → Nat → Int32} {a : Nat → Nat} {e c : Nat} (h2 : c ≠ 2) (h8 : c ≠ 8) (h9 : c ≠ 9) (h10 : c ≠ 10) (h11 : c ≠ 11) : ∀ k : Nat, tp_cls I a e k c = I c
  | 0 => tp_u_oth h2
  | k + 1 => (tp_mcl_keep h2 h8 h9 h10 h11).trans (tp_cls_keep h2 h8 h9 h10 h11 k)
theorem tp_cls_keep2 {I : Nat → Nat → Int32} {a : Nat → Nat} {e j : Nat} (h0 : j ≠ 0) (h : j < 13) : ∀ k : Nat, tp_cls I a e k 2 j = I 2 j
  | 0 => tp_u_n h0
  | k + 1 => (tp_mcl_keep2 h).trans (tp_cls_keep2 h0 h k)
theorem tp_rec_u {I : Nat → Nat → Int32} {b m : Nat} {x y : Int32} : tp_rec (tp_u I b 6 x) b m y = tp_rec I b m y := by
  unfold tp_rec
  rw [tp_due_u (fun f hf => by omega), tp_u_n (by decide), tp_u_oth (a := b + 2 + 3) (k := b) (by omega)]
theorem tp_eqV {l : Launch} {y : MethodName} {ws : List Cond} {rm : Room} {D : va_G} {cy : Nat → ClassId} {n : Nat} {ad : Nat → Nat} {o : Int64} {as : List Value} {I I1 I2 : Nat → Nat → Int32} (h : tp_V l y ws rm D cy n ad o as I I1) (hI : I1 = I2) : tp_V l y ws rm D cy n ad o as I I2 := by
  subst hI
  exact h
/-- what stands behind the filled stretch -/
theorem tp_fill_up {I : Nat → Nat → Int32} {c lo s j : Nat} {g : Nat → Int32} (h : lo + s ≤ j) : tp_fill I c lo g s c j = I c j := by
  rw [tp_fill_at]
  exact if_neg (by omega)
end
section
set_option maxHeartbeats 4000000 in
set_option maxRecDepth 100000 in
/-- lowerDebt(cents) -/
theorem hc_lowerDebt (l : Launch) (D : va_G) (cy : Nat → ClassId) (n : Nat) (ad : Nat → Nat) (o : Int64) (I : Nat → Nat → Int32) (i : Nat) (hi : i < n) (x : Int32) : tp_V l yX0_lowerDebt wsX0_lowerDebt (tp_rm 0 0) D cy n ad o [.ref (ad (14 + 15 * i)), .int x] I (tp_u (tp_u I (14 + 15 * i) 6 (I (14 + 15 * i) 6 - x)) (14 + 15 * i) 7 (I (14 + 15 * i) 7 + x)) := by
  refine tp_ofV (lv := [(0, .ref (ad (14 + 15 * i))), (1, .int x)]) (by decide) rfl (Nat.le_of_ble_eq_true rfl) rfl (fun p e s m args below meth c A ls S0 => ?_)
  obtain ⟨hx, hb, hr, hml, hown, hts, hlocks, hA, hK, hP, hD, hS, hl⟩ := S0
  refine lv_aload_n hx hb dX0_lowerDebt_0 rfl (lv_at hl 0 rfl) ?_
  refine lv_dup hx hb dX0_lowerDebt_1 rfl ?_
  refine va_get (D := D) (ci := 0) (v := .int (I (14 + 15 * i) 6)) (C := RX0) (T := TX0) (N := 9) hx hb hts (fun _ h => List.mem_cons_of_mem _ (List.mem_append_right _ (h))) hown hK hP (14 + 15 * i) (tp_eh hi) rfl 6 (by decide) (hts _ (List.mem_of_getElem? (i := 1) rfl)) (fun _ h9 => h9) rfl dX0_lowerDebt_2 ?_
  refine lv_iload_n hx hb dX0_lowerDebt_5 rfl (lv_at hl 1 rfl) ?_
  refine lv_isub hx hb dX0_lowerDebt_6 ?_
  refine tp_put (ci := 0) (v := ((I (14 + 15 * i) 6) - x)) (ty := .int) (C := RX0) (T := TX0) (N := 9) hx hb hts (fun _ h => List.mem_cons_of_mem _ (List.mem_append_right _ (h))) tyX0 tyX0_ok nmX0 hown hK hP hD hS (14 + 15 * i) (tp_eh hi) (by omega) rfl 6 (by decide) (hts _ (List.mem_of_getElem? (i := 1) rfl)) rfl (by decide +kernel) rfl rfl (Nat.le_of_ble_eq_true rfl) (tp_ch6 i _) dX0_lowerDebt_7 (fun H locs hP hD hS => ?_)
  refine lv_aload_n hx hb dX0_lowerDebt_10 rfl (lv_at hl 0 rfl) ?_
  refine lv_dup hx hb dX0_lowerDebt_11 rfl ?_
  refine va_get (D := D) (ci := 0) (v := .int ((tp_u I (14 + 15 * i) 6 ((I (14 + 15 * i) 6) - x)) (14 + 15 * i) 7)) (C := RX0) (T := TX0) (N := 9) hx hb hts (fun _ h => List.mem_cons_of_mem _ (List.mem_append_right _ (h))) hown hK hP (14 + 15 * i) (tp_eh hi) rfl 7 (by decide) (hts _ (List.mem_of_getElem? (i := 2) rfl)) (fun _ h9 => h9) rfl dX0_lowerDebt_12 ?_
  refine tp_eqi (y := (I (14 + 15 * i) 7)) (by rw [tp_u_n (b := 7) (j := 6) (by decide)]) ?_
  refine lv_iload_n hx hb dX0_lowerDebt_15 rfl (lv_at hl 1 rfl) ?_
  refine lv_iadd hx hb dX0_lowerDebt_16 ?_
  refine tp_put (ci := 0) (v := ((I (14 + 15 * i) 7) + x)) (ty := .int) (C := RX0) (T := TX0) (N := 9) hx hb hts (fun _ h => List.mem_cons_of_mem _ (List.mem_append_right _ (h))) tyX0 tyX0_ok nmX0 hown hK hP hD hS (14 + 15 * i) (tp_eh hi) (by omega) rfl 7 (by decide) (hts _ (List.mem_of_getElem? (i := 2) rfl)) rfl (by decide +kernel) rfl rfl (Nat.le_of_ble_eq_true rfl) (tp_ch7 i _) dX0_lowerDebt_17 (fun H locs hP hD hS => ?_)
  exact tp_retv hx hb hr hlocks hK hP hD hS rfl dX0_lowerDebt_20
set_option maxHeartbeats 4000000 in
set_option maxRecDepth 100000 in
/-- settle(month) -/
theorem hc_settle (l : Launch) (D : va_G) (cy : Nat → ClassId) (n : Nat) (ad : Nat → Nat) (o : Int64) (I : Nat → Nat → Int32) (i : Nat) (hi : i < n) (a0 m0 : Nat) (ha : I (14 + 15 * i) 3 = nI a0) (ha8 : a0 ≤ m0) (hm : m0 < 48) : tp_I l yX0_settle wsX0_settle (tp_rm 5 114) D cy n ad o [.ref (ad (14 + 15 * i)), .int (nI m0)] I (tp_paym I (14 + 15 * i) a0 m0) (tp_settle I (14 + 15 * i) a0 m0) := by
  refine tp_ofI (lv := [(0, .ref (ad (14 + 15 * i))), (1, .int (nI m0))]) (by decide) rfl (Nat.le_of_ble_eq_true rfl) rfl (fun p e s m args below meth c A ls S0 => ?_)
  obtain ⟨hx, hb, hr, hml, hown, hts, hlocks, hA, hK, hP, hD, hS, hl⟩ := S0
  refine lv_aload_n hx hb dX0_settle_0 rfl (lv_at hl 0 rfl) ?_
  refine lv_iload_n hx hb dX0_settle_1 rfl (lv_at hl 1 rfl) ?_
  refine tp_callV ⟨hx, hb, hml, hown, hts⟩ (hc_paymentIn l D cy n ad o I i hi a0 m0 ha (by omega) (by omega)) (cwV 1 hts gX0_settle_X0_paymentIn rfl rfl rfl (by decide +kernel) ⟨Nat.le_of_ble_eq_true rfl, Nat.le_of_ble_eq_true rfl⟩) hK hP hD hS hA (14 + 15 * i) 0 (tp_eh hi) rfl rfl rfl hl.1 rfl (Nat.le_of_ble_eq_true rfl) dX0_settle_2 ⟨Nat.zero_le _, Nat.zero_le _⟩ (fun I9 e9 H locs hP hD hS => ?_)
  subst e9
  refine lv_istore_n (lv' := [(2, .int (tp_paym I (14 + 15 * i) a0 m0)), (0, .ref (ad (14 + 15 * i))), (1, .int (nI m0))]) hx hb dX0_settle_5 rfl hl (by decide) rfl (fun ls hl => ?_)
  refine lv_aload_n hx hb dX0_settle_6 rfl (lv_at hl 1 rfl) ?_
  refine lv_aload_n hx hb dX0_settle_7 rfl (lv_at hl 1 rfl) ?_
  refine lv_aload_n hx hb dX0_settle_8 rfl (lv_at hl 1 rfl) ?_
  refine lv_iload_n hx hb dX0_settle_9 rfl (lv_at hl 2 rfl) ?_
  refine tp_callV ⟨hx, hb, hml, hown, hts⟩ (hc_unassessedBefore l D cy n ad o I i hi a0 m0 ha (by omega) (by omega)) (cwV 1 hts gX0_settle_X0_unassessedBefore rfl rfl rfl (by decide +kernel) ⟨Nat.le_of_ble_eq_true rfl, Nat.le_of_ble_eq_true rfl⟩) hK hP hD hS hA (14 + 15 * i) 0 (tp_eh hi) rfl rfl rfl hl.1 rfl (Nat.le_of_ble_eq_true rfl) dX0_settle_10 ⟨Nat.zero_le _, Nat.zero_le _⟩ (fun I9 e9 H locs hP hD hS => ?_)
  subst e9
  refine tp_callV ⟨hx, hb, hml, hown, hts⟩ (hc_owedAfter l D cy n ad o I i hi (tp_open I (14 + 15 * i) a0 m0)) (cwV 1 hts gX0_settle_X0_owedAfter rfl rfl rfl (by decide +kernel) ⟨Nat.le_of_ble_eq_true rfl, Nat.le_of_ble_eq_true rfl⟩) hK hP hD hS hA (14 + 15 * i) 0 (tp_eh hi) rfl rfl rfl hl.1 rfl (Nat.le_of_ble_eq_true rfl) dX0_settle_13 ⟨Nat.zero_le _, Nat.zero_le _⟩ (fun I9 e9 H locs hP hD hS => ?_)
  subst e9
  refine tp_put (ci := 0) (v := (tp_owed I (14 + 15 * i) (tp_open I (14 + 15 * i) a0 m0))) (ty := .int) (C := RX0) (T := TX0) (N := 9) hx hb hts (fun _ h => List.mem_cons_of_mem _ (List.mem_append_right _ (h))) tyX0 tyX0_ok nmX0 hown hK hP hD hS (14 + 15 * i) (tp_eh hi) (by omega) rfl 6 (by decide) (hts _ (List.mem_of_getElem? (i := 1) rfl)) rfl (by decide +kernel) rfl rfl (Nat.le_of_ble_eq_true rfl) (tp_ch6 i _) dX0_settle_16 (fun H locs hP hD hS => ?_)
  refine lv_aload_n hx hb dX0_settle_19 rfl (lv_at hl 1 rfl) ?_
  refine lv_aload_n hx hb dX0_settle_20 rfl (lv_at hl 1 rfl) ?_
  refine lv_iload_n hx hb dX0_settle_21 rfl (lv_at hl 2 rfl) ?_
  refine lv_aload_n hx hb dX0_settle_22 rfl (lv_at hl 1 rfl) ?_
  refine va_get (D := D) (ci := 0) (v := .int ((tp_u I (14 + 15 * i) 6 (tp_owed I (14 + 15 * i) (tp_open I (14 + 15 * i) a0 m0))) (14 + 15 * i) 6)) (C := RX0) (T := TX0) (N := 9) hx hb hts (fun _ h => List.mem_cons_of_mem _ (List.mem_append_right _ (h))) hown hK hP (14 + 15 * i) (tp_eh hi) rfl 6 (by decide) (hts _ (List.mem_of_getElem? (i := 1) rfl)) (fun _ h9 => h9) rfl dX0_settle_23 ?_
  refine tp_eqi (y := (tp_owed I (14 + 15 * i) (tp_open I (14 + 15 * i) a0 m0))) (by rw [tp_u_s]) ?_
  refine tp_callV ⟨hx, hb, hml, hown, hts⟩ (hc_recoverableIn l D cy n ad o (tp_u I (14 + 15 * i) 6 (tp_owed I (14 + 15 * i) (tp_open I (14 + 15 * i) a0 m0))) i hi m0 (by omega) (tp_owed I (14 + 15 * i) (tp_open I (14 + 15 * i) a0 m0))) (cwV 2 hts gX0_settle_X0_recoverableIn rfl rfl rfl (by decide +kernel) ⟨Nat.le_of_ble_eq_true rfl, Nat.le_of_ble_eq_true rfl⟩) hK hP hD hS hA (14 + 15 * i) 0 (tp_eh hi) rfl rfl rfl hl.1 rfl (Nat.le_of_ble_eq_true rfl) dX0_settle_26 ⟨Nat.zero_le _, Nat.zero_le _⟩ (fun I9 e9 H locs hP hD hS => ?_)
  subst e9
  refine tp_eqi (y := tp_rec I (14 + 15 * i) m0 (tp_owed I (14 + 15 * i) (tp_open I (14 + 15 * i) a0 m0))) tp_rec_u ?_
  refine tp_callVv ⟨hx, hb, hml, hown, hts⟩ (tp_eqV (hc_lowerDebt l D cy n ad o (tp_u I (14 + 15 * i) 6 (tp_owed I (14 + 15 * i) (tp_open I (14 + 15 * i) a0 m0))) i hi (tp_rec I (14 + 15 * i) m0 (tp_owed I (14 + 15 * i) (tp_open I (14 + 15 * i) a0 m0)))) (by rw [tp_u_s, tp_u_n (j := 6) (b := 7) (by decide)])) (cwV 1 hts gX0_settle_X0_lowerDebt rfl rfl rfl (by decide +kernel) ⟨Nat.le_of_ble_eq_true rfl, Nat.le_of_ble_eq_true rfl⟩) hK hP hD hS hA (14 + 15 * i) 0 (tp_eh hi) rfl rfl rfl hl.1 rfl (Nat.le_of_ble_eq_true rfl) dX0_settle_29 ⟨Nat.zero_le _, Nat.zero_le _⟩ (fun I9 e9 H locs hP hD hS => ?_)
  subst e9
  refine lv_aload_n hx hb dX0_settle_32 rfl (lv_at hl 1 rfl) ?_
  refine va_get (D := D) (ci := 0) (v := .int ((tp_u (tp_u (tp_u I (14 + 15 * i) 6 (tp_owed I (14 + 15 * i) (tp_open I (14 + 15 * i) a0 m0))) (14 + 15 * i) 6 ((tp_owed I (14 + 15 * i) (tp_open I (14 + 15 * i) a0 m0)) - (tp_rec I (14 + 15 * i) m0 (tp_owed I (14 + 15 * i) (tp_open I (14 + 15 * i) a0 m0))))) (14 + 15 * i) 7 (I (14 + 15 * i) 7 + (tp_rec I (14 + 15 * i) m0 (tp_owed I (14 + 15 * i) (tp_open I (14 + 15 * i) a0 m0))))) (14 + 15 * i) 3)) (C := RX0) (T := TX0) (N := 9) hx hb hts (fun _ h => List.mem_cons_of_mem _ (List.mem_append_right _ (h))) hown hK hP (14 + 15 * i) (tp_eh hi) rfl 3 (by decide) (hts _ (List.mem_of_getElem? (i := 2) rfl)) (fun _ h9 => h9) rfl dX0_settle_33 ?_
  refine tp_eqi (y := (I (14 + 15 * i) 3)) (by rw [tp_u_n (b := 3) (j := 7) (by decide), tp_u_n (b := 3) (j := 6) (by decide), tp_u_n (b := 3) (j := 6) (by decide)]) ?_
  refine tp_eqi (y := nI a0) ha ?_
  refine lv_istore_n (lv' := [(3, .int (nI a0)), (2, .int (tp_paym I (14 + 15 * i) a0 m0)), (0, .ref (ad (14 + 15 * i))), (1, .int (nI m0))]) hx hb dX0_settle_36 rfl hl (by decide) rfl (fun ls hl => ?_)
  have hl : lv_has ls 4 [(3, .int (nI (a0 + 0))), (2, .int (tp_paym I (14 + 15 * i) a0 m0)), (0, .ref (ad (14 + 15 * i))), (1, .int (nI m0))] := hl
  rw [← tp_fill_0 (I := tp_u (tp_u (tp_u I (14 + 15 * i) 6 (tp_owed I (14 + 15 * i) (tp_open I (14 + 15 * i) a0 m0))) (14 + 15 * i) 6 ((tp_owed I (14 + 15 * i) (tp_open I (14 + 15 * i) a0 m0)) - (tp_rec I (14 + 15 * i) m0 (tp_owed I (14 + 15 * i) (tp_open I (14 + 15 * i) a0 m0))))) (14 + 15 * i) 7 (I (14 + 15 * i) 7 + (tp_rec I (14 + 15 * i) m0 (tp_owed I (14 + 15 * i) (tp_open I (14 + 15 * i) a0 m0))))) (c := 14 + 15 * i + 13) (lo := a0) (g := (fun s => tp_due I (14 + 15 * i) (a0 + s)))] at hP hD
  refine tp_for (nL := 4) (m0 + 1 - a0) (fun t => tp_fill (tp_u (tp_u (tp_u I (14 + 15 * i) 6 (tp_owed I (14 + 15 * i) (tp_open I (14 + 15 * i) a0 m0))) (14 + 15 * i) 6 ((tp_owed I (14 + 15 * i) (tp_open I (14 + 15 * i) a0 m0)) - (tp_rec I (14 + 15 * i) m0 (tp_owed I (14 + 15 * i) (tp_open I (14 + 15 * i) a0 m0))))) (14 + 15 * i) 7 (I (14 + 15 * i) 7 + (tp_rec I (14 + 15 * i) m0 (tp_owed I (14 + 15 * i) (tp_open I (14 + 15 * i) a0 m0))))) (14 + 15 * i + 13) a0 (fun s => tp_due I (14 + 15 * i) (a0 + s)) t) (fun t => [(3, .int (nI (a0 + t))), (2, .int (tp_paym I (14 + 15 * i) a0 m0)), (0, .ref (ad (14 + 15 * i))), (1, .int (nI m0))]) (fun t ht ls H locs hl hP hD hS ih => ?_) (fun ls H locs hl hP hD hS => ?_) hl hP hD hS
  · refine lv_iload_n hx hb dX0_settle_37 rfl (lv_at hl 0 rfl) ?_
    refine lv_iload_n hx hb dX0_settle_38 rfl (lv_at hl 3 rfl) ?_
    refine lv_icmp_gt (tgt := 59) hx hb dX0_settle_39 (by decide) (fun c39_1 => ?_) (fun c39_1 => ?_)
    · exact absurd c39_1 (nI_nlt (by omega) (by omega))
    · refine lv_aload_n hx hb dX0_settle_42 rfl (lv_at hl 2 rfl) ?_
      refine va_get (D := D) (ci := 0) (v := .ref (ad (14 + 15 * i + 13))) (C := RX0) (T := TX0) (N := 9) hx hb hts (fun _ h => List.mem_cons_of_mem _ (List.mem_append_right _ (h))) hown hK hP (14 + 15 * i) (tp_eh hi) rfl 4 (by decide) (hts _ (List.mem_of_getElem? (i := 3) rfl)) (fun _ h9 => h9) rfl dX0_settle_43 ?_
      refine lv_iload_n hx hb dX0_settle_46 rfl (lv_at hl 0 rfl) ?_
      refine lv_aload_n hx hb dX0_settle_47 rfl (lv_at hl 2 rfl) ?_
      refine lv_iload_n hx hb dX0_settle_48 rfl (lv_at hl 0 rfl) ?_
      refine tp_callV ⟨hx, hb, hml, hown, hts⟩ (hc_dueIn l D cy n ad o (tp_fill (tp_u (tp_u (tp_u I (14 + 15 * i) 6 (tp_owed I (14 + 15 * i) (tp_open I (14 + 15 * i) a0 m0))) (14 + 15 * i) 6 ((tp_owed I (14 + 15 * i) (tp_open I (14 + 15 * i) a0 m0)) - (tp_rec I (14 + 15 * i) m0 (tp_owed I (14 + 15 * i) (tp_open I (14 + 15 * i) a0 m0))))) (14 + 15 * i) 7 (I (14 + 15 * i) 7 + (tp_rec I (14 + 15 * i) m0 (tp_owed I (14 + 15 * i) (tp_open I (14 + 15 * i) a0 m0))))) (14 + 15 * i + 13) a0 (fun s => tp_due I (14 + 15 * i) (a0 + s)) t) i hi (a0 + t) (by omega)) (cwV 1 hts gX0_settle_X0_dueIn rfl rfl rfl (by decide +kernel) ⟨Nat.le_of_ble_eq_true rfl, Nat.le_of_ble_eq_true rfl⟩) hK hP hD hS hA (14 + 15 * i) 0 (tp_eh hi) rfl rfl rfl hl.1 rfl (Nat.le_of_ble_eq_true rfl) dX0_settle_49 ⟨Nat.zero_le _, Nat.zero_le _⟩ (fun I9 e9 H locs hP hD hS => ?_)
      subst e9
      refine tp_eqi (y := tp_due I (14 + 15 * i) (a0 + t)) (by rw [tp_due_fill (fun f hf => by omega), tp_due_u (fun f hf => by omega), tp_due_u (fun f hf => by omega), tp_due_u (fun f hf => by omega)]) ?_
      refine tp_iast hx hb hK hP hD hS (14 + 15 * i + 13) 48 ((a0 + t)) (by omega) (fun I => tp_hA (I := I) i) rfl (by omega) (by decide) dX0_settle_52 (fun H locs hP hD hS => ?_)
      rw [tp_fill_s rfl] at hP hD
      refine lv_iinc (v := (nI ((a0 + t) + 1))) (lv' := [(3, .int (nI ((a0 + t) + 1))), (2, .int (tp_paym I (14 + 15 * i) a0 m0)), (0, .ref (ad (14 + 15 * i))), (1, .int (nI m0))]) hx hb dX0_settle_53 hl (k := 0) rfl (nI_1 _) (by decide) rfl (fun ls hl => ?_)
      refine lv_goto (tgt := 37) hx hb dX0_settle_56 (by decide) ?_
      exact ih ls H locs (lv_sub hl [0, 1, 2, 3] rfl) hP hD hS
  · refine lv_iload_n hx hb dX0_settle_37 rfl (lv_at hl 0 rfl) ?_
    refine lv_iload_n hx hb dX0_settle_38 rfl (lv_at hl 3 rfl) ?_
    refine lv_icmp_gt (tgt := 59) hx hb dX0_settle_39 (by decide) (fun c39_2 => ?_) (fun c39_2 => ?_)
    · refine lv_aload_n hx hb dX0_settle_59 rfl (lv_at hl 2 rfl) ?_
      refine va_get (D := D) (ci := 0) (v := .ref (ad (14 + 15 * i + 14))) (C := RX0) (T := TX0) (N := 9) hx hb hts (fun _ h => List.mem_cons_of_mem _ (List.mem_append_right _ (h))) hown hK hP (14 + 15 * i) (tp_eh hi) rfl 5 (by decide) (hts _ (List.mem_of_getElem? (i := 4) rfl)) (fun _ h9 => h9) rfl dX0_settle_60 ?_
      refine lv_iload_n hx hb dX0_settle_63 rfl (lv_at hl 3 rfl) ?_
      refine lv_iload_n hx hb dX0_settle_64 rfl (lv_at hl 1 rfl) ?_
      refine tp_iast hx hb hK hP hD hS (14 + 15 * i + 14) 48 (m0) (by omega) (fun I => tp_hP (I := I) i) rfl (by omega) (by decide) dX0_settle_65 (fun H locs hP hD hS => ?_)
      refine lv_iload_n hx hb dX0_settle_66 rfl (lv_at hl 1 rfl) ?_
      exact tp_reti hx hb hr hlocks hK hP hD hS rfl rfl rfl dX0_settle_67
    · exact absurd (nI_lt (by omega) (by omega)) c39_2
set_option maxHeartbeats 4000000 in
set_option maxRecDepth 100000 in
/-- change(fact, from, value) -/
theorem hc_change (l : Launch) (D : va_G) (cy : Nat → ClassId) (n : Nat) (ad : Nat → Nat) (o : Int64) (I : Nat → Nat → Int32) (i : Nat) (hi : i < n) (f0 r0 z0 : Nat) (hf5 : f0 < 5) (v : Int32) (hz1 : r0 ≤ z0) (hz2 : z0 ≤ 48) (hz3 : ∀ m, r0 ≤ m → m < z0 → I (14 + 15 * i + 8 + f0) m ≤ nI r0) (hz4 : z0 = 48 ∨ ¬ I (14 + 15 * i + 8 + f0) z0 ≤ nI r0) : tp_V l yX0_change wsX0_change (tp_rm 0 0) D cy n ad o [.ref (ad (14 + 15 * i)), .int (nI f0), .int (nI r0), .int v] I (tp_chg I (14 + 15 * i) f0 r0 v (z0 - r0)) := by
  refine tp_ofV (lv := [(0, .ref (ad (14 + 15 * i))), (1, .int (nI f0)), (2, .int (nI r0)), (3, .int v)]) (by decide) rfl (Nat.le_of_ble_eq_true rfl) rfl (fun p e s m args below meth c A ls S0 => ?_)
  obtain ⟨hx, hb, hr, hml, hown, hts, hlocks, hA, hK, hP, hD, hS, hl⟩ := S0
  refine lv_aload_n hx hb dX0_change_0 rfl (lv_at hl 0 rfl) ?_
  refine lv_dup hx hb dX0_change_1 rfl ?_
  refine va_get (D := D) (ci := 0) (v := .int (I (14 + 15 * i) 2)) (C := RX0) (T := TX0) (N := 9) hx hb hts (fun _ h => List.mem_cons_of_mem _ (List.mem_append_right _ (h))) hown hK hP (14 + 15 * i) (tp_eh hi) rfl 2 (by decide) (hts _ (List.mem_of_getElem? (i := 1) rfl)) (fun _ h9 => h9) rfl dX0_change_2 ?_
  refine lv_iconst (v := 1) hx hb dX0_change_5 (by decide) ?_
  refine lv_iadd hx hb dX0_change_6 ?_
  refine tp_put (ci := 0) (v := ((I (14 + 15 * i) 2) + 1)) (ty := .int) (C := RX0) (T := TX0) (N := 9) hx hb hts (fun _ h => List.mem_cons_of_mem _ (List.mem_append_right _ (h))) tyX0 tyX0_ok nmX0 hown hK hP hD hS (14 + 15 * i) (tp_eh hi) (by omega) rfl 2 (by decide) (hts _ (List.mem_of_getElem? (i := 1) rfl)) rfl (by decide +kernel) rfl rfl (Nat.le_of_ble_eq_true rfl) (tp_ch2 i _) dX0_change_7 (fun H locs hP hD hS => ?_)
  refine lv_iload_n hx hb dX0_change_10 rfl (lv_at hl 2 rfl) ?_
  refine lv_istore (lv' := [(4, .int (nI r0)), (0, .ref (ad (14 + 15 * i))), (1, .int (nI f0)), (2, .int (nI r0)), (3, .int v)]) hx hb dX0_change_11 hl (by decide) rfl (fun ls hl => ?_)
  have hl : lv_has ls 5 [(4, .int (nI (r0 + 0))), (0, .ref (ad (14 + 15 * i))), (1, .int (nI f0)), (2, .int (nI r0)), (3, .int v)] := hl
  have e0 : tp_fill (tp_fill (tp_u I (14 + 15 * i) 2 ((I (14 + 15 * i) 2) + 1)) (14 + 15 * i + 2 + f0) r0 (fun _ => v) 0) (14 + 15 * i + 8 + f0) r0 (fun _ => nI r0) 0 = tp_u I (14 + 15 * i) 2 ((I (14 + 15 * i) 2) + 1) := by rw [tp_fill_0, tp_fill_0]
  rw [← e0] at hP hD
  refine tp_for (nL := 5) (z0 - r0) (fun t => tp_fill (tp_fill (tp_u I (14 + 15 * i) 2 ((I (14 + 15 * i) 2) + 1)) (14 + 15 * i + 2 + f0) r0 (fun _ => v) t) (14 + 15 * i + 8 + f0) r0 (fun _ => nI r0) t) (fun t => [(4, .int (nI (r0 + t))), (0, .ref (ad (14 + 15 * i))), (1, .int (nI f0)), (2, .int (nI r0)), (3, .int v)]) (fun t ht ls H locs hl hP hD hS ih => ?_) (fun ls H locs hl hP hD hS => ?_) hl hP hD hS
  · refine lv_iload hx hb dX0_change_13 (lv_at hl 0 rfl) ?_
    refine lv_bipush (v := 48) hx hb dX0_change_15 (by decide) ?_
    refine lv_icmp_ge (tgt := 59) hx hb dX0_change_17 (by decide) (fun c17_1 => ?_) (fun c17_1 => ?_)
    · exact absurd c17_1 (nI_ge (a := r0 + t) (b := 48) (by omega) (by omega))
    · refine lv_aload_n hx hb dX0_change_20 rfl (lv_at hl 1 rfl) ?_
      refine va_get (D := D) (ci := 0) (v := .ref (ad (14 + 15 * i + 7))) (C := RX0) (T := TX0) (N := 9) hx hb hts (fun _ h => List.mem_cons_of_mem _ (List.mem_append_right _ (h))) hown hK hP (14 + 15 * i) (tp_eh hi) rfl 1 (by decide) (hts _ (List.mem_of_getElem? (i := 2) rfl)) (fun _ h9 => h9) rfl dX0_change_21 ?_
      refine lv_iload_n hx hb dX0_change_24 rfl (lv_at hl 2 rfl) ?_
      refine tp_aald hx hb hK hP (14 + 15 * i + 7) 5 (f0) (by omega) (tp_hSo i) rfl (by omega) (by decide) dX0_change_25 ?_
      refine lv_iload hx hb dX0_change_26 (lv_at hl 0 rfl) ?_
      refine tp_iald hx hb hK hP (14 + 15 * i + 8 + f0) 48 ((r0 + t)) (by omega) (tp_hS i (f := f0) (by omega)) rfl (by omega) (by decide) dX0_change_28 ?_
      refine tp_eqi (y := I (14 + 15 * i + 8 + f0) (r0 + t)) (by rw [tp_fill_up (by omega), tp_fill_oth (a := (14 + 15 * i + 8 + f0)) (c := (14 + 15 * i + 2 + f0)) (by omega), tp_u_oth (a := (14 + 15 * i + 8 + f0)) (k := 14 + 15 * i) (by omega)]) ?_
      refine lv_iload_n hx hb dX0_change_29 rfl (lv_at hl 3 rfl) ?_
      refine lv_icmp_gt (tgt := 59) hx hb dX0_change_30 (by decide) (fun c30_2 => ?_) (fun c30_2 => ?_)
      · exact absurd (hz3 (r0 + t) (by omega) (by omega)) (fun z => absurd (Int32.lt_iff_toInt_lt.mp c30_2) (by have := Int32.le_iff_toInt_le.mp z; omega))
      · refine lv_aload_n hx hb dX0_change_33 rfl (lv_at hl 1 rfl) ?_
        refine va_get (D := D) (ci := 0) (v := .ref (ad (14 + 15 * i + 1))) (C := RX0) (T := TX0) (N := 9) hx hb hts (fun _ h => List.mem_cons_of_mem _ (List.mem_append_right _ (h))) hown hK hP (14 + 15 * i) (tp_eh hi) rfl 0 (by decide) (hts _ (List.mem_of_getElem? (i := 3) rfl)) (fun _ h9 => h9) rfl dX0_change_34 ?_
        refine lv_iload_n hx hb dX0_change_37 rfl (lv_at hl 2 rfl) ?_
        refine tp_aald hx hb hK hP (14 + 15 * i + 1) 5 (f0) (by omega) (tp_hVo i) rfl (by omega) (by decide) dX0_change_38 ?_
        refine lv_iload hx hb dX0_change_39 (lv_at hl 0 rfl) ?_
        refine lv_iload_n hx hb dX0_change_41 rfl (lv_at hl 4 rfl) ?_
        refine tp_iast hx hb hK hP hD hS (14 + 15 * i + 2 + f0) 48 ((r0 + t)) (by omega) (fun I => tp_hV (I := I) i (f := f0) (by omega)) rfl (by omega) (by decide) dX0_change_42 (fun H locs hP hD hS => ?_)
        refine lv_aload_n hx hb dX0_change_43 rfl (lv_at hl 1 rfl) ?_
        refine va_get (D := D) (ci := 0) (v := .ref (ad (14 + 15 * i + 7))) (C := RX0) (T := TX0) (N := 9) hx hb hts (fun _ h => List.mem_cons_of_mem _ (List.mem_append_right _ (h))) hown hK hP (14 + 15 * i) (tp_eh hi) rfl 1 (by decide) (hts _ (List.mem_of_getElem? (i := 2) rfl)) (fun _ h9 => h9) rfl dX0_change_44 ?_
        refine lv_iload_n hx hb dX0_change_47 rfl (lv_at hl 2 rfl) ?_
        refine tp_aald hx hb hK hP (14 + 15 * i + 7) 5 (f0) (by omega) (tp_hSo i) rfl (by omega) (by decide) dX0_change_48 ?_
        refine lv_iload hx hb dX0_change_49 (lv_at hl 0 rfl) ?_
        refine lv_iload_n hx hb dX0_change_51 rfl (lv_at hl 3 rfl) ?_
        refine tp_iast hx hb hK hP hD hS (14 + 15 * i + 8 + f0) 48 ((r0 + t)) (by omega) (fun I => tp_hS (I := I) i (f := f0) (by omega)) rfl (by omega) (by decide) dX0_change_52 (fun H locs hP hD hS => ?_)
        rw [tp_fill_s2 (by omega) rfl rfl] at hP hD
        refine lv_iinc (v := (nI ((r0 + t) + 1))) (lv' := [(4, .int (nI ((r0 + t) + 1))), (0, .ref (ad (14 + 15 * i))), (1, .int (nI f0)), (2, .int (nI r0)), (3, .int v)]) hx hb dX0_change_53 hl (k := 0) rfl (nI_1 _) (by decide) rfl (fun ls hl => ?_)
        refine lv_goto (tgt := 13) hx hb dX0_change_56 (by decide) ?_
        exact ih ls H locs (lv_sub hl [0, 1, 2, 3, 4] rfl) hP hD hS
  · refine lv_iload hx hb dX0_change_13 (lv_at hl 0 rfl) ?_
    refine lv_bipush (v := 48) hx hb dX0_change_15 (by decide) ?_
    refine lv_icmp_ge (tgt := 59) hx hb dX0_change_17 (by decide) (fun c17_3 => ?_) (fun c17_3 => ?_)
    · exact tp_retv hx hb hr hlocks hK hP hD hS rfl dX0_change_59
    · have hz8 : z0 < 48 := by
        rcases Nat.lt_or_ge z0 48 with z | z
        · exact z
        · exact absurd (nI_le (a := 48) (b := r0 + (z0 - r0)) (by omega) (by omega)) c17_3
      refine lv_aload_n hx hb dX0_change_20 rfl (lv_at hl 1 rfl) ?_
      refine va_get (D := D) (ci := 0) (v := .ref (ad (14 + 15 * i + 7))) (C := RX0) (T := TX0) (N := 9) hx hb hts (fun _ h => List.mem_cons_of_mem _ (List.mem_append_right _ (h))) hown hK hP (14 + 15 * i) (tp_eh hi) rfl 1 (by decide) (hts _ (List.mem_of_getElem? (i := 2) rfl)) (fun _ h9 => h9) rfl dX0_change_21 ?_
      refine lv_iload_n hx hb dX0_change_24 rfl (lv_at hl 2 rfl) ?_
      refine tp_aald hx hb hK hP (14 + 15 * i + 7) 5 (f0) (by omega) (tp_hSo i) rfl (by omega) (by decide) dX0_change_25 ?_
      refine lv_iload hx hb dX0_change_26 (lv_at hl 0 rfl) ?_
      refine tp_iald hx hb hK hP (14 + 15 * i + 8 + f0) 48 ((r0 + (z0 - r0))) (by omega) (tp_hS i (f := f0) (by omega)) rfl (by omega) (by decide) dX0_change_28 ?_
      refine tp_eqi (y := I (14 + 15 * i + 8 + f0) z0) (by rw [tp_fill_up (by omega), tp_fill_oth (a := (14 + 15 * i + 8 + f0)) (c := (14 + 15 * i + 2 + f0)) (by omega), tp_u_oth (a := (14 + 15 * i + 8 + f0)) (k := 14 + 15 * i) (by omega), show r0 + (z0 - r0) = z0 by omega]) ?_
      refine lv_iload_n hx hb dX0_change_29 rfl (lv_at hl 3 rfl) ?_
      refine lv_icmp_gt (tgt := 59) hx hb dX0_change_30 (by decide) (fun c30_4 => ?_) (fun c30_4 => ?_)
      · exact tp_retv hx hb hr hlocks hK hP hD hS rfl dX0_change_59
      · rcases hz4 with z | z
        · exact absurd z (by omega)
        · exact absurd (Int32.lt_iff_toInt_lt.mpr (by have h1 : ¬ (I (14 + 15 * i + 8 + f0) z0).toInt ≤ (nI r0).toInt := fun q => z (Int32.le_iff_toInt_le.mpr q); omega)) c30_4
end
section
set_option maxHeartbeats 4000000 in
set_option maxRecDepth 100000 in
/-- close: end -/
theorem mp_close_end (l : Launch) (D : va_G) (cy : Nat → ClassId) (n : Nat) (ad : Nat → Nat) (o : Int64) (I : Nat → Nat → Int32) (he : I 2 1 = 48) : tp_I l yX2_close wsX2_close (tp_rm 1 21) D cy n ad o [.ref (ad (2))] I (0) (tp_u (tp_u I 2 0 0) 2 0 1) := by
  refine tp_ofI (lv := [(0, .ref (ad (2)))]) (by decide) rfl (Nat.le_of_ble_eq_true rfl) rfl (fun p e s m args below meth c A ls S0 => ?_)
  obtain ⟨hx, hb, hr, hml, hown, hts, hlocks, hA, hK, hP, hD, hS, hl⟩ := S0
  refine lv_aload_n hx hb dX2_close_0 rfl (lv_at hl 0 rfl) ?_
  refine lv_iconst (v := 0) hx hb dX2_close_1 (by decide) ?_
  refine tp_put (ci := 2) (v := 0) (ty := .int) (C := RX2) (T := TX2) (N := 16) hx hb hts (fun _ h => List.mem_cons_of_mem _ (List.mem_append_right _ (h))) tyX2 tyX2_ok nmX2 hown hK hP hD hS 2 tp_e2 (by omega) rfl 0 (by decide) (hts _ (List.mem_of_getElem? (i := 1) rfl)) rfl (by decide +kernel) rfl rfl (Nat.le_of_ble_eq_true rfl) rfl dX2_close_2 (fun H locs hP hD hS => ?_)
  refine lv_aload_n hx hb dX2_close_5 rfl (lv_at hl 0 rfl) ?_
  refine va_get (D := D) (ci := 2) (v := .int (I 2 1)) (C := RX2) (T := TX2) (N := 16) hx hb hts (fun _ h => List.mem_cons_of_mem _ (List.mem_append_right _ (h))) hown hK hP 2 tp_e2 rfl 1 (by decide) (hts _ (List.mem_of_getElem? (i := 2) rfl)) (fun _ h9 => h9) rfl dX2_close_6 ?_
  refine lv_bipush (v := 48) hx hb dX2_close_9 (by decide) ?_
  refine lv_icmp_ne (tgt := 20) hx hb dX2_close_11 (by decide) (fun c11_1 => ?_) (fun c11_1 => ?_)
  · exact absurd he c11_1
  · refine lv_aload_n hx hb dX2_close_14 rfl (lv_at hl 0 rfl) ?_
    refine lv_iconst (v := 1) hx hb dX2_close_15 (by decide) ?_
    refine tp_callV ⟨hx, hb, hml, hown, hts⟩ (mc_fails l D cy n ad o (tp_u I 2 0 0) 1) (cwV 1 hts gX2_close_X2_fails rfl rfl rfl (by decide +kernel) ⟨Nat.le_of_ble_eq_true rfl, Nat.le_of_ble_eq_true rfl⟩) hK hP hD hS hA 2 2 tp_e2 rfl rfl rfl hl.1 rfl (Nat.le_of_ble_eq_true rfl) dX2_close_16 ⟨Nat.zero_le _, Nat.zero_le _⟩ (fun I9 e9 H locs hP hD hS => ?_)
    subst e9
    exact tp_reti hx hb hr hlocks hK hP hD hS rfl rfl rfl dX2_close_19
set_option maxHeartbeats 4000000 in
set_option maxRecDepth 100000 in
/-- close: ok -/
theorem mp_close_ok (l : Launch) (D : va_G) (cy : Nat → ClassId) (n : Nat) (ad : Nat → Nat) (o : Int64) (I : Nat → Nat → Int32) (aF : Nat → Nat) (n0 e0 : Nat) (hn0 : I 2 2 = nI n0) (hn6 : n0 ≤ 6) (he : I 2 1 = nI e0) (he8 : e0 < 48) (hc : ∀ h, h < n0 → tp_C I h) (ha : ∀ h, h < n0 → I 3 h = nI (aF h)) (ha8 : ∀ h, h < n0 → aF h ≤ e0) : tp_I l yX2_close wsX2_close (tp_rm 6 142) D cy n ad o [.ref (ad (2))] I (tp_clsum I aF e0 n0) (tp_u (tp_cls I aF e0 n0) 2 1 (nI (e0 + 1))) := by
  refine tp_ofI (lv := [(0, .ref (ad (2)))]) (by decide) rfl (Nat.le_of_ble_eq_true rfl) rfl (fun p e s m args below meth c A ls S0 => ?_)
  obtain ⟨hx, hb, hr, hml, hown, hts, hlocks, hA, hK, hP, hD, hS, hl⟩ := S0
  refine lv_aload_n hx hb dX2_close_0 rfl (lv_at hl 0 rfl) ?_
  refine lv_iconst (v := 0) hx hb dX2_close_1 (by decide) ?_
  refine tp_put (ci := 2) (v := 0) (ty := .int) (C := RX2) (T := TX2) (N := 16) hx hb hts (fun _ h => List.mem_cons_of_mem _ (List.mem_append_right _ (h))) tyX2 tyX2_ok nmX2 hown hK hP hD hS 2 tp_e2 (by omega) rfl 0 (by decide) (hts _ (List.mem_of_getElem? (i := 1) rfl)) rfl (by decide +kernel) rfl rfl (Nat.le_of_ble_eq_true rfl) rfl dX2_close_2 (fun H locs hP hD hS => ?_)
  refine lv_aload_n hx hb dX2_close_5 rfl (lv_at hl 0 rfl) ?_
  refine va_get (D := D) (ci := 2) (v := .int (I 2 1)) (C := RX2) (T := TX2) (N := 16) hx hb hts (fun _ h => List.mem_cons_of_mem _ (List.mem_append_right _ (h))) hown hK hP 2 tp_e2 rfl 1 (by decide) (hts _ (List.mem_of_getElem? (i := 2) rfl)) (fun _ h9 => h9) rfl dX2_close_6 ?_
  refine lv_bipush (v := 48) hx hb dX2_close_9 (by decide) ?_
  refine lv_icmp_ne (tgt := 20) hx hb dX2_close_11 (by decide) (fun c11_1 => ?_) (fun c11_1 => ?_)
  · refine lv_iconst (v := 0) hx hb dX2_close_20 (by decide) ?_
    refine lv_istore_n (lv' := [(1, .int 0), (0, .ref (ad (2)))]) hx hb dX2_close_21 rfl hl (by decide) rfl (fun ls hl => ?_)
    refine lv_iconst (v := 0) hx hb dX2_close_22 (by decide) ?_
    refine lv_istore_n (lv' := [(2, .int 0), (1, .int 0), (0, .ref (ad (2)))]) hx hb dX2_close_23 rfl hl (by decide) rfl (fun ls hl => ?_)
    have hl : lv_has ls 4 [(2, .int (nI 0)), (1, .int (tp_clsum I aF e0 0)), (0, .ref (ad (2)))] := hl
    refine tp_for (nL := 4) n0 (tp_cls I aF e0) (fun t => [(2, .int (nI t)), (1, .int (tp_clsum I aF e0 t)), (0, .ref (ad (2)))]) (fun t ht ls H locs hl hP hD hS ih => ?_) (fun ls H locs hl hP hD hS => ?_) hl hP hD hS
    · have hnJ : (tp_cls I aF e0 t) 2 2 = nI n0 := (tp_cls_keep2 (by decide) (by decide) t).trans hn0
      have heJ : (tp_cls I aF e0 t) 2 1 = nI e0 := (tp_cls_keep2 (by decide) (by decide) t).trans he
      have haJ : (tp_cls I aF e0 t) 3 t = nI (aF t) := (congrFun (tp_cls_keep (c := 3) (by decide) (by decide) (by decide) (by decide) (by decide) t) t).trans (ha t ht)
      have hcJ : tp_C (tp_cls I aF e0 t) t := by
        obtain ⟨c0, q1, q2⟩ := hc t ht
        exact ⟨c0, q1, (congrFun (tp_cls_keep (c := 4) (by decide) (by decide) (by decide) (by decide) (by decide) t) t).trans q2⟩
      have ha8t := ha8 t ht
      refine lv_iload_n hx hb dX2_close_24 rfl (lv_at hl 0 rfl) ?_
      refine lv_aload_n hx hb dX2_close_25 rfl (lv_at hl 2 rfl) ?_
      refine va_get (D := D) (ci := 2) (v := .int ((tp_cls I aF e0 t) 2 2)) (C := RX2) (T := TX2) (N := 16) hx hb hts (fun _ h => List.mem_cons_of_mem _ (List.mem_append_right _ (h))) hown hK hP 2 tp_e2 rfl 2 (by decide) (hts _ (List.mem_of_getElem? (i := 3) rfl)) (fun _ h9 => h9) rfl dX2_close_26 ?_
      refine tp_eqi (y := nI n0) hnJ ?_
      refine lv_icmp_ge (tgt := 134) hx hb dX2_close_29 (by decide) (fun c29_2 => ?_) (fun c29_2 => ?_)
      · exact absurd c29_2 (nI_ge (by omega) (by omega))
      · refine lv_aload_n hx hb dX2_close_32 rfl (lv_at hl 2 rfl) ?_
        refine lv_iload_n hx hb dX2_close_33 rfl (lv_at hl 0 rfl) ?_
        refine tp_callVv ⟨hx, hb, hml, hown, hts⟩ (mc_reckons l D cy n ad o (tp_cls I aF e0 t) t (by omega) hcJ (aF t) e0 haJ heJ (by omega) (by omega)) (cwV 1 hts gX2_close_X2_reckons rfl rfl rfl (by decide +kernel) ⟨Nat.le_of_ble_eq_true rfl, Nat.le_of_ble_eq_true rfl⟩) hK hP hD hS hA 2 2 tp_e2 rfl rfl rfl hl.1 rfl (Nat.le_of_ble_eq_true rfl) dX2_close_34 ⟨Nat.zero_le _, Nat.zero_le _⟩ (fun I9 e9 H locs hP hD hS => ?_)
        subst e9
        refine lv_aload_n hx hb dX2_close_37 rfl (lv_at hl 2 rfl) ?_
        refine va_get (D := D) (ci := 2) (v := .ref (ad (10))) (C := RX2) (T := TX2) (N := 16) hx hb hts (fun _ h => List.mem_cons_of_mem _ (List.mem_append_right _ (h))) hown hK hP 2 tp_e2 rfl 10 (by decide) (hts _ (List.mem_of_getElem? (i := 4) rfl)) (fun _ h9 => h9) rfl dX2_close_38 ?_
        refine lv_iload_n hx hb dX2_close_41 rfl (lv_at hl 0 rfl) ?_
        refine lv_aload_n hx hb dX2_close_42 rfl (lv_at hl 2 rfl) ?_
        refine va_get (D := D) (ci := 2) (v := .int (tp_rthen (tp_cls I aF e0 t) t (tp_mopen (tp_cls I aF e0 t) t (aF t) e0))) (C := RX2) (T := TX2) (N := 16) hx hb hts (fun _ h => List.mem_cons_of_mem _ (List.mem_append_right _ (h))) hown hK hP 2 tp_e2 rfl 13 (by decide) (hts _ (List.mem_of_getElem? (i := 5) rfl)) (fun _ h9 => h9) rfl dX2_close_43 ?_
        refine lv_aload_n hx hb dX2_close_46 rfl (lv_at hl 2 rfl) ?_
        refine va_get (D := D) (ci := 2) (v := .int (tp_rtaken (tp_cls I aF e0 t) t (nI e0) (tp_mopen (tp_cls I aF e0 t) t (aF t) e0))) (C := RX2) (T := TX2) (N := 16) hx hb hts (fun _ h => List.mem_cons_of_mem _ (List.mem_append_right _ (h))) hown hK hP 2 tp_e2 rfl 14 (by decide) (hts _ (List.mem_of_getElem? (i := 6) rfl)) (fun _ h9 => h9) rfl dX2_close_47 ?_
        refine lv_isub hx hb dX2_close_50 ?_
        refine tp_iast hx hb hK hP hD hS (10) 6 (t) (by omega) (fun _ => rfl) rfl (by omega) (by decide) dX2_close_51 (fun H locs hP hD hS => ?_)
        refine lv_aload_n hx hb dX2_close_52 rfl (lv_at hl 2 rfl) ?_
        refine va_get (D := D) (ci := 2) (v := .ref (ad (11))) (C := RX2) (T := TX2) (N := 16) hx hb hts (fun _ h => List.mem_cons_of_mem _ (List.mem_append_right _ (h))) hown hK hP 2 tp_e2 rfl 11 (by decide) (hts _ (List.mem_of_getElem? (i := 7) rfl)) (fun _ h9 => h9) rfl dX2_close_53 ?_
        refine lv_iload_n hx hb dX2_close_56 rfl (lv_at hl 0 rfl) ?_
        refine lv_dup2_11 hx hb dX2_close_57 rfl rfl ?_
        refine tp_iald hx hb hK hP 11 6 (t) (by omega) rfl rfl (by omega) (by decide) dX2_close_58 ?_
        refine tp_eqi (y := ((tp_cls I aF e0 t) 11 t)) rfl ?_
        refine lv_aload_n hx hb dX2_close_59 rfl (lv_at hl 2 rfl) ?_
        refine va_get (D := D) (ci := 2) (v := .int (tp_rtaken (tp_cls I aF e0 t) t (nI e0) (tp_mopen (tp_cls I aF e0 t) t (aF t) e0))) (C := RX2) (T := TX2) (N := 16) hx hb hts (fun _ h => List.mem_cons_of_mem _ (List.mem_append_right _ (h))) hown hK hP 2 tp_e2 rfl 14 (by decide) (hts _ (List.mem_of_getElem? (i := 6) rfl)) (fun _ h9 => h9) rfl dX2_close_60 ?_
        refine lv_iadd hx hb dX2_close_63 ?_
        refine tp_iast hx hb hK hP hD hS (11) 6 (t) (by omega) (fun _ => rfl) rfl (by omega) (by decide) dX2_close_64 (fun H locs hP hD hS => ?_)
        refine lv_aload_n hx hb dX2_close_65 rfl (lv_at hl 2 rfl) ?_
        refine va_get (D := D) (ci := 2) (v := .ref (ad (9))) (C := RX2) (T := TX2) (N := 16) hx hb hts (fun _ h => List.mem_cons_of_mem _ (List.mem_append_right _ (h))) hown hK hP 2 tp_e2 rfl 9 (by decide) (hts _ (List.mem_of_getElem? (i := 8) rfl)) (fun _ h9 => h9) rfl dX2_close_66 ?_
        refine lv_bipush (v := 48) hx hb dX2_close_69 (by decide) ?_
        refine lv_iload_n hx hb dX2_close_71 rfl (lv_at hl 0 rfl) ?_
        refine lv_imul hx hb dX2_close_72 ?_
        refine tp_eqi (y := nI (48 * t)) (pk_mul 48 t) ?_
        refine lv_aload_n hx hb dX2_close_73 rfl (lv_at hl 2 rfl) ?_
        refine va_get (D := D) (ci := 2) (v := .int ((tp_cls I aF e0 t) 2 1)) (C := RX2) (T := TX2) (N := 16) hx hb hts (fun _ h => List.mem_cons_of_mem _ (List.mem_append_right _ (h))) hown hK hP 2 tp_e2 rfl 1 (by decide) (hts _ (List.mem_of_getElem? (i := 2) rfl)) (fun _ h9 => h9) rfl dX2_close_74 ?_
        refine tp_eqi (y := nI e0) heJ ?_
        refine lv_iadd hx hb dX2_close_77 ?_
        refine tp_eqi (y := nI ((48 * t) + e0)) (nI_add (48 * t) e0) ?_
        refine lv_aload_n hx hb dX2_close_78 rfl (lv_at hl 2 rfl) ?_
        refine va_get (D := D) (ci := 2) (v := .int (tp_rpay (tp_cls I aF e0 t) t (nI e0) (tp_mopen (tp_cls I aF e0 t) t (aF t) e0))) (C := RX2) (T := TX2) (N := 16) hx hb hts (fun _ h => List.mem_cons_of_mem _ (List.mem_append_right _ (h))) hown hK hP 2 tp_e2 rfl 15 (by decide) (hts _ (List.mem_of_getElem? (i := 9) rfl)) (fun _ h9 => h9) rfl dX2_close_79 ?_
        refine tp_iast hx hb hK hP hD hS (9) 288 (((48 * t) + e0)) (by omega) (fun _ => rfl) rfl (by omega) (by decide) dX2_close_82 (fun H locs hP hD hS => ?_)
        refine lv_iload_n hx hb dX2_close_83 rfl (lv_at hl 1 rfl) ?_
        refine lv_aload_n hx hb dX2_close_84 rfl (lv_at hl 2 rfl) ?_
        refine va_get (D := D) (ci := 2) (v := .int (tp_rpay (tp_cls I aF e0 t) t (nI e0) (tp_mopen (tp_cls I aF e0 t) t (aF t) e0))) (C := RX2) (T := TX2) (N := 16) hx hb hts (fun _ h => List.mem_cons_of_mem _ (List.mem_append_right _ (h))) hown hK hP 2 tp_e2 rfl 15 (by decide) (hts _ (List.mem_of_getElem? (i := 9) rfl)) (fun _ h9 => h9) rfl dX2_close_85 ?_
        refine lv_iadd hx hb dX2_close_88 ?_
        refine lv_istore_n (lv' := [(1, .int ((tp_clsum I aF e0 t) + (tp_rpay (tp_cls I aF e0 t) t (nI e0) (tp_mopen (tp_cls I aF e0 t) t (aF t) e0)))), (2, .int (nI t)), (0, .ref (ad (2)))]) hx hb dX2_close_89 rfl hl (by decide) rfl (fun ls hl => ?_)
        refine lv_aload_n hx hb dX2_close_90 rfl (lv_at hl 2 rfl) ?_
        refine va_get (D := D) (ci := 2) (v := .ref (ad (3))) (C := RX2) (T := TX2) (N := 16) hx hb hts (fun _ h => List.mem_cons_of_mem _ (List.mem_append_right _ (h))) hown hK hP 2 tp_e2 rfl 3 (by decide) (hts _ (List.mem_of_getElem? (i := 10) rfl)) (fun _ h9 => h9) rfl dX2_close_91 ?_
        refine lv_iload_n hx hb dX2_close_94 rfl (lv_at hl 1 rfl) ?_
        refine tp_iald hx hb hK hP 3 6 (t) (by omega) rfl rfl (by omega) (by decide) dX2_close_95 ?_
        refine tp_eqi (y := ((tp_cls I aF e0 t) 3 t)) rfl ?_
        refine tp_eqi (y := nI (aF t)) haJ ?_
        refine lv_istore_n (lv' := [(3, .int (nI (aF t))), (1, .int ((tp_clsum I aF e0 t) + (tp_rpay (tp_cls I aF e0 t) t (nI e0) (tp_mopen (tp_cls I aF e0 t) t (aF t) e0)))), (2, .int (nI t)), (0, .ref (ad (2)))]) hx hb dX2_close_96 rfl hl (by decide) rfl (fun ls hl => ?_)
        have hl : lv_has ls 4 [(3, .int (nI (aF t + 0))), (1, .int ((tp_clsum I aF e0 t) + (tp_rpay (tp_cls I aF e0 t) t (nI e0) (tp_mopen (tp_cls I aF e0 t) t (aF t) e0)))), (2, .int (nI t)), (0, .ref (ad (2)))] := lv_sub hl [0, 1, 2, 3] rfl
        have hP : va_P D vwCl (tp_w cy n ad (tp_u (tp_u (tp_u (tp_u (tp_u (tp_u (tp_cls I aF e0 t) 2 13 (tp_rthen (tp_cls I aF e0 t) t (tp_mopen (tp_cls I aF e0 t) t (aF t) e0))) 2 14 (tp_rtaken (tp_cls I aF e0 t) t (nI e0) (tp_mopen (tp_cls I aF e0 t) t (aF t) e0))) 2 15 (tp_rpay (tp_cls I aF e0 t) t (nI e0) (tp_mopen (tp_cls I aF e0 t) t (aF t) e0))) 10 t ((tp_rthen (tp_cls I aF e0 t) t (tp_mopen (tp_cls I aF e0 t) t (aF t) e0)) - (tp_rtaken (tp_cls I aF e0 t) t (nI e0) (tp_mopen (tp_cls I aF e0 t) t (aF t) e0)))) 11 t (((tp_cls I aF e0 t) 11 t) + (tp_rtaken (tp_cls I aF e0 t) t (nI e0) (tp_mopen (tp_cls I aF e0 t) t (aF t) e0)))) 9 ((48 * t) + e0) (tp_rpay (tp_cls I aF e0 t) t (nI e0) (tp_mopen (tp_cls I aF e0 t) t (aF t) e0))) o) H := hP
        have hD : va_D A (tp_w cy n ad (tp_u (tp_u (tp_u (tp_u (tp_u (tp_u (tp_cls I aF e0 t) 2 13 (tp_rthen (tp_cls I aF e0 t) t (tp_mopen (tp_cls I aF e0 t) t (aF t) e0))) 2 14 (tp_rtaken (tp_cls I aF e0 t) t (nI e0) (tp_mopen (tp_cls I aF e0 t) t (aF t) e0))) 2 15 (tp_rpay (tp_cls I aF e0 t) t (nI e0) (tp_mopen (tp_cls I aF e0 t) t (aF t) e0))) 10 t ((tp_rthen (tp_cls I aF e0 t) t (tp_mopen (tp_cls I aF e0 t) t (aF t) e0)) - (tp_rtaken (tp_cls I aF e0 t) t (nI e0) (tp_mopen (tp_cls I aF e0 t) t (aF t) e0)))) 11 t (((tp_cls I aF e0 t) 11 t) + (tp_rtaken (tp_cls I aF e0 t) t (nI e0) (tp_mopen (tp_cls I aF e0 t) t (aF t) e0)))) 9 ((48 * t) + e0) (tp_rpay (tp_cls I aF e0 t) t (nI e0) (tp_mopen (tp_cls I aF e0 t) t (aF t) e0))) o) := hD
        rw [← tp_fill_0 (I := tp_u (tp_u (tp_u (tp_u (tp_u (tp_u (tp_cls I aF e0 t) 2 13 (tp_rthen (tp_cls I aF e0 t) t (tp_mopen (tp_cls I aF e0 t) t (aF t) e0))) 2 14 (tp_rtaken (tp_cls I aF e0 t) t (nI e0) (tp_mopen (tp_cls I aF e0 t) t (aF t) e0))) 2 15 (tp_rpay (tp_cls I aF e0 t) t (nI e0) (tp_mopen (tp_cls I aF e0 t) t (aF t) e0))) 10 t ((tp_rthen (tp_cls I aF e0 t) t (tp_mopen (tp_cls I aF e0 t) t (aF t) e0)) - (tp_rtaken (tp_cls I aF e0 t) t (nI e0) (tp_mopen (tp_cls I aF e0 t) t (aF t) e0)))) 11 t (((tp_cls I aF e0 t) 11 t) + (tp_rtaken (tp_cls I aF e0 t) t (nI e0) (tp_mopen (tp_cls I aF e0 t) t (aF t) e0)))) 9 ((48 * t) + e0) (tp_rpay (tp_cls I aF e0 t) t (nI e0) (tp_mopen (tp_cls I aF e0 t) t (aF t) e0))) (c := 8) (lo := 48 * t + aF t) (g := (fun s => tp_mdue (tp_cls I aF e0 t) t (nI (aF t + s))))] at hP hD
        refine tp_for (nL := 4) (e0 + 1 - aF t) (fun s => tp_fill (tp_u (tp_u (tp_u (tp_u (tp_u (tp_u (tp_cls I aF e0 t) 2 13 (tp_rthen (tp_cls I aF e0 t) t (tp_mopen (tp_cls I aF e0 t) t (aF t) e0))) 2 14 (tp_rtaken (tp_cls I aF e0 t) t (nI e0) (tp_mopen (tp_cls I aF e0 t) t (aF t) e0))) 2 15 (tp_rpay (tp_cls I aF e0 t) t (nI e0) (tp_mopen (tp_cls I aF e0 t) t (aF t) e0))) 10 t ((tp_rthen (tp_cls I aF e0 t) t (tp_mopen (tp_cls I aF e0 t) t (aF t) e0)) - (tp_rtaken (tp_cls I aF e0 t) t (nI e0) (tp_mopen (tp_cls I aF e0 t) t (aF t) e0)))) 11 t (((tp_cls I aF e0 t) 11 t) + (tp_rtaken (tp_cls I aF e0 t) t (nI e0) (tp_mopen (tp_cls I aF e0 t) t (aF t) e0)))) 9 ((48 * t) + e0) (tp_rpay (tp_cls I aF e0 t) t (nI e0) (tp_mopen (tp_cls I aF e0 t) t (aF t) e0))) 8 (48 * t + aF t) (fun s => tp_mdue (tp_cls I aF e0 t) t (nI (aF t + s))) s) (fun s => [(3, .int (nI (aF t + s))), (1, .int ((tp_clsum I aF e0 t) + (tp_rpay (tp_cls I aF e0 t) t (nI e0) (tp_mopen (tp_cls I aF e0 t) t (aF t) e0)))), (2, .int (nI t)), (0, .ref (ad (2)))]) (fun s hs ls H locs hl hP hD hS ih2 => ?_) (fun ls H locs hl hP hD hS => ?_) hl hP hD hS
        · refine lv_iload_n hx hb dX2_close_97 rfl (lv_at hl 0 rfl) ?_
          refine lv_aload_n hx hb dX2_close_98 rfl (lv_at hl 3 rfl) ?_
          refine va_get (D := D) (ci := 2) (v := .int ((tp_fill (tp_u (tp_u (tp_u (tp_u (tp_u (tp_u (tp_cls I aF e0 t) 2 13 (tp_rthen (tp_cls I aF e0 t) t (tp_mopen (tp_cls I aF e0 t) t (aF t) e0))) 2 14 (tp_rtaken (tp_cls I aF e0 t) t (nI e0) (tp_mopen (tp_cls I aF e0 t) t (aF t) e0))) 2 15 (tp_rpay (tp_cls I aF e0 t) t (nI e0) (tp_mopen (tp_cls I aF e0 t) t (aF t) e0))) 10 t ((tp_rthen (tp_cls I aF e0 t) t (tp_mopen (tp_cls I aF e0 t) t (aF t) e0)) - (tp_rtaken (tp_cls I aF e0 t) t (nI e0) (tp_mopen (tp_cls I aF e0 t) t (aF t) e0)))) 11 t (((tp_cls I aF e0 t) 11 t) + (tp_rtaken (tp_cls I aF e0 t) t (nI e0) (tp_mopen (tp_cls I aF e0 t) t (aF t) e0)))) 9 ((48 * t) + e0) (tp_rpay (tp_cls I aF e0 t) t (nI e0) (tp_mopen (tp_cls I aF e0 t) t (aF t) e0))) 8 (48 * t + aF t) (fun s => tp_mdue (tp_cls I aF e0 t) t (nI (aF t + s))) s) 2 1)) (C := RX2) (T := TX2) (N := 16) hx hb hts (fun _ h => List.mem_cons_of_mem _ (List.mem_append_right _ (h))) hown hK hP 2 tp_e2 rfl 1 (by decide) (hts _ (List.mem_of_getElem? (i := 2) rfl)) (fun _ h9 => h9) rfl dX2_close_99 ?_
          refine tp_eqi (y := nI e0) heJ ?_
          refine lv_icmp_gt (tgt := 128) hx hb dX2_close_102 (by decide) (fun c102_3 => ?_) (fun c102_3 => ?_)
          · exact absurd c102_3 (nI_nlt (by omega) (by omega))
          · refine lv_aload_n hx hb dX2_close_105 rfl (lv_at hl 3 rfl) ?_
            refine va_get (D := D) (ci := 2) (v := .ref (ad (8))) (C := RX2) (T := TX2) (N := 16) hx hb hts (fun _ h => List.mem_cons_of_mem _ (List.mem_append_right _ (h))) hown hK hP 2 tp_e2 rfl 8 (by decide) (hts _ (List.mem_of_getElem? (i := 11) rfl)) (fun _ h9 => h9) rfl dX2_close_106 ?_
            refine lv_bipush (v := 48) hx hb dX2_close_109 (by decide) ?_
            refine lv_iload_n hx hb dX2_close_111 rfl (lv_at hl 2 rfl) ?_
            refine lv_imul hx hb dX2_close_112 ?_
            refine tp_eqi (y := nI (48 * t)) (pk_mul 48 t) ?_
            refine lv_iload_n hx hb dX2_close_113 rfl (lv_at hl 0 rfl) ?_
            refine lv_iadd hx hb dX2_close_114 ?_
            refine tp_eqi (y := nI ((48 * t) + (aF t + s))) (nI_add (48 * t) (aF t + s)) ?_
            refine lv_aload_n hx hb dX2_close_115 rfl (lv_at hl 3 rfl) ?_
            refine lv_iload_n hx hb dX2_close_116 rfl (lv_at hl 2 rfl) ?_
            refine lv_iload_n hx hb dX2_close_117 rfl (lv_at hl 0 rfl) ?_
            refine tp_callV ⟨hx, hb, hml, hown, hts⟩ (mc_dueOf l D cy n ad o (tp_fill (tp_u (tp_u (tp_u (tp_u (tp_u (tp_u (tp_cls I aF e0 t) 2 13 (tp_rthen (tp_cls I aF e0 t) t (tp_mopen (tp_cls I aF e0 t) t (aF t) e0))) 2 14 (tp_rtaken (tp_cls I aF e0 t) t (nI e0) (tp_mopen (tp_cls I aF e0 t) t (aF t) e0))) 2 15 (tp_rpay (tp_cls I aF e0 t) t (nI e0) (tp_mopen (tp_cls I aF e0 t) t (aF t) e0))) 10 t ((tp_rthen (tp_cls I aF e0 t) t (tp_mopen (tp_cls I aF e0 t) t (aF t) e0)) - (tp_rtaken (tp_cls I aF e0 t) t (nI e0) (tp_mopen (tp_cls I aF e0 t) t (aF t) e0)))) 11 t (((tp_cls I aF e0 t) 11 t) + (tp_rtaken (tp_cls I aF e0 t) t (nI e0) (tp_mopen (tp_cls I aF e0 t) t (aF t) e0)))) 9 ((48 * t) + e0) (tp_rpay (tp_cls I aF e0 t) t (nI e0) (tp_mopen (tp_cls I aF e0 t) t (aF t) e0))) 8 (48 * t + aF t) (fun s => tp_mdue (tp_cls I aF e0 t) t (nI (aF t + s))) s) t (by omega) hcJ (nI (aF t + s))) (cwV 2 hts gX2_close_X2_dueOf rfl rfl rfl (by decide +kernel) ⟨Nat.le_of_ble_eq_true rfl, Nat.le_of_ble_eq_true rfl⟩) hK hP hD hS hA 2 2 tp_e2 rfl rfl rfl hl.1 rfl (Nat.le_of_ble_eq_true rfl) dX2_close_118 ⟨Nat.zero_le _, Nat.zero_le _⟩ (fun I9 e9 H locs hP hD hS => ?_)
            subst e9
            refine tp_eqi (y := tp_mdue (tp_cls I aF e0 t) t (nI (aF t + s))) (tp_mdue_cong rfl rfl rfl rfl) ?_
            refine tp_iast hx hb hK hP hD hS (8) 288 (((48 * t) + (aF t + s))) (by omega) (fun _ => rfl) rfl (by omega) (by decide) dX2_close_121 (fun H locs hP hD hS => ?_)
            rw [show 48 * t + (aF t + s) = 48 * t + aF t + s from by omega, tp_fill_s rfl] at hP hD
            refine lv_iinc (v := (nI ((aF t + s) + 1))) (lv' := [(3, .int (nI ((aF t + s) + 1))), (1, .int ((tp_clsum I aF e0 t) + (tp_rpay (tp_cls I aF e0 t) t (nI e0) (tp_mopen (tp_cls I aF e0 t) t (aF t) e0)))), (2, .int (nI t)), (0, .ref (ad (2)))]) hx hb dX2_close_122 hl (k := 0) rfl (nI_1 _) (by decide) rfl (fun ls hl => ?_)
            refine lv_goto (tgt := 97) hx hb dX2_close_125 (by decide) ?_
            exact ih2 ls H locs (lv_sub hl [0, 1, 2, 3] rfl) hP hD hS
        · refine lv_iload_n hx hb dX2_close_97 rfl (lv_at hl 0 rfl) ?_
          refine lv_aload_n hx hb dX2_close_98 rfl (lv_at hl 3 rfl) ?_
          refine va_get (D := D) (ci := 2) (v := .int ((tp_fill (tp_u (tp_u (tp_u (tp_u (tp_u (tp_u (tp_cls I aF e0 t) 2 13 (tp_rthen (tp_cls I aF e0 t) t (tp_mopen (tp_cls I aF e0 t) t (aF t) e0))) 2 14 (tp_rtaken (tp_cls I aF e0 t) t (nI e0) (tp_mopen (tp_cls I aF e0 t) t (aF t) e0))) 2 15 (tp_rpay (tp_cls I aF e0 t) t (nI e0) (tp_mopen (tp_cls I aF e0 t) t (aF t) e0))) 10 t ((tp_rthen (tp_cls I aF e0 t) t (tp_mopen (tp_cls I aF e0 t) t (aF t) e0)) - (tp_rtaken (tp_cls I aF e0 t) t (nI e0) (tp_mopen (tp_cls I aF e0 t) t (aF t) e0)))) 11 t (((tp_cls I aF e0 t) 11 t) + (tp_rtaken (tp_cls I aF e0 t) t (nI e0) (tp_mopen (tp_cls I aF e0 t) t (aF t) e0)))) 9 ((48 * t) + e0) (tp_rpay (tp_cls I aF e0 t) t (nI e0) (tp_mopen (tp_cls I aF e0 t) t (aF t) e0))) 8 (48 * t + aF t) (fun s => tp_mdue (tp_cls I aF e0 t) t (nI (aF t + s))) (e0 + 1 - aF t)) 2 1)) (C := RX2) (T := TX2) (N := 16) hx hb hts (fun _ h => List.mem_cons_of_mem _ (List.mem_append_right _ (h))) hown hK hP 2 tp_e2 rfl 1 (by decide) (hts _ (List.mem_of_getElem? (i := 2) rfl)) (fun _ h9 => h9) rfl dX2_close_99 ?_
          refine tp_eqi (y := nI e0) heJ ?_
          refine lv_icmp_gt (tgt := 128) hx hb dX2_close_102 (by decide) (fun c102_4 => ?_) (fun c102_4 => ?_)
          · refine lv_iinc (v := (nI (t + 1))) (lv' := [(2, .int (nI (t + 1))), (3, .int (nI (aF t + (e0 + 1 - aF t)))), (1, .int ((tp_clsum I aF e0 t) + (tp_rpay (tp_cls I aF e0 t) t (nI e0) (tp_mopen (tp_cls I aF e0 t) t (aF t) e0)))), (0, .ref (ad (2)))]) hx hb dX2_close_128 hl (k := 2) rfl (nI_1 _) (by decide) rfl (fun ls hl => ?_)
            refine lv_goto (tgt := 24) hx hb dX2_close_131 (by decide) ?_
            exact ih ls H locs (lv_sub hl [0, 2, 3] rfl) hP hD hS
          · exact absurd (nI_lt (by omega) (by omega)) c102_4
    · refine lv_iload_n hx hb dX2_close_24 rfl (lv_at hl 0 rfl) ?_
      refine lv_aload_n hx hb dX2_close_25 rfl (lv_at hl 2 rfl) ?_
      refine va_get (D := D) (ci := 2) (v := .int ((tp_cls I aF e0 n0) 2 2)) (C := RX2) (T := TX2) (N := 16) hx hb hts (fun _ h => List.mem_cons_of_mem _ (List.mem_append_right _ (h))) hown hK hP 2 tp_e2 rfl 2 (by decide) (hts _ (List.mem_of_getElem? (i := 3) rfl)) (fun _ h9 => h9) rfl dX2_close_26 ?_
      refine tp_eqi (y := nI n0) ((tp_cls_keep2 (by decide) (by decide) n0).trans hn0) ?_
      refine lv_icmp_ge (tgt := 134) hx hb dX2_close_29 (by decide) (fun c29_5 => ?_) (fun c29_5 => ?_)
      · refine lv_aload_n hx hb dX2_close_134 rfl (lv_at hl 2 rfl) ?_
        refine lv_dup hx hb dX2_close_135 rfl ?_
        refine va_get (D := D) (ci := 2) (v := .int ((tp_cls I aF e0 n0) 2 1)) (C := RX2) (T := TX2) (N := 16) hx hb hts (fun _ h => List.mem_cons_of_mem _ (List.mem_append_right _ (h))) hown hK hP 2 tp_e2 rfl 1 (by decide) (hts _ (List.mem_of_getElem? (i := 2) rfl)) (fun _ h9 => h9) rfl dX2_close_136 ?_
        refine tp_eqi (y := nI e0) ((tp_cls_keep2 (by decide) (by decide) n0).trans he) ?_
        refine lv_iconst (v := 1) hx hb dX2_close_139 (by decide) ?_
        refine lv_iadd hx hb dX2_close_140 ?_
        refine tp_eqi (y := nI (e0 + 1)) (nI_add e0 1) ?_
        refine tp_put (ci := 2) (v := (nI (e0 + 1))) (ty := .int) (C := RX2) (T := TX2) (N := 16) hx hb hts (fun _ h => List.mem_cons_of_mem _ (List.mem_append_right _ (h))) tyX2 tyX2_ok nmX2 hown hK hP hD hS 2 tp_e2 (by omega) rfl 1 (by decide) (hts _ (List.mem_of_getElem? (i := 2) rfl)) rfl (by decide +kernel) rfl rfl (Nat.le_of_ble_eq_true rfl) rfl dX2_close_141 (fun H locs hP hD hS => ?_)
        refine lv_iload_n hx hb dX2_close_144 rfl (lv_at hl 1 rfl) ?_
        exact tp_reti hx hb hr hlocks hK hP hD hS rfl rfl rfl dX2_close_145
      · exact absurd (nI_le (by omega) (by omega)) c29_5
  · exact absurd ((he.symm.trans c11_1 : nI e0 = nI 48)) (fun z => absurd ((nI_eq (by omega) (by decide)).mp z) (by omega))
end
section
/-! WHAT AN OFFICE'S METHODS NEED OF THE MACHINE BESIDE THE STEADY WORDS -/
def tp_strs : List (Nat × String) := [(24, "there are 6 households"), (29, "there is no current month"), (43, "there is no such day"), (53, "the value is out of the range of the fact"), (58, "100 changes were told of the household"), (73, "the cents are out of range"), (78, "the debt is less than that"), (122, "there is no such household"), (125, "there is no such month"), (127, "there is no such fact")]
def tp_nws : List Cond := [.fieldLinkNest "TaperOffice" 55 "TaperOffice$Household" "changes" "I" "TaperOffice", .fieldLinkNest "TaperOffice" 68 "TaperOffice$Household" "disputes" "Z" "TaperOffice", .fieldLinkNest "TaperOffice" 75 "TaperOffice$Household" "debt" "I" "TaperOffice", .fieldLinkNest "TaperOffice" 89 "TaperOffice$Household" "values" "[[I" "TaperOffice", .fieldLinkNest "TaperOffice" 111 "TaperOffice$Household" "assessments" "[I" "TaperOffice", .fieldLinkNest "TaperOffice" 114 "TaperOffice$Household" "payments" "[I" "TaperOffice", .fieldLinkNest "TaperOffice" 117 "TaperOffice$Household" "takenBack" "I" "TaperOffice",
  .methodLinkNest "TaperOffice" 31 yX0_init "TaperOffice", .methodLinkNest "TaperOffice" 64 yX0_change "TaperOffice", .methodLinkNest "TaperOffice" 80 yX0_lowerDebt "TaperOffice", .methodLinkNest "TaperOffice" 83 yX0_settle "TaperOffice", .methodLinkNest "TaperOffice" 93 yX0_needIn "TaperOffice", .methodLinkNest "TaperOffice" 96 yX0_taperIn "TaperOffice", .methodLinkNest "TaperOffice" 99 yX0_tariffIn "TaperOffice", .methodLinkNest "TaperOffice" 102 yX0_dueIn "TaperOffice", .methodLinkNest "TaperOffice" 105 yX0_unassessedBefore "TaperOffice", .methodLinkNest "TaperOffice" 108 yX0_paymentIn "TaperOffice",
  .castable "java/lang/IllegalStateException" "java/lang/IllegalStateException", .castable "java/lang/IllegalArgumentException" "java/lang/IllegalArgumentException", .castable "java/lang/IndexOutOfBoundsException" "java/lang/IndexOutOfBoundsException", .declares (Bundle.initS "java/lang/RuntimeException"), .declares (Bundle.initS "java/lang/Exception"), .declares (Bundle.initS "java/lang/Throwable")]
def tp_ncs : List (String × String) := [("java/lang/IllegalArgumentException", "java/lang/IndexOutOfBoundsException"), ("java/lang/IllegalStateException", "java/lang/IndexOutOfBoundsException"), ("java/lang/IllegalStateException", "java/lang/IllegalArgumentException")]
def tp_nwk : Cond → Bool
  | .fieldLinkNest .. | .methodLinkNest .. | .declares _ | .castable .. => true
  | _ => false
theorem tp_nwk_ok : ∀ w ∈ tp_nws, tp_nwk w = true := by decide +kernel
theorem tp_nwk_on {w : Cond} (hk : tp_nwk w = true) : w.onTables = true := by
  cases w <;> first | rfl | (simp [tp_nwk] at hk; done)
theorem tp_nw_go {w : Cond} {s U : State} (hk : tp_nwk w = true) (hW : s.WarmedH U.vm) (h : va_Nw w s) : va_Nw w U := by
  cases w <;> first | (simp [tp_nwk] at hk; done) | exact va_Nw.warmF hW h | exact va_Nw.warmM hW h | exact va_Nw.warmD hW h | exact va_Nw.warmC hW h
def tp_vl (j : Nat) : Int32 := if j = 0 then 1 else 0
def tp_vm (j : Nat) : Int32 := if j = 0 then 2 else if j = 1 then 9 else if j = 4 then 10000000 else 1000000
/-- sa: the texts' addresses; tL, tM: the two tables of ranges -/
def tp_EV (sa : Nat → Nat) (tL tM : Nat) (A : Nat → Prop) (U : State) (H : Heap) : Prop :=
  (vx_Zq Bundle.tN "UNASSIGNED_STACK" Bundle.steD A U H ∧ vx_Zq Bundle.tN "SUPPRESSED_SENTINEL" Bundle.listD A U H) ∧
  ((va_Z "TaperOffice" "LEAST_VALUES" "[I" (.ref tL) A U H ∧ va_T .int tL 5 (fun j => .int (tp_vl j)) A U H) ∧ (va_Z "TaperOffice" "MOST_VALUES" "[I" (.ref tM) A U H ∧ va_T .int tM 5 (fun j => .int (tp_vm j)) A U H)) ∧
  (∀ q ∈ tp_strs, vk_R "TaperOffice" q.1 q.2 (sa q.1) U) ∧ (∀ w ∈ tp_nws, va_Nw w U) ∧ (∀ q ∈ tp_ncs, va_Nc q.1 q.2 U) ∧ va_AOA .int U ∧ va_AO "TaperOffice$Household" U
theorem tp_EV.go {sa : Nat → Nat} {tL tM : Nat} {A B : Nat → Prop} {s U : State} {H : Heap} {locs : List Loc} (h : tp_EV sa tL tM A s s.heap) (hW : s.WarmedH U.vm) (hU : U.heap = H) (hS : va_S A s.heap H locs) (hAB : ∀ q, B q → A q) : tp_EV sa tL tM B U U.heap := by
  subst hU
  obtain ⟨⟨h1, h2⟩, ⟨⟨h3, h4⟩, ⟨h5, h6⟩⟩, h7, h8, h9, h10, h11⟩ := h
  exact ⟨⟨((h1.kept hS.2.1).narrow hAB).moved hW.alike, ((h2.kept hS.2.1).narrow hAB).moved hW.alike⟩, ⟨⟨((h3.kept hS.2.1).narrow hAB).moved hW.alike, ((h4.kept hS.2.1).narrow hAB).moved hW.alike⟩, ⟨((h5.kept hS.2.1).narrow hAB).moved hW.alike, ((h6.kept hS.2.1).narrow hAB).moved hW.alike⟩⟩, fun q hq => vk_R.warm hW (h7 q hq), fun w hw => tp_nw_go (tp_nwk_ok w hw) hW (h8 w hw), fun q hq => va_Nc.moved hW.alike (h9 q hq), h10.moved hW.alike, h11.moved hW.alike⟩
theorem tp_EV.same {sa : Nat → Nat} {tL tM : Nat} {A : Nat → Prop} {u U : State} {H : Heap} (h : tp_EV sa tL tM A u H) (hv : U.vm = u.vm) : tp_EV sa tL tM A U H := by
  obtain ⟨⟨h1, h2⟩, ⟨⟨h3, h4⟩, ⟨h5, h6⟩⟩, h7, h8, h9, h10, h11⟩ := h
  have ha : u.vm.Alike U.vm := by rw [hv]; exact Vm.Alike.refl _
  exact ⟨⟨h1.moved ha, h2.moved ha⟩, ⟨⟨h3.moved ha, h4.moved ha⟩, ⟨h5.moved ha, h6.moved ha⟩⟩, fun q hq => vk_R.same hv (h7 q hq), fun w hw => va_Nw.same (tp_nwk_on (tp_nwk_ok w hw)) hv.symm (h8 w hw), fun q hq => va_Nc.moved ha (h9 q hq), h10.moved ha, h11.moved ha⟩
/-- a state that an office's method starts from -/
def tp_PE (D : va_G) (cy : Nat → ClassId) (n : Nat) (ad : Nat → Nat) (I : Nat → Nat → Int32) (o : Int64) (sa : Nat → Nat) (tL tM : Nat) (sz : Nat) (U : State) : Prop := tp_P D cy n ad I o sz U ∧ tp_EV sa tL tM (va_A (tp_w cy n ad I o) sz) U U.heap
def tp_IE (l : Launch) (y : MethodName) (ws : List Cond) (rm : Room) (D : va_G) (cy : Nat → ClassId) (n : Nat) (ad : Nat → Nat) (o : Int64) (sa : Nat → Nat) (tL tM : Nat) (as : List Value) (I : Nat → Nat → Int32) (r : Int32) (I' : Nat → Nat → Int32) : Prop :=
  ∀ sz : Nat, Met l y ws rm (va_Pc as (tp_PE D cy n ad I o sa tL tM sz)) (va_Qi (fun x u => x = r ∧ u = I') (tp_B D cy n ad o (va_A (tp_w cy n ad I o) sz)) (va_A (tp_w cy n ad I o) sz)) 0 0 (va_A (tp_w cy n ad I o) sz)
/-- it answers the cell of the number k -/
def tp_R (l : Launch) (y : MethodName) (ws : List Cond) (rm : Room) (D : va_G) (cy : Nat → ClassId) (n : Nat) (ad : Nat → Nat) (o : Int64) (as : List Value) (I : Nat → Nat → Int32) (k : Nat) : Prop :=
  ∀ sz : Nat, Met l y ws rm (va_Pc as (tp_P D cy n ad I o sz)) (va_Qq (fun x u => x = some (ad k) ∧ u = I) (tp_B D cy n ad o (va_A (tp_w cy n ad I o) sz)) (va_A (tp_w cy n ad I o) sz)) 0 0 (va_A (tp_w cy n ad I o) sz)
def tp_XC (E : String) (D : va_G) (cy : Nat → ClassId) (n : Nat) (ad : Nat → Nat) (I : Nat → Nat → Int32) (o : Int64) (A : Nat → Prop) : String → State → State → Prop := vx_X (S := Unit) (fun _ => True) (fun E' _ t => E' = E ∧ tp_B D cy n ad o A I t) A
abbrev tp_rx (fr lo : Nat) : Room := { frames := fr, cells := 1, slots := 6, locals := lo }
/-- it throws an E, and changes nothing -/
def tp_T (l : Launch) (y : MethodName) (ws : List Cond) (fr lo : Nat) (D : va_G) (cy : Nat → ClassId) (n : Nat) (ad : Nat → Nat) (o : Int64) (sa : Nat → Nat) (tL tM : Nat) (as : List Value) (I : Nat → Nat → Int32) (E : String) : Prop :=
  ∀ sz : Nat, vx_Met l y ws (tp_rx fr lo) (va_Pc as (tp_PE D cy n ad I o sa tL tM sz)) (fun _ _ _ _ => False) (tp_XC E D cy n ad I o (va_A (tp_w cy n ad I o) sz)) 1 6 (va_A (tp_w cy n ad I o) sz)
section TPE
variable {D : va_G} {cy : Nat → ClassId} {n : Nat} {ad : Nat → Nat} {I : Nat → Nat → Int32} {o : Int64} {sa : Nat → Nat} {tL tM : Nat}
theorem tp_blindE {as : List Value} {sz : Nat} : FrameBlind (va_Pc as (tp_PE D cy n ad I o sa tL tM sz)) := fun a U g mk q => by
  obtain ⟨q0, ⟨q1, qP, qK, qD⟩, qE⟩ := q
  exact ⟨q0, ⟨q1, qP, va_K.moved (u := U) (U := U.calling g mk a) (Vm.Alike.refl U.vm) qK, qD⟩, tp_EV.same (u := U) (U := U.calling g mk a) qE rfl⟩
theorem tp_ofIE {l : Launch} {y : MethodName} {ws ws' : List Cond} {fr lo : Nat} {I' : Nat → Nat → Int32} {as : List Value} {r : Int32} {cc : ByteArray} {maxL : Nat} {ret : Option FieldType} {lv : List (Nat × Value)}
    (hy : plainName y.cls = true) (hw : ws = Cond.code y cc maxL ret :: ws') (hlen : (lg_sl as).length ≤ maxL) (hlv : lv_args 0 as = lv)
    (body : ∀ (p : Program) (e : Env) (s : State) (m : MethodId) (args : Array Value) (below : List Frame) (meth : Method) (c : Code) (A : Nat → Prop) (ls : Array Slot), tp_S p s m args meth c y ws cc maxL ret D cy n ad o I A ls lv → tp_EV sa tL tM A s s.heap →
      W p l e (tp_rm fr lo) s m args below meth c s.heap [] 0 0 (MQ below (va_Qi (fun x u => x = r ∧ u = I') (tp_B D cy n ad o A) A) args s 0 0 A) (F0 m 0 ls [])) :
    tp_IE l y ws (tp_rm fr lo) D cy n ad o sa tL tM as I r I' := by
  intro sz
  refine Met.ofW (cc := cc) (maxL := maxL) (ret := ret) hy hw ?_
  intro p e s m args below meth c s₁ B hml hv
  obtain ⟨rfl, ⟨hsz, hP, hK, hD0⟩, hE⟩ := hv
  subst hsz
  have hown : s.vm.findClass y.cls = some m.cls := findClass_of_methodNamed B.named
  have hD := hD0.self (sz := s.heap.size)
  generalize hAe : va_A (tp_w cy n ad I o) s.heap.size = A at hD hE ⊢
  have hA : ∀ q : Nat, s.heap.size ≤ q → A q := fun q h => by rw [← hAe]; exact Or.inr h
  have hl := lv_entry as (n := maxL) hlen
  rw [hlv] at hl
  rw [lg_entry_eq]
  exact body p e s m _ below meth c A _ ⟨B.exec, B.bytes, B.returns, hml, hown, atoms_spec (ws := ws) B.pre, B.notSynchronized, hA, hK, hP, hD, va_S.rf, hl⟩ hE
theorem tp_ofR {l : Launch} {y : MethodName} {ws ws' : List Cond} {fr lo k : Nat} {as : List Value} {cc : ByteArray} {maxL : Nat} {ret : Option FieldType} {lv : List (Nat × Value)}
    (hy : plainName y.cls = true) (hw : ws = Cond.code y cc maxL ret :: ws') (hlen : (lg_sl as).length ≤ maxL) (hlv : lv_args 0 as = lv)
    (body : ∀ (p : Program) (e : Env) (s : State) (m : MethodId) (args : Array Value) (below : List Frame) (meth : Method) (c : Code) (A : Nat → Prop) (ls : Array Slot), tp_S p s m args meth c y ws cc maxL ret D cy n ad o I A ls lv →
      W p l e (tp_rm fr lo) s m args below meth c s.heap [] 0 0 (MQ below (va_Qq (fun x u => x = some (ad k) ∧ u = I) (tp_B D cy n ad o A) A) args s 0 0 A) (F0 m 0 ls [])) :
    tp_R l y ws (tp_rm fr lo) D cy n ad o as I k := by
  intro sz
  refine Met.ofW (cc := cc) (maxL := maxL) (ret := ret) hy hw ?_
  intro p e s m args below meth c s₁ B hml hv
  obtain ⟨rfl, hsz, hP, hK, hD0⟩ := hv
  subst hsz
  have hown : s.vm.findClass y.cls = some m.cls := findClass_of_methodNamed B.named
  have hD := hD0.self (sz := s.heap.size)
  generalize hAe : va_A (tp_w cy n ad I o) s.heap.size = A at hD ⊢
  have hA : ∀ q : Nat, s.heap.size ≤ q → A q := fun q h => by rw [← hAe]; exact Or.inr h
  have hl := lv_entry as (n := maxL) hlen
  rw [hlv] at hl
  rw [lg_entry_eq]
  exact body p e s m _ below meth c A _ ⟨B.exec, B.bytes, B.returns, hml, hown, atoms_spec (ws := ws) B.pre, B.notSynchronized, hA, hK, hP, hD, va_S.rf, hl⟩
theorem tp_ofT {l : Launch} {y : MethodName} {ws ws' : List Cond} {fr lo : Nat} {E : String} {as : List Value} {cc : ByteArray} {maxL : Nat} {ret : Option FieldType} {lv : List (Nat × Value)}
    (hy : plainName y.cls = true) (hw : ws = Cond.code y cc maxL ret :: ws') (hlen : (lg_sl as).length ≤ maxL) (hlv : lv_args 0 as = lv)
    (body : ∀ (p : Program) (e : Env) (s : State) (m : MethodId) (args : Array Value) (below : List Frame) (meth : Method) (c : Code) (A : Nat → Prop) (ls : Array Slot), tp_S p s m args meth c y ws cc maxL ret D cy n ad o I A ls lv → tp_EV sa tL tM A s s.heap → (∀ x ∈ c.exceptionTable.toList, False) →
      W p l e (tp_rx fr lo) s m args below meth c s.heap [] 0 0 (vx_MQ below (fun _ _ _ _ => False) (tp_XC E D cy n ad I o A) args s 1 6 A) (F0 m 0 ls [])) :
    tp_T l y ws fr lo D cy n ad o sa tL tM as I E := by
  intro sz
  refine vx_ofW (cc := cc) (maxL := maxL) (ret := ret) hy hw ?_
  intro p e s m args below meth c s₁ B hml hxt hv
  obtain ⟨rfl, ⟨hsz, hP, hK, hD0⟩, hE⟩ := hv
  subst hsz
  have hown : s.vm.findClass y.cls = some m.cls := findClass_of_methodNamed B.named
  have hD := hD0.self (sz := s.heap.size)
  generalize hAe : va_A (tp_w cy n ad I o) s.heap.size = A at hD hE ⊢
  have hA : ∀ q : Nat, s.heap.size ≤ q → A q := fun q h => by rw [← hAe]; exact Or.inr h
  have hl := lv_entry as (n := maxL) hlen
  rw [hlv] at hl
  rw [lg_entry_eq]
  exact body p e s m _ below meth c A _ ⟨B.exec, B.bytes, B.returns, hml, hown, atoms_spec (ws := ws) B.pre, B.notSynchronized, hA, hK, hP, hD, va_S.rf, hl⟩ hE hxt
section TPER
variable {p : Program} {l : Launch} {e : Env} {R : Room} {s : State} {m : MethodId} {args : Array Value} {below : List Frame} {meth : Method} {c : Code} {H : Heap} {locs : List Loc} {cells slots : Nat} {Q : State → Prop}
variable {cc : ByteArray} {pc : Nat} {ls : Array Slot} {rest : List Value} {A : Nat → Prop} {H0 : Heap}
theorem tp_retq {k : Nat} {rt : FieldType} (hx : p.tables.exec = Jvm.exec) (hb : c.code = cc) (hr : meth.sig.returnType = some rt) (hrt : (∃ n, rt = .object n) ∨ ∃ t, rt = .array t) (hlocks : meth.locks = false) (hK : va_K D vwCl (tp_ty cy) s) (hP : va_P D vwCl (tp_w cy n ad I o) H) (hD : va_D A (tp_w cy n ad I o)) (hS : va_S A s.heap H locs) (hdg : decode cc pc = .ok (.areturn, 1)) :
    W p l e R s m args below meth c H locs 0 0 (MQ below (va_Qq (fun x u => x = some (ad k) ∧ u = I) (tp_B D cy n ad o A) A) args s 0 0 A) (F0 m pc ls [.ref (ad k)]) :=
  W.aret (v := .ref (ad k)) hx hb hr hrt (Or.inr ⟨_, rfl⟩) (fun t ht hW => ⟨⟨some (ad k), I, rfl, ⟨rfl, rfl⟩, by rw [ht]; exact hP, va_K.moved hW.alike hK, hD⟩, hS.F ht⟩) hS.2.2 hdg
/-- a throw of one's own -/
theorem tp_throw {E text : String} {ik is ic : Nat} (hx : p.tables.exec = Jvm.exec) (hb : c.code = cc) (hlt : l.stackTraces = false) (hown : s.vm.findClass "TaperOffice" = some m.cls) (hcls : Bundle.fit E = true)
    (hk : (Cond.classLink "TaperOffice" ik E).before args s = true) (hini : (Cond.initialized E).before args s = true) (hstr : (is, text) ∈ tp_strs) (hat : ∀ w ∈ (vx_atS "TaperOffice" ic E ["java/lang/RuntimeException", "java/lang/Exception"]).filter goodWord, w.before args s = true)
    (hng : ∀ w ∈ (vx_atS "TaperOffice" ic E ["java/lang/RuntimeException", "java/lang/Exception"]).filter (fun w => !goodWord w), w ∈ tp_nws) (hgood : ∀ w ∈ Cond.classLink "TaperOffice" ik E :: Cond.initialized E :: vx_atS "TaperOffice" ic E ["java/lang/RuntimeException", "java/lang/Exception"], vx_ot w = true)
    (hE : tp_EV sa tL tM A s s.heap) (hK : va_K D vwCl (tp_ty cy) s) (hP : va_P D vwCl (tp_w cy n ad I o) H) (hD : va_D A (tp_w cy n ad I o)) (hS : va_S A s.heap H locs) (hsize : ls.size = c.maxLocals)
    (d0 : decode cc pc = .ok (.new ik, 3)) (d3 : decode cc (pc + 3) = .ok (.dup, 1)) (d4 : decode cc (pc + 4) = .ok (.ldc is, 2)) (d6 : decode cc (pc + 6) = .ok (.invokespecial ic, 3)) (d9 : decode cc (pc + 9) = .ok (.athrow, 1)) (hxt : ∀ x ∈ c.exceptionTable.toList, False) (hlocks : meth.locks = false)
    (hRf : 6 ≤ R.frames) (hRl : (rest.map fun v => v.category).sum + 82 ≤ R.locals) (hRc : 1 ≤ R.cells) (hRs : 6 ≤ R.slots) :
    W p l e R s m args below meth c H locs 0 0 (vx_MQ below (fun _ _ _ _ => False) (tp_XC E D cy n ad I o A) args s 1 6 A) (F0 m pc ls rest) := by
  obtain ⟨⟨hU, hN⟩, -, h7, h8, -, -, -⟩ := hE
  refine vx_throwS (names := ["java/lang/RuntimeException", "java/lang/Exception"]) (text := text) (A := A) hx hb hlt hown hcls (by decide +kernel) hk hini (h7 _ hstr) (vx_hat hat hng (fun w hw => va_Nw.use (tp_nwk_on (tp_nwk_ok w hw)) (h8 w hw))) hgood hU hN hS hsize d0 d3 d4 d6 d9 (fun x hx => (hxt x hx).elim) (by simp only [List.length_cons, List.length_nil]; omega) (by simp only [List.length_cons, List.length_nil]; omega) (by omega) (by omega) hlocks (fun t ha hz hk => ?_) hS.2.2 (by omega) (by omega)
  refine ⟨(), trivial, ⟨rfl, hP.kept (fun k q hq => hk q.1 ((hP k q hq).lt)), va_K.moved ha hK, hD⟩, Nat.le_trans hS.1 hz, fun q h1 h2 => (hk q (Nat.lt_of_lt_of_le h1 hS.1)).trans (hS.2.1 q h1 h2)⟩
/-- a callee's throw leaves this method too -/
theorem tp_out {E : String} {ce : Cell} {q9 : Addr} (hxt : ∀ x ∈ c.exceptionTable.toList, False) (hlocks : meth.locks = false) (hce : H[q9]? = some ce) (hcv : ce.vm = .none) (hcl : s.vm.findClass E = some ce.cls) (hK : va_K D vwCl (tp_ty cy) s) (hP : va_P D vwCl (tp_w cy n ad I o) H) (hD : va_D A (tp_w cy n ad I o)) (hS : va_S A s.heap H locs) (hc : cells ≤ 1) (hs : slots ≤ 6) :
    vx_W p l e R s m args below meth c H locs cells slots (vx_MQ below (fun _ _ _ _ => False) (tp_XC E D cy n ad I o A) args s 1 6 A) (F0 m pc ls rest) q9 :=
  vx_out (E := E) (fun x hx => (hxt x hx).elim) hlocks hce hcv hcl (fun t ht ha => ⟨(), trivial, ⟨rfl, by rw [ht]; exact hP, va_K.moved ha hK, hD⟩, hS.F ht⟩) hS.2.2 hc hs
theorem tp_gone {mc ms : Nat} {E : String} {A1 : Nat → Prop} {free : Addr → Prop} {st : List Value} (hr : vx_Run p l e R s m args below meth c H locs cells slots mc ms (F0 m pc ls st) rest (fun _ _ _ => False) (tp_XC E D cy n ad I o A1) free) (hS : va_S A H0 H locs) (hAX : ∀ q, A1 q → A q) (hf : ∀ q, free q → A q)
    (kx : ∀ (ce : Cell) (q9 : Addr) (H1 : Heap) (locs1 : List Loc), H1[q9]? = some ce → ce.vm = .none → s.vm.findClass E = some ce.cls → va_P D vwCl (tp_w cy n ad I o) H1 → va_D A (tp_w cy n ad I o) → va_S A H0 H1 locs1 → vx_W p l e R s m args below meth c H1 locs1 (cells + mc) (slots + ms) Q (F0 m pc ls rest) q9) : W p l e R s m args below meth c H locs cells slots Q (F0 m pc ls st) := by
  intro T hT X
  rcases hr T hT X with ⟨v, st₀, t, T', L, h0, X', hL, e1, e2, hQ, st⟩ | ⟨q, st₀, t, T', L, E', ce, h0, X', hL, e1, e2, ⟨u, -, ⟨rfl, hP1, hK1, hD1⟩, hF⟩, hce, hcv, hcl, st⟩
  · exact hQ.elim
  · obtain ⟨k1, k2, k3⟩ := vx_keep h0 e1 hS (fun q _ h => hAX q h) hf hL hF
    obtain ⟨t2, a1, b1⟩ := kx ce q T'.heap (locs ++ L) (by rw [e1]; exact hce) hcv hcl (by rw [e1]; exact hP1) (hD1.weaken (fun _ _ _ h => hAX _ h)) k3 T' rfl X'
    exact ⟨t2, st.trans a1, b1⟩
theorem tp_callVT {own C E : String} {index nA nL maxL fr lo : Nat} {y : MethodName} {bytes : ByteArray} {ret : Option FieldType} {ws Ts : List Cond} {b : Nat} {As st fs : List Value} {q : vw_C}
    (S : CallFix p m c cc nL s args Ts own) (hM : tp_T l y ws fr lo D cy n ad o sa tL tM (.ref b :: As) I E) (cw : CallW R s args own C index y bytes maxL ret ws (tp_rx fr lo) 1 6 nA) (hE : tp_EV sa tL tM A s s.heap) (hK : va_K D vwCl (tp_ty cy) s) (hP : va_P D vwCl (tp_w cy n ad I o) H) (hD : va_D A (tp_w cy n ad I o)) (hS : va_S A s.heap H locs) (hA : ∀ q : Nat, s.heap.size ≤ q → A q)
    (k0 ci : Nat) (he : (tp_w cy n ad I o)[k0]? = some (b, .inr (ci, fs))) (hci : vwCl[ci]? = some q) (hqC : q.1 = C) (hn : As.length = nA) (hls : ls.size = nL) (hst : st = As.reverse ++ .ref b :: rest) (hroom : (rest.map fun v => v.category).sum ≤ 8) (hdg : decode cc pc = .ok (.invokevirtual index, 3)) (hcs : cells + 1 ≤ R.cells ∧ slots + 6 ≤ R.slots)
    (kx : ∀ (ce : Cell) (q9 : Addr) (H1 : Heap) (locs1 : List Loc), H1[q9]? = some ce → ce.vm = .none → s.vm.findClass E = some ce.cls → va_P D vwCl (tp_w cy n ad I o) H1 → va_D A (tp_w cy n ad I o) → va_S A s.heap H1 locs1 → vx_W p l e R s m args below meth c H1 locs1 (cells + 1) (slots + 6) Q (F0 m pc ls rest) q9) : W p l e R s m args below meth c H locs cells slots Q (F0 m pc ls st) := by
  subst hst
  subst hqC
  have hF := tp_fr hD hS hA
  exact tp_gone (vx_runV (As := As) (rest := rest) S (hM H.size) cw ⟨tp_blindE, va_recv hK hP hci he, fun U hU hW => ⟨rfl, ⟨by rw [hU], by rw [hU]; exact hP, va_K.moved hW.alike hK, hD.weaken (fun _ _ _ _ => trivial)⟩, tp_EV.go hE hW hU hS hF⟩⟩ rfl hn hls rfl (lv_room hroom) hdg hcs) hS hF hF kx
theorem tp_callST {own E : String} {index nA nL maxL fr lo : Nat} {y : MethodName} {bytes : ByteArray} {ret : Option FieldType} {ws Ts : List Cond} {As st : List Value}
    (S : CallFix p m c cc nL s args Ts own) (hM : tp_T l y ws fr lo D cy n ad o sa tL tM As I E) (cw : CallB R s args own index y bytes maxL ret ws (tp_rx fr lo) 1 6 nA ∧ (Cond.static y).before args s = true) (hE : tp_EV sa tL tM A s s.heap) (hK : va_K D vwCl (tp_ty cy) s) (hP : va_P D vwCl (tp_w cy n ad I o) H) (hD : va_D A (tp_w cy n ad I o)) (hS : va_S A s.heap H locs) (hA : ∀ q : Nat, s.heap.size ≤ q → A q)
    (hn : As.length = nA) (hls : ls.size = nL) (hst : st = As.reverse ++ rest) (hroom : (rest.map fun v => v.category).sum ≤ 8) (hdg : decode cc pc = .ok (.invokestatic index, 3)) (hcs : cells + 1 ≤ R.cells ∧ slots + 6 ≤ R.slots)
    (kx : ∀ (ce : Cell) (q9 : Addr) (H1 : Heap) (locs1 : List Loc), H1[q9]? = some ce → ce.vm = .none → s.vm.findClass E = some ce.cls → va_P D vwCl (tp_w cy n ad I o) H1 → va_D A (tp_w cy n ad I o) → va_S A s.heap H1 locs1 → vx_W p l e R s m args below meth c H1 locs1 (cells + 1) (slots + 6) Q (F0 m pc ls rest) q9) : W p l e R s m args below meth c H locs cells slots Q (F0 m pc ls st) := by
  subst hst
  have hF := tp_fr hD hS hA
  exact tp_gone (vx_runS (As := As) (rest := rest) S (hM H.size) cw ⟨tp_blindE, fun U hU hW => ⟨rfl, ⟨by rw [hU], by rw [hU]; exact hP, va_K.moved hW.alike hK, hD.weaken (fun _ _ _ _ => trivial)⟩, tp_EV.go hE hW hU hS hF⟩⟩ rfl hn hls rfl (lv_room hroom) hdg hcs) hS hF hF kx
theorem tp_callR {own C : String} {index nA nL maxL fr lo k : Nat} {y : MethodName} {bytes : ByteArray} {ret : Option FieldType} {ws Ts : List Cond} {b : Nat} {As st fs : List Value} {q : vw_C}
    (S : CallFix p m c cc nL s args Ts own) (hM : tp_R l y ws (tp_rm fr lo) D cy n ad o (.ref b :: As) I k) (cw : CallW R s args own C index y bytes maxL ret ws (tp_rm fr lo) 0 0 nA) (hK : va_K D vwCl (tp_ty cy) s) (hP : va_P D vwCl (tp_w cy n ad I o) H) (hD : va_D A (tp_w cy n ad I o)) (hS : va_S A H0 H locs) (hA : ∀ q : Nat, H0.size ≤ q → A q)
    (k0 ci : Nat) (he : (tp_w cy n ad I o)[k0]? = some (b, .inr (ci, fs))) (hci : vwCl[ci]? = some q) (hqC : q.1 = C) (hn : As.length = nA) (hls : ls.size = nL) (hst : st = As.reverse ++ .ref b :: rest) (hroom : (rest.map fun v => v.category).sum ≤ 8) (hdg : decode cc pc = .ok (.invokevirtual index, 3)) (hcs : cells ≤ R.cells ∧ slots ≤ R.slots)
    (kk : ∀ (H1 : Heap) (locs1 : List Loc), va_P D vwCl (tp_w cy n ad I o) H1 → va_D A (tp_w cy n ad I o) → va_S A H0 H1 locs1 → W p l e R s m args below meth c H1 locs1 cells slots Q (F0 m (pc + 3) ls (.ref (ad k) :: rest))) : W p l e R s m args below meth c H locs cells slots Q (F0 m pc ls st) := by
  subst hst
  subst hqC
  have hF := tp_fr hD hS hA
  refine va_callq (va_runV (As := As) (rest := rest) S (hM H.size) cw ⟨tp_blind, va_recv hK hP hci he, fun U hU hW => ⟨rfl, by rw [hU], by rw [hU]; exact hP, va_K.moved hW.alike hK, hD.weaken (fun _ _ _ _ => trivial)⟩⟩ rfl hn hls rfl (lv_room hroom) hdg hcs) hS (fun q _ h => hF q h) hF (fun r1 u t H1 locs1 ht hvm hw hB hz1 hk1 hS1 => ?_)
  obtain ⟨rfl, rfl⟩ := hw
  obtain ⟨hP1, hK1, hD1⟩ := hB
  rw [ht] at hP1
  exact kk H1 locs1 hP1 (hD1.weaken (fun _ _ _ h => hF _ h)) hS1
/-- a nest mate's private method -/
theorem tp_callN {own C host : String} {index nA nL maxL fr lo : Nat} {y : MethodName} {bytes : ByteArray} {ret : Option FieldType} {ws Ts : List Cond} {b : Nat} {As st fs : List Value} {r : Int32} {I' : Nat → Nat → Int32} {q : vw_C}
    (S : CallFix p m c cc nL s args Ts own) (hM : tp_I l y ws (tp_rm fr lo) D cy n ad o (.ref b :: As) I r I') (cw : va_CN R s args own index y host bytes maxL ret ws (tp_rm fr lo) 0 0 nA ∧ (Cond.instanceMethod y).before args s = true ∧ (Cond.selects C y y).before args s = true) (hK : va_K D vwCl (tp_ty cy) s) (hP : va_P D vwCl (tp_w cy n ad I o) H) (hD : va_D A (tp_w cy n ad I o)) (hS : va_S A H0 H locs) (hA : ∀ q : Nat, H0.size ≤ q → A q)
    (k0 ci : Nat) (he : (tp_w cy n ad I o)[k0]? = some (b, .inr (ci, fs))) (hci : vwCl[ci]? = some q) (hqC : q.1 = C) (hn : As.length = nA) (hls : ls.size = nL) (hst : st = As.reverse ++ .ref b :: rest) (hroom : (rest.map fun v => v.category).sum ≤ 8) (hdg : decode cc pc = .ok (.invokevirtual index, 3)) (hcs : cells ≤ R.cells ∧ slots ≤ R.slots)
    (kk : ∀ I1 : Nat → Nat → Int32, I' = I1 → ∀ (H1 : Heap) (locs1 : List Loc), va_P D vwCl (tp_w cy n ad I1 o) H1 → va_D A (tp_w cy n ad I1 o) → va_S A H0 H1 locs1 → W p l e R s m args below meth c H1 locs1 cells slots Q (F0 m (pc + 3) ls (.int r :: rest))) : W p l e R s m args below meth c H locs cells slots Q (F0 m pc ls st) := by
  subst hst
  subst hqC
  have hF := tp_fr hD hS hA
  refine va_calli (va_runVN (As := As) (rest := rest) S (hM H.size) cw ⟨tp_blind, va_recv hK hP hci he, fun U hU hW => ⟨rfl, by rw [hU], by rw [hU]; exact hP, va_K.moved hW.alike hK, hD.weaken (fun _ _ _ _ => trivial)⟩⟩ rfl hn hls rfl (lv_room hroom) hdg hcs) hS (fun q _ h => hF q h) hF (fun r1 u t H1 locs1 ht hvm hw hB hz1 hk1 hS1 => ?_)
  obtain ⟨rfl, rfl⟩ := hw
  obtain ⟨hP1, hK1, hD1⟩ := hB
  rw [ht] at hP1
  exact kk _ rfl H1 locs1 hP1 (hD1.weaken (fun _ _ _ h => hF _ h)) hS1
theorem tp_callNv {own C host : String} {index nA nL maxL fr lo : Nat} {y : MethodName} {bytes : ByteArray} {ret : Option FieldType} {ws Ts : List Cond} {b : Nat} {As st fs : List Value} {I' : Nat → Nat → Int32} {q : vw_C}
    (S : CallFix p m c cc nL s args Ts own) (hM : tp_V l y ws (tp_rm fr lo) D cy n ad o (.ref b :: As) I I') (cw : va_CN R s args own index y host bytes maxL ret ws (tp_rm fr lo) 0 0 nA ∧ (Cond.instanceMethod y).before args s = true ∧ (Cond.selects C y y).before args s = true) (hK : va_K D vwCl (tp_ty cy) s) (hP : va_P D vwCl (tp_w cy n ad I o) H) (hD : va_D A (tp_w cy n ad I o)) (hS : va_S A H0 H locs) (hA : ∀ q : Nat, H0.size ≤ q → A q)
    (k0 ci : Nat) (he : (tp_w cy n ad I o)[k0]? = some (b, .inr (ci, fs))) (hci : vwCl[ci]? = some q) (hqC : q.1 = C) (hn : As.length = nA) (hls : ls.size = nL) (hst : st = As.reverse ++ .ref b :: rest) (hroom : (rest.map fun v => v.category).sum ≤ 8) (hdg : decode cc pc = .ok (.invokevirtual index, 3)) (hcs : cells ≤ R.cells ∧ slots ≤ R.slots)
    (kk : ∀ I1 : Nat → Nat → Int32, I' = I1 → ∀ (H1 : Heap) (locs1 : List Loc), va_P D vwCl (tp_w cy n ad I1 o) H1 → va_D A (tp_w cy n ad I1 o) → va_S A H0 H1 locs1 → W p l e R s m args below meth c H1 locs1 cells slots Q (F0 m (pc + 3) ls rest)) : W p l e R s m args below meth c H locs cells slots Q (F0 m pc ls st) := by
  subst hst
  subst hqC
  have hF := tp_fr hD hS hA
  refine va_callv (va_runVN (As := As) (rest := rest) S (hM H.size) cw ⟨tp_blind, va_recv hK hP hci he, fun U hU hW => ⟨rfl, by rw [hU], by rw [hU]; exact hP, va_K.moved hW.alike hK, hD.weaken (fun _ _ _ _ => trivial)⟩⟩ rfl hn hls rfl (lv_room hroom) hdg hcs) hS (fun q _ h => hF q h) hF (fun u t H1 locs1 ht hvm hw hB hz1 hk1 hS1 => ?_)
  subst hw
  obtain ⟨hP1, hK1, hD1⟩ := hB
  rw [ht] at hP1
  exact kk _ rfl H1 locs1 hP1 (hD1.weaken (fun _ _ _ h => hF _ h)) hS1
/-- the void static ones -/
theorem tp_callSv {own : String} {index nA nL maxL fr lo : Nat} {y : MethodName} {bytes : ByteArray} {ret : Option FieldType} {ws Ts : List Cond} {As st : List Value} {I' : Nat → Nat → Int32}
    (S : CallFix p m c cc nL s args Ts own) (hM : tp_V l y ws (tp_rm fr lo) D cy n ad o As I I') (cw : CallB R s args own index y bytes maxL ret ws (tp_rm fr lo) 0 0 nA ∧ (Cond.static y).before args s = true) (hK : va_K D vwCl (tp_ty cy) s) (hP : va_P D vwCl (tp_w cy n ad I o) H) (hD : va_D A (tp_w cy n ad I o)) (hS : va_S A H0 H locs) (hA : ∀ q : Nat, H0.size ≤ q → A q)
    (hn : As.length = nA) (hls : ls.size = nL) (hst : st = As.reverse ++ rest) (hroom : (rest.map fun v => v.category).sum ≤ 8) (hdg : decode cc pc = .ok (.invokestatic index, 3)) (hcs : cells ≤ R.cells ∧ slots ≤ R.slots)
    (kk : ∀ I1 : Nat → Nat → Int32, I' = I1 → ∀ (H1 : Heap) (locs1 : List Loc), va_P D vwCl (tp_w cy n ad I1 o) H1 → va_D A (tp_w cy n ad I1 o) → va_S A H0 H1 locs1 → W p l e R s m args below meth c H1 locs1 cells slots Q (F0 m (pc + 3) ls rest)) : W p l e R s m args below meth c H locs cells slots Q (F0 m pc ls st) := by
  subst hst
  have hF := tp_fr hD hS hA
  refine va_callv (va_runS (As := As) (rest := rest) S (hM H.size) cw ⟨tp_blind, fun U hU hW => ⟨rfl, by rw [hU], by rw [hU]; exact hP, va_K.moved hW.alike hK, hD.weaken (fun _ _ _ _ => trivial)⟩⟩ rfl hn hls rfl (lv_room hroom) hdg hcs) hS (fun q _ h => hF q h) hF (fun u t H1 locs1 ht hvm hw hB hz1 hk1 hS1 => ?_)
  subst hw
  obtain ⟨hP1, hK1, hD1⟩ := hB
  rw [ht] at hP1
  exact kk _ rfl H1 locs1 hP1 (hD1.weaken (fun _ _ _ h => hF _ h)) hS1
/-- the rows of the office: their length, a row -/
theorem tp_rlen (hx : p.tables.exec = Jvm.exec) (hb : c.code = cc) (hK : va_K D vwCl (tp_ty cy) s) (hP : va_P D vwCl (tp_w cy n ad I o) H) (hdg : decode cc pc = .ok (.arraylength, 1))
    (kk : W p l e R s m args below meth c H locs cells slots Q (F0 m (pc + 1) ls (.int 6 :: rest))) : W p l e R s m args below meth c H locs cells slots Q (F0 m pc ls (.ref (ad 1) :: rest)) :=
  va_alen hx hb hK hP 1 3 (tp_at (by omega)) rfl (v := 6) rfl hdg kk
theorem tp_rald {x : Int32} (hx : p.tables.exec = Jvm.exec) (hb : c.code = cc) (hK : va_K D vwCl (tp_ty cy) s) (hP : va_P D vwCl (tp_w cy n ad I o) H) (i : Nat) (hi : i < n) (hi6 : i < 6) (hxi : x = nI i) (hdg : decode cc pc = .ok (.aaload, 1))
    (kk : W p l e R s m args below meth c H locs cells slots Q (F0 m (pc + 1) ls (.ref (ad (14 + 15 * i)) :: rest))) : W p l e R s m args below meth c H locs cells slots Q (F0 m pc ls (.int x :: .ref (ad 1) :: rest)) := by
  subst hxi
  refine va_aldq hx hb hK hP 1 3 (tp_at (by omega)) rfl (vp_in_nI hi6 (by decide)) hdg ?_
  rw [nI_clamp (by omega), show tp_rf n (fun j => ad (14 + 15 * j)) i = some (ad (14 + 15 * i)) from if_pos hi]
  exact kk
theorem tp_raldN {x : Int32} (hx : p.tables.exec = Jvm.exec) (hb : c.code = cc) (hK : va_K D vwCl (tp_ty cy) s) (hP : va_P D vwCl (tp_w cy n ad I o) H) (i : Nat) (hi : n ≤ i) (hi6 : i < 6) (hxi : x = nI i) (hdg : decode cc pc = .ok (.aaload, 1))
    (kk : W p l e R s m args below meth c H locs cells slots Q (F0 m (pc + 1) ls (.null :: rest))) : W p l e R s m args below meth c H locs cells slots Q (F0 m pc ls (.int x :: .ref (ad 1) :: rest)) := by
  subst hxi
  refine va_aldq hx hb hK hP 1 3 (tp_at (by omega)) rfl (vp_in_nI hi6 (by decide)) hdg ?_
  rw [nI_clamp (by omega), show tp_rf n (fun j => ad (14 + 15 * j)) i = none from if_neg (by omega)]
  exact kk
end TPER
end TPE
end
