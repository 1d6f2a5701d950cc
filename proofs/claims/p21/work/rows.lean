section
-- ===== PART A: goes FIRST, ahead of the names: the tables' words, and 'selects' of the private methods out of them =====
/-- a private method of a class that the tables say can be made, by its rows of tables_1 -/
def lw_okq (q : MethodName × Nat) : Prop := (q.1.cls ≠ "java/lang/invoke/MethodHandle" ∧ q.1.cls ≠ "java/lang/invoke/VarHandle") ∧ Cond.instantiable q.1.cls q.2 ∈ tables_1 ∧ Cond.privateMethod q.1 ∈ tables_1 ∧ Cond.instanceMethod q.1 ∈ tables_1
theorem lw_p0 : lw_okq (⟨"TaperOffice", "existing", "(I)LTaperOffice$Household;"⟩, 3) := ⟨⟨by decide +kernel, by decide +kernel⟩, List.mem_of_getElem? (i := 11) (by decide +kernel), List.mem_of_getElem? (i := 35) (by decide +kernel), List.mem_of_getElem? (i := 36) (by decide +kernel)⟩
theorem lw_p1 : lw_okq (⟨"java/lang/Throwable", "fillInStackTrace", "(I)Ljava/lang/Throwable;"⟩, 6) := ⟨⟨by decide +kernel, by decide +kernel⟩, List.mem_of_getElem? (i := 77) (by decide +kernel), List.mem_of_getElem? (i := 75) (by decide +kernel), List.mem_of_getElem? (i := 76) (by decide +kernel)⟩
theorem lw_p2 : lw_okq (⟨"TaperOffice$Household", "change", "(III)V"⟩, 9) := ⟨⟨by decide +kernel, by decide +kernel⟩, List.mem_of_getElem? (i := 148) (by decide +kernel), List.mem_of_getElem? (i := 225) (by decide +kernel), List.mem_of_getElem? (i := 226) (by decide +kernel)⟩
theorem lw_p3 : lw_okq (⟨"TaperOffice$Household", "lowerDebt", "(I)V"⟩, 9) := ⟨⟨by decide +kernel, by decide +kernel⟩, List.mem_of_getElem? (i := 148) (by decide +kernel), List.mem_of_getElem? (i := 236) (by decide +kernel), List.mem_of_getElem? (i := 237) (by decide +kernel)⟩
theorem lw_p4 : lw_okq (⟨"TaperOffice$Household", "settle", "(I)I"⟩, 9) := ⟨⟨by decide +kernel, by decide +kernel⟩, List.mem_of_getElem? (i := 148) (by decide +kernel), List.mem_of_getElem? (i := 244) (by decide +kernel), List.mem_of_getElem? (i := 245) (by decide +kernel)⟩
theorem lw_p5 : lw_okq (⟨"TaperOffice$Household", "paymentIn", "(I)I"⟩, 9) := ⟨⟨by decide +kernel, by decide +kernel⟩, List.mem_of_getElem? (i := 148) (by decide +kernel), List.mem_of_getElem? (i := 248) (by decide +kernel), List.mem_of_getElem? (i := 249) (by decide +kernel)⟩
theorem lw_p6 : lw_okq (⟨"TaperOffice$Household", "unassessedBefore", "(I)I"⟩, 9) := ⟨⟨by decide +kernel, by decide +kernel⟩, List.mem_of_getElem? (i := 148) (by decide +kernel), List.mem_of_getElem? (i := 252) (by decide +kernel), List.mem_of_getElem? (i := 253) (by decide +kernel)⟩
theorem lw_p7 : lw_okq (⟨"TaperOffice$Household", "dueIn", "(I)I"⟩, 9) := ⟨⟨by decide +kernel, by decide +kernel⟩, List.mem_of_getElem? (i := 148) (by decide +kernel), List.mem_of_getElem? (i := 256) (by decide +kernel), List.mem_of_getElem? (i := 257) (by decide +kernel)⟩
theorem lw_p8 : lw_okq (⟨"TaperOffice$Household", "needIn", "(I)I"⟩, 9) := ⟨⟨by decide +kernel, by decide +kernel⟩, List.mem_of_getElem? (i := 148) (by decide +kernel), List.mem_of_getElem? (i := 261) (by decide +kernel), List.mem_of_getElem? (i := 262) (by decide +kernel)⟩
theorem lw_p9 : lw_okq (⟨"TaperOffice$Household", "taperIn", "(I)I"⟩, 9) := ⟨⟨by decide +kernel, by decide +kernel⟩, List.mem_of_getElem? (i := 148) (by decide +kernel), List.mem_of_getElem? (i := 269) (by decide +kernel), List.mem_of_getElem? (i := 270) (by decide +kernel)⟩
theorem lw_p10 : lw_okq (⟨"TaperOffice$Household", "tariffIn", "(I)I"⟩, 9) := ⟨⟨by decide +kernel, by decide +kernel⟩, List.mem_of_getElem? (i := 148) (by decide +kernel), List.mem_of_getElem? (i := 276) (by decide +kernel), List.mem_of_getElem? (i := 277) (by decide +kernel)⟩
theorem lw_p11 : lw_okq (⟨"TaperOffice$Household", "owedAfter", "(I)I"⟩, 9) := ⟨⟨by decide +kernel, by decide +kernel⟩, List.mem_of_getElem? (i := 148) (by decide +kernel), List.mem_of_getElem? (i := 281) (by decide +kernel), List.mem_of_getElem? (i := 282) (by decide +kernel)⟩
theorem lw_p12 : lw_okq (⟨"TaperOffice$Household", "recoverableIn", "(II)I"⟩, 9) := ⟨⟨by decide +kernel, by decide +kernel⟩, List.mem_of_getElem? (i := 148) (by decide +kernel), List.mem_of_getElem? (i := 285) (by decide +kernel), List.mem_of_getElem? (i := 286) (by decide +kernel)⟩
theorem lw_p13 : lw_okq (⟨"TaperOffice$Household", "arrearsOf", "(I)I"⟩, 9) := ⟨⟨by decide +kernel, by decide +kernel⟩, List.mem_of_getElem? (i := 148) (by decide +kernel), List.mem_of_getElem? (i := 289) (by decide +kernel), List.mem_of_getElem? (i := 290) (by decide +kernel)⟩
def lw_privs_1 : List (MethodName × Nat) := [(⟨"TaperOffice", "existing", "(I)LTaperOffice$Household;"⟩, 3), (⟨"java/lang/Throwable", "fillInStackTrace", "(I)Ljava/lang/Throwable;"⟩, 6), (⟨"TaperOffice$Household", "change", "(III)V"⟩, 9), (⟨"TaperOffice$Household", "lowerDebt", "(I)V"⟩, 9), (⟨"TaperOffice$Household", "settle", "(I)I"⟩, 9), (⟨"TaperOffice$Household", "paymentIn", "(I)I"⟩, 9), (⟨"TaperOffice$Household", "unassessedBefore", "(I)I"⟩, 9), (⟨"TaperOffice$Household", "dueIn", "(I)I"⟩, 9), (⟨"TaperOffice$Household", "needIn", "(I)I"⟩, 9), (⟨"TaperOffice$Household", "taperIn", "(I)I"⟩, 9), (⟨"TaperOffice$Household", "tariffIn", "(I)I"⟩, 9), (⟨"TaperOffice$Household", "owedAfter", "(I)I"⟩, 9), (⟨"TaperOffice$Household", "recoverableIn", "(II)I"⟩, 9), (⟨"TaperOffice$Household", "arrearsOf", "(I)I"⟩, 9)]
theorem lw_r1 : ∀ q ∈ lw_privs_1, lw_okq q := List.forall_mem_cons.mpr ⟨lw_p0, List.forall_mem_cons.mpr ⟨lw_p1, List.forall_mem_cons.mpr ⟨lw_p2, List.forall_mem_cons.mpr ⟨lw_p3, List.forall_mem_cons.mpr ⟨lw_p4, List.forall_mem_cons.mpr ⟨lw_p5, List.forall_mem_cons.mpr ⟨lw_p6, List.forall_mem_cons.mpr ⟨lw_p7, List.forall_mem_cons.mpr ⟨lw_p8, List.forall_mem_cons.mpr ⟨lw_p9, List.forall_mem_cons.mpr ⟨lw_p10, List.forall_mem_cons.mpr ⟨lw_p11, List.forall_mem_cons.mpr ⟨lw_p12, List.forall_mem_cons.mpr ⟨lw_p13, fun _ h => absurd h List.not_mem_nil⟩⟩⟩⟩⟩⟩⟩⟩⟩⟩⟩⟩⟩⟩
def lw_privs : List (MethodName × Nat) := lw_privs_1
def lw_tbl : List Cond := k2_sels lw_privs ++ tables_1
theorem lw_privs_ok : ∀ q ∈ lw_privs, lw_okq q := lw_r1
-- ===== end of PART A; then the names; then what follows =====
end
section
/-! own: the class of an array whose components are arrays of t -/
def va_AOA (t : FieldType) (U : State) : Prop := (Cond.arrayOver (.array t)).before #[] U = true
theorem va_AOA.use {t : FieldType} {A : Array Value} {U : State} (h : va_AOA t U) : (Cond.arrayOver (.array t)).before A U = true := h
theorem va_AOA.moved {t : FieldType} {u U : State} (hvm : u.vm.Alike U.vm) (h : va_AOA t u) : va_AOA t U := over_moved hvm h
/-! ===== BEGIN words of one list among another's, by their places ===== -/
theorem goodIn_r {big : List Cond} (ws : List Cond) (ps : List Nat) (hp : ws = ps.filterMap (fun i => big[i]?)) (h : ws.all goodWord = true) : GoodIn big ws := by
  intro w hw
  have h1 := List.all_eq_true.mp h w hw
  rw [hp] at hw
  obtain ⟨i, -, hi⟩ := List.mem_filterMap.mp hw
  have hm : w ∈ big := by first | exact List.mem_of_getElem? hi | exact List.getElem?_mem hi
  exact ⟨hm, good_of_word h1⟩
theorem goodIn_app {big a b : List Cond} (ha : GoodIn big a) (hb : GoodIn big b) : GoodIn big (a ++ b) := fun w h => (List.mem_append.mp h).elim (ha w) (hb w)
theorem goodIn_ca {big a b : List Cond} {c : Cond} (ha : GoodIn big (c :: a)) (hb : GoodIn big b) : GoodIn big (c :: (a ++ b)) := fun w h => (List.mem_cons.mp h).elim (fun e => ha w (List.mem_cons.mpr (Or.inl e))) (fun h => (List.mem_append.mp h).elim (fun h => ha w (List.mem_cons.mpr (Or.inr h))) (hb w))
theorem goodIn_sub {big ws : List Cond} (hm : ∀ w ∈ ws, w ∈ big) (h : ws.all goodWord = true) : GoodIn big ws := fun w hw => ⟨hm w hw, good_of_word (List.all_eq_true.mp h w hw)⟩
/-! ===== END ===== -/

/-! ===== BEGIN new T[n][m]: the outer array a place, the inner ones among the pooled ===== -/
/-- f, but v at every address of l -/
def vr_up {α : Type} (f : Nat → α) (l : List Nat) (v : α) : Nat → α := fun a => if a ∈ l then v else f a
theorem vr_up_in {α : Type} {f : Nat → α} {l : List Nat} {v : α} {a : Nat} (h : a ∈ l) : vr_up f l v a = v := if_pos h
theorem vr_up_ne {α : Type} {f : Nat → α} {l : List Nat} {v : α} {a : Nat} (h : a ∉ l) : vr_up f l v a = f a := if_neg h
theorem vr_rows {L l : List Nat} {f : Nat → va_E} {e : va_E} (h : ∀ a, a ∈ l → a ∉ L) : va_pl L f ++ l.map (fun a => (a, e)) = va_pl (L ++ l) (vr_up f l e) := by
  unfold va_pl
  rw [List.map_append]
  congr 1
  · apply List.map_congr_left
    intro a ha
    rw [vr_up_ne (fun q => h a q ha)]
  · apply List.map_congr_left
    intro a ha
    rw [vr_up_in ha]
theorem vr_lay {X rows : va_W} {x : Nat × va_E} {pl : va_W} {D : va_G} {cl : List vw_C} {H : Heap} (hP : va_P D cl (((X ++ pl) ++ [x]) ++ rows) H) : va_P D cl ((X ++ [x]) ++ (pl ++ rows)) H := by
  rw [List.append_assoc (X ++ pl)] at hP
  have h := va_P.swap hP
  rw [← List.append_assoc X] at h
  have h2 := va_P.swap h
  rw [List.append_assoc (X ++ [x])] at h2
  exact h2
theorem vr_layD {X rows : va_W} {x : Nat × va_E} {pl : va_W} {A : Nat → Prop} (hD : va_D A (((X ++ pl) ++ [x]) ++ rows)) : va_D A ((X ++ [x]) ++ (pl ++ rows)) := by
  rw [List.append_assoc (X ++ pl)] at hD
  have h := va_D.swap hD
  rw [← List.append_assoc X] at h
  have h2 := va_D.swap h
  rw [List.append_assoc (X ++ [x])] at h2
  exact h2
theorem vr_outer (c : ClassId) (N h0 : Nat) : ∀ i : Nat, Jvm.Free.Multi.outerC c N h0 i = arrV c N (fun j => va_rf (if j < i then some (h0 + 1 + j) else none))
  | 0 => by
    show ({ cls := c, slots := Array.replicate N .null, vm := .none } : Cell) = _
    rw [arrV_new]
    refine congrArg (arrV c N) (funext fun j => ?_)
    simp [va_rf]
  | i + 1 => by
    show (Jvm.Free.Multi.outerC c N h0 i).setSlot i (.ref (h0 + 1 + i)) = _
    rw [vr_outer c N h0 i, arrV_store]
    refine congrArg (arrV c N) (funext fun j => ?_)
    by_cases e : j = i
    · subst e
      simp [updV, va_rf]
    · by_cases h : j < i
      · simp [updV, e, h, Nat.lt_succ_of_lt h]
      · simp [updV, e, h, show ¬ j < i + 1 by omega]
section VGM
variable {p : Program} {l : Launch} {e : Env} {R : Room} {s : State} {m : MethodId} {args : Array Value} {below : List Frame} {meth : Method} {c : Code} {H : Heap} {locs : List Loc} {cells slots : Nat} {Q : State → Prop}
variable {cc : ByteArray} {pc : Nat} {ls : Array Slot} {rest : List Value} {D : va_G} {cl : List vw_C} {A : Nat → Prop} {a : Nat} {tys : List (ClassId × FieldType)} {ws : va_W} {H0 : Heap}
theorem va_mna {X : va_W} {L : List Nat} {f : Nat → va_E} {cc : ByteArray} (hexec : p.tables.exec = Jvm.exec) (hb : c.code = cc) {own : String} {index : Nat} {ty : FieldType} {cy : ClassId} (hown : s.vm.findClass own = some m.cls) (hclink : (Cond.classLink own index ("[" ++ (FieldType.array ty).toString)).before args s = true) (hover : va_AOA ty s) (harr : (Cond.arrayClass ty).before args s = true) (hcy : s.vm.findClass (FieldType.array ty).toString = some cy)
    (hK : va_K D cl tys s) (hP : va_P D cl (X ++ va_pl L f) H) (hD : va_D A (X ++ va_pl L f)) (hS : va_S A H0 H locs) (hA : ∀ q, H0.size ≤ q → A q) {n k : Int32} {N' K' : Nat} {z : vp_A} (hn : ¬ n < 0) (hk : ¬ k < 0) (hN : n.toNatClampNeg = N') (hM : k.toNatClampNeg = K')
    (hb1 : N' * 4 ≤ 536870912) (hb2 : K' * componentBytes ty ≤ 536870912) (hb3 : K' ≤ 536870912) (hdf : fits ty (defaultValue ty) = true) (hdd : (defaultValue ty).isDefault = true) (hcells : cells + (1 + N') ≤ R.cells) (hslots : slots + (N' + N' * K') ≤ R.slots) (hz : ∀ c : ClassId, Jvm.Free.Multi.innerC c K' (defaultValue ty) = vp_cell c z) (hdg : decode cc pc = .ok (.multianewarray index 2, 4))
    (kk : ∀ (q : Nat) (r : Nat → Nat) (cA : ClassId) (H1 : Heap), (∀ i j : Nat, i < N' → j < N' → r i = r j → i = j) → (∀ i : Nat, i < N' → r i ∉ L) → va_K D cl (tys ++ [(cA, .array ty)]) s →
      va_P D cl ((X ++ [(q, .inl (cA, N', .inr (.inr (.inr (.inr (fun i => if i < N' then some (r i) else none))))))]) ++ va_pl (L ++ (List.range N').map r) (vr_up f ((List.range N').map r) (.inl (cy, z)))) H1 → va_D A ((X ++ [(q, .inl (cA, N', .inr (.inr (.inr (.inr (fun i => if i < N' then some (r i) else none))))))]) ++ va_pl (L ++ (List.range N').map r) (vr_up f ((List.range N').map r) (.inl (cy, z)))) → va_S A H0 H1 locs →
      W p l e R s m args below meth c H1 locs (cells + 1 + N') (slots + N' + N' * K') Q (F0 m (pc + 4) ls (.ref q :: rest))) : W p l e R s m args below meth c H locs cells slots Q (F0 m pc ls (.int k :: .int n :: rest)) := by
  subst hN
  subst hM
  intro T hT Xs
  obtain ⟨vm₁, cA, comp, -, fA, fC, hO, -, X', step⟩ := Xs.multianewarray2F hexec hown hclink (va_AOA.use hover) harr (g := F0 m pc ls (.int k :: .int n :: rest)) rfl (by rw [hb]; exact hdg) rfl hn hk hb1 hb2 hb3 hdf hdd hcells hslots
  have ec : some cy = some comp := hcy.symm.trans fC
  cases ec
  generalize hF : Jvm.Free.Multi.fill (T.setVm vm₁) cA cy n.toNatClampNeg k.toNatClampNeg (defaultValue ty) n.toNatClampNeg = F at X' step
  have hTh : (T.setVm vm₁).heap = H := hT
  obtain ⟨f1, f2, -, -⟩ := Jvm.Free.Multi.fill_facts (T.setVm vm₁) cA cy n.toNatClampNeg k.toNatClampNeg (defaultValue ty) n.toNatClampNeg
  rw [hF, hTh] at f1 f2
  have hold : ∀ x : Nat, x < H.size → F.heap[x]? = H[x]? := fun x hx => by
    have := Jvm.Free.Multi.fill_old (T.setVm vm₁) cA cy n.toNatClampNeg k.toNatClampNeg (defaultValue ty) (a := x) (by rw [hTh]; exact hx) n.toNatClampNeg
    rw [hF, hTh] at this
    exact this
  have hrow : ∀ j : Nat, j < n.toNatClampNeg → F.heap[H.size + 1 + j]? = some (vp_cell cy z) := fun j hj => by
    have := Jvm.Free.Multi.fill_inner (T.setVm vm₁) cA cy n.toNatClampNeg k.toNatClampNeg (defaultValue ty) n.toNatClampNeg j hj
    rw [hF, hTh, hz] at this
    exact this
  have hout : Jvm.Free.Multi.outerC cA n.toNatClampNeg H.size n.toNatClampNeg = vp_cell cA (n.toNatClampNeg, .inr (.inr (.inr (.inr (fun i => if i < n.toNatClampNeg then some (H.size + 1 + i) else none))))) := by
    rw [vp_cell_q]
    exact vr_outer cA n.toNatClampNeg H.size n.toNatClampNeg
  rw [hout] at f2
  have hlt : ∀ a, a ∈ L → a < H.size := fun a ha => by
    obtain ⟨k9, hk9⟩ := va_pl_get (X := X) (f := f) ha
    exact (hP k9 _ hk9).lt
  have hnl : ∀ i : Nat, i < n.toNatClampNeg → H.size + 1 + i ∉ L := fun i _ h => by
    have := hlt _ h
    omega
  have hnm : ∀ a, a ∈ (List.range n.toNatClampNeg).map (fun i => H.size + 1 + i) → a ∉ L := fun a ha h => by
    obtain ⟨i, -, rfl⟩ := List.mem_map.mp ha
    have := hlt _ h
    omega
  have hP0 : va_P D cl (X ++ va_pl L f) F.heap := hP.kept (fun k9 x hx => hold x.1 ((hP k9 x hx).lt))
  have hP1 : va_P D cl ((X ++ va_pl L f) ++ [(H.size, .inl (cA, n.toNatClampNeg, .inr (.inr (.inr (.inr (fun i => if i < n.toNatClampNeg then some (H.size + 1 + i) else none))))))]) F.heap := hP0.app (fun k9 x hx => by
    have h0 : k9 < 1 := (List.getElem?_eq_some_iff.mp hx).1
    rw [show k9 = 0 by omega] at hx
    cases hx
    exact f2)
  have hP2 : va_P D cl (((X ++ va_pl L f) ++ [(H.size, .inl (cA, n.toNatClampNeg, .inr (.inr (.inr (.inr (fun i => if i < n.toNatClampNeg then some (H.size + 1 + i) else none))))))]) ++ ((List.range n.toNatClampNeg).map (fun i => H.size + 1 + i)).map (fun a => (a, .inl (cy, z)))) F.heap := hP1.app (fun k9 x hx => by
    obtain ⟨a, ha, rfl⟩ := List.mem_map.mp (List.mem_of_getElem? hx)
    obtain ⟨i, hi, rfl⟩ := List.mem_map.mp ha
    exact hrow i (List.mem_range.mp hi))
  have hD2 : va_D A (((X ++ va_pl L f) ++ [(H.size, .inl (cA, n.toNatClampNeg, .inr (.inr (.inr (.inr (fun i => if i < n.toNatClampNeg then some (H.size + 1 + i) else none))))))]) ++ ((List.range n.toNatClampNeg).map (fun i => H.size + 1 + i)).map (fun a => (a, .inl (cy, z)))) := by
    have hD1 := hD.push (e := .inl (cA, n.toNatClampNeg, .inr (.inr (.inr (.inr (fun i => if i < n.toNatClampNeg then some (H.size + 1 + i) else none)))))) hP rfl (hA _ hS.1)
    generalize hW1 : (X ++ va_pl L f) ++ [(H.size, .inl (cA, n.toNatClampNeg, .inr (.inr (.inr (.inr (fun i => if i < n.toNatClampNeg then some (H.size + 1 + i) else none))))))] = W1 at hD1 hP1 ⊢
    have hle : ∀ (k9 : Nat) (x : Nat × va_E), W1[k9]? = some x → x.1 ≤ H.size := fun k9 x hx => by
      rw [← hW1] at hx
      by_cases hl : k9 < (X ++ va_pl L f).length
      · rw [List.getElem?_append_left hl] at hx
        exact Nat.le_of_lt ((hP k9 x hx).lt)
      · rw [List.getElem?_append_right (by omega)] at hx
        have h0 : k9 - (X ++ va_pl L f).length < 1 := (List.getElem?_eq_some_iff.mp hx).1
        rw [show k9 - (X ++ va_pl L f).length = 0 by omega] at hx
        cases hx
        exact Nat.le_refl _
    have hr : ∀ (k9 : Nat) (x : Nat × va_E), (((List.range n.toNatClampNeg).map (fun i => H.size + 1 + i)).map (fun a => ((a, .inl (cy, z)) : Nat × va_E)))[k9]? = some x → x.1 = H.size + 1 + k9 := fun k9 x hx => by
      rw [List.getElem?_map, List.getElem?_map] at hx
      by_cases h9 : k9 < n.toNatClampNeg
      · rw [List.getElem?_range h9] at hx
        cases hx
        rfl
      · have hn0 : (List.range n.toNatClampNeg)[k9]? = none := List.getElem?_eq_none (by rw [List.length_range]; omega)
        rw [hn0] at hx
        cases hx
    refine ⟨fun i j x y hi hj hxy => ?_, fun k9 x hx => ?_⟩
    · by_cases h1 : i < W1.length <;> by_cases h2 : j < W1.length
      · rw [List.getElem?_append_left h1] at hi
        rw [List.getElem?_append_left h2] at hj
        exact hD1.1 i j x y hi hj hxy
      · rw [List.getElem?_append_left h1] at hi
        rw [List.getElem?_append_right (by omega)] at hj
        have := hle _ _ hi
        have := hr _ _ hj
        omega
      · rw [List.getElem?_append_right (by omega)] at hi
        rw [List.getElem?_append_left h2] at hj
        have := hle _ _ hj
        have := hr _ _ hi
        omega
      · rw [List.getElem?_append_right (by omega)] at hi hj
        have := hr _ _ hi
        have := hr _ _ hj
        omega
    · by_cases h1 : k9 < W1.length
      · rw [List.getElem?_append_left h1] at hx
        exact hD1.2 k9 x hx
      · rw [List.getElem?_append_right (by omega)] at hx
        have := hr _ _ hx
        exact hA _ (by have := hS.1; omega)
  have hAr : ArrOfT s cA (.array ty) := fun N9 z9 => by
    obtain ⟨-, k9, hk9, cm9, hkk9⟩ := (hO 0 0 0).1
    exact ⟨(fun q hq => by cases hq), k9, hk9, cm9, hkk9⟩
  have hK2 : va_K D cl (tys ++ [(cA, .array ty)]) s := ⟨hK.1, fun k9 x hx => by
    by_cases hl : k9 < tys.length
    · rw [List.getElem?_append_left hl] at hx
      exact hK.2 k9 x hx
    · rw [List.getElem?_append_right (by omega)] at hx
      have h0 : k9 - tys.length < 1 := (List.getElem?_eq_some_iff.mp hx).1
      rw [show k9 - tys.length = 0 by omega] at hx
      cases hx
      exact ⟨hAr, fA⟩⟩
  obtain ⟨t, a1, b1⟩ := kk H.size (fun i => H.size + 1 + i) cA F.heap (fun i j _ _ h => by have h9 : H.size + 1 + i = H.size + 1 + j := h; omega) hnl hK2 (by rw [← vr_rows hnm]; exact vr_lay hP2) (by rw [← vr_rows hnm]; exact vr_layD hD2) ⟨by rw [f1]; have := hS.1; omega, fun x h1 h2 => (hold x (Nat.lt_of_lt_of_le h1 hS.1)).trans (hS.2.1 x h1 h2), hS.2.2⟩ F rfl X'
  refine ⟨t, step t ?_, b1⟩
  have e : T.heap.size = H.size := by rw [hT]
  rw [e]
  exact a1
end VGM
/-! ===== END ===== -/

/-! ===== BEGIN exceptions that leave a method, and their catching by the caller (launches without stack traces) ===== -/
section VXA
/-! The laws vx_back, vx_callV, vx_callS, vx_callSW, vx_throw0, vx_throwS follow proofs of the library, with one case more: JvmDerived/Free/Laws.lean (Back.of_free), Shelf42/LK1.lean (callV, callS), Shelf/KitTraced.lean (throwNew0V, throwNewS). -/
/-- where a method has thrown q: the class by its name, the cell, what was written, the world -/
def vx_T (XC : String → State → State → Prop) (st : State) (q : Addr) (t : State) (mc ms : Nat) (free : Addr → Prop) : Prop :=
  ∃ (E : String) (ce : Cell) (L : List Loc), XC E st t ∧ t.heap[q]? = some ce ∧ ce.vm = .none ∧ st.vm.findClass E = some ce.cls ∧ st.WarmedH t.vm ∧ st.sameButNew ({ t with vm := st.vm } : State) L mc ms ∧ ∀ z ∈ L, free z.base
def vx_Q (Qc : Array Value → State → Outcome → State → Prop) (XC : String → State → State → Prop) (mc ms : Nat) (free : Addr → Prop) : Array Value → State → Outcome → State → Prop := fun a st o t =>
  (Qc a st o t ∧ ∃ L, FrameEnd st o t L mc ms ∧ ∀ q ∈ L, free q.base) ∨ ∃ q, o = .threw q ∧ vx_T XC st q t mc ms free
/-- a callee that returns or throws -/
def vx_Met (l : Launch) (y : MethodName) (ws : List Cond) (rm : Room) (Pc : Array Value → State → Prop) (Qc : Array Value → State → Outcome → State → Prop) (XC : String → State → State → Prop) (mc ms : Nat) (free : Addr → Prop) : Prop :=
  MetFree l y (headSpec ws rm) Pc (fun _ _ _ _ _ => True) (vx_Q Qc XC mc ms free)
def vx_Post (XC : String → State → State → Prop) (mc ms : Nat) (free : Addr → Prop) : Pt → Array Value → Addr → Pt → Prop := fun A a q B =>
  ∃ (g : JFrame) (mk : MethodId) (t : State) (L : List Loc) (E : String) (ce : Cell), B.U.heap = t.heap ∧ B.U.vm = t.vm ∧ XC E (A.U.calling g mk a) t ∧ t.heap[q]? = some ce ∧ ce.vm = .none ∧ A.U.vm.findClass E = some ce.cls ∧ B.locs = A.locs ++ L ∧ (∀ z ∈ L, free z.base) ∧ B.cells = A.cells + mc ∧ B.slots = A.slots + ms
def vx_Back (l : Launch) (R : Room) (p : Program) (e : Env) (below : List Frame) (s : State) (sargs : Array Value) (y : MethodName) (len W9 : Nat)
    (Pre : Pt → Array Value → Prop) (Post : Pt → Array Value → Option Value → Pt → Prop) (PostX : Pt → Array Value → Addr → Pt → Prop) : Prop :=
  ∀ (m : MethodId) (meth : Method) (c : Code) (A : Pt) (g : JFrame) (ig : Instr) (mk : MethodId) (a : Array Value),
    Stand p l e R s m sargs below meth c A.U A.locs A.cells A.slots → g.method = m → g.locals.size = c.maxLocals → decode c.code g.pc = .ok (ig, len) →
    2 * g.monitorRoom + (g.stack.map fun v => v.category).sum ≤ W9 → A.U.methodNamed? y = some mk → Pre A a →
    (∃ (v : Option Value) (B : Pt), Stand p l e R s m sargs below meth c B.U B.locs B.cells B.slots ∧ Post A a v B ∧
      Steps p.tables e below (doInvoke e (A.U.setTop g) [] mk a).1 (B.U.setTop { g with pc := g.pc + len, stack := v.toList ++ g.stack })) ∨
    (∃ (q : Addr) (B : Pt), Stand p l e R s m sargs below meth c B.U B.locs B.cells B.slots ∧ PostX A a q B ∧
      Steps p.tables e below (doInvoke e (A.U.setTop g) [] mk a).1 ((B.U.setTop g).pushFrame (.throwing q)))
section Payer
variable {l : Launch} {R : Room} {p : Program} {e : Env} {below : List Frame} {s : State} {sargs : Array Value} {y : MethodName} {len W9 : Nat}
theorem vx_back {ws : List Cond} {rm : Room} {Pc : Array Value → State → Prop} {Qc : Array Value → State → Outcome → State → Prop} {XC : String → State → State → Prop} {mc ms : Nat} {free : Addr → Prop} {bytes : ByteArray} {maxL : Nat} {ret : Option FieldType}
    (hM : vx_Met l y ws rm Pc Qc XC mc ms free) (hblind : FrameBlind Pc) (hrc : rm.cells = mc) (hrs : rm.slots = ms)
    (hframes : rm.frames + 1 ≤ R.frames) (hlocals : W9 + (maxL + 11) + rm.locals ≤ R.locals)
    (hws : ∀ w ∈ ws, ∀ a' U, s.WarmedH U.vm → w.before a' U = true) (hcode : Cond.code y bytes maxL ret ∈ ws) (hinit : ∀ a' U, s.WarmedH U.vm → (Cond.initialized y.cls).before a' U = true) :
    vx_Back l R p e below s sargs y len W9 (PreOf R mc ms Pc) (PostOf Qc mc ms free) (vx_Post XC mc ms free) := by
  intro m meth c A g ig mk a X hg hsize hdg hW hn hp
  have h1 : (headSpec ws rm).pre.before a A.U = true := atoms_intro fun w hw => hws w hw _ _ X.warmed
  have h2 : (Cond.code y bytes maxL ret).before a A.U = true := hws _ hcode _ _ X.warmed
  have h3 : (Cond.initialized y.cls).before a A.U = true := hinit _ _ X.warmed
  have h4 : A.cells + (headSpec ws rm).room.cells ≤ R.cells := by rw [show (headSpec ws rm).room.cells = mc from hrc]; exact hp.1
  have h5 : A.slots + (headSpec ws rm).room.slots ≤ R.slots := by rw [show (headSpec ws rm).room.slots = ms from hrs]; exact hp.2.1
  have hPc : Pc a (A.U.calling g mk a) := hblind _ _ _ _ hp.2.2
  obtain ⟨U, Ls, c0, s0⟩ := A
  dsimp only [Pt.U, Pt.locs, Pt.cells, Pt.slots] at h1 h2 h3 h4 h5 X hn hPc ⊢
  obtain ⟨methY, cY, hmY, hcY, -, hlY, -, -, -, -⟩ := Cond.code_spec hn h2
  obtain ⟨kY, hkY, -⟩ := className_of_methodNamed hn
  have hinitY : kY.init = .initialized := Cond.initialized_spec (findClass_of_methodNamed hn) hkY h3
  have h : At U g.method c below := by rw [hg]; exact X.here
  have hlocals9 : W9 + (maxL + 11) + (headSpec ws rm).room.locals ≤ R.locals := hlocals
  have happ : (headSpec ws rm).appliesLoose y e.platform (U.calling g mk a) = true :=
    Spec.appliesLoose_calling (g := g) h hdg hn hkY hinitY
      (X.room_calling (g := g) (R' := (headSpec ws rm).room) hsize hmY hcY hframes (by rw [hlY]; omega) h4 h5) h1
  obtain ⟨mid, hmid⟩ := h.above
  have hfr : (U.setTop g).frames = (.java g :: mid) ++ below := by rw [State.frames_setTop' g h.top, hmid]; rfl
  obtain ⟨o, s₂, hsteps, -, hend, hq⟩ := Steps.callFree hM p X.admits X.cas X.clock (acts := []) hfr happ hPc trivial
  have hq' : vx_Q Qc XC mc ms free a (U.calling g mk a) o s₂ := hq
  rw [State.frames_setTop' g h.top] at hend
  obtain ⟨g₀, hg0⟩ := Option.isSome_iff_exists.mp h.top
  obtain ⟨r, hr⟩ := State.topJava?_eq_some.mp hg0
  have hr' : (({ U with heap := s₂.heap, slotsUsed := s₂.slotsUsed } : State).setVm s₂.vm).frames = .java g₀ :: r := hr
  rcases hq' with ⟨hqc, L, hfe, hL⟩ | ⟨q, rfl, E, ce, L, hx, hce, hcv, hcl, hW₂, hsm, hL⟩
  · obtain ⟨⟨v, rfl⟩, hW₂, e2, q2, q3, q4, q5, q6⟩ := id hfe
    have e3 : s₂ = ({ (U.calling g mk a).setFrames s₂.frames with heap := s₂.heap, slotsUsed := s₂.slotsUsed } : State).setVm s₂.vm := by
      have : s₂ = ({ s₂ with vm := (U.calling g mk a).vm } : State).setVm s₂.vm := rfl
      rw [e2] at this
      exact this
    obtain ⟨c₂, i₂, len₂, hc₂, hd₂, hf₂⟩ := hend
    have hW' : U.WarmedH s₂.vm := hW₂
    have hcc : c₂ = c := by
      have h1 : s₂.code? g.method = U.code? g.method := by
        rw [State.code?_eq, State.code?_eq, hW'.alike.method?]
      exact Option.some.inj (hc₂.symm.trans (h1.trans h.code))
    subst hcc
    have hlen : len₂ = len := by rw [hdg] at hd₂; cases hd₂; rfl
    subst hlen
    have hs₂ : s₂ = (({ U with heap := s₂.heap, slotsUsed := s₂.slotsUsed } : State).setVm s₂.vm).setTop { g with pc := g.pc + len₂, stack := v.toList ++ g.stack } := by
      refine e3.trans ?_
      rw [hf₂, State.calling_eq h.top, State.setFrames_setFrames, State.setTop_of_frames _ hr', hr]
      rfl
    have hsame : U.sameButNew ({ U with heap := s₂.heap, slotsUsed := s₂.slotsUsed } : State) L mc ms := by
      refine ⟨?_, q2, q3, q4, q5, q6⟩
      obtain ⟨t, ht, -⟩ := State.frames_cons hr
      show ({ U with heap := s₂.heap, slotsUsed := s₂.slotsUsed } : State) = { U.setFrames U.frames with heap := s₂.heap, slotsUsed := s₂.slotsUsed }
      rw [State.setFrames_self ht]
    subst hg
    refine Or.inl ⟨v, ⟨(({ U with heap := s₂.heap, slotsUsed := s₂.slotsUsed } : State).setVm s₂.vm), Ls ++ L, c0 + mc, s0 + ms⟩,
      ⟨X.admits, X.cas, X.clock, X.frames, X.room, X.hears, X.method, X.code, (X.here.setHeapUsed s₂.heap s₂.slotsUsed).setVm hW'.alike, X.tail, State.WarmedH.trans X.warmed hW', X.limits, X.bytes, X.same.trans (hsame.setVm s.vm)⟩,
      ⟨g, mk, s₂, L, rfl, rfl, hqc, rfl, hL, rfl, rfl⟩, ?_⟩
    show Steps p.tables e below _ ((({ U with heap := s₂.heap, slotsUsed := s₂.slotsUsed } : State).setVm s₂.vm).setTop { g with pc := g.pc + len₂, stack := v.toList ++ g.stack })
    rw [← hs₂]
    exact hsteps
  · obtain ⟨e2, q2, q3, q4, q5, q6⟩ := id hsm
    have e3 : s₂ = ({ (U.calling g mk a).setFrames s₂.frames with heap := s₂.heap, slotsUsed := s₂.slotsUsed } : State).setVm s₂.vm := by
      have : s₂ = ({ s₂ with vm := (U.calling g mk a).vm } : State).setVm s₂.vm := rfl
      rw [e2] at this
      exact this
    have hf₂ : s₂.frames = .throwing q :: .java g :: U.frames.tail := hend
    have hW' : U.WarmedH s₂.vm := hW₂
    have hs₂ : s₂ = ((({ U with heap := s₂.heap, slotsUsed := s₂.slotsUsed } : State).setVm s₂.vm).setTop g).pushFrame (.throwing q) := by
      refine e3.trans ?_
      rw [hf₂, State.calling_eq h.top, State.setFrames_setFrames, State.pushFrame, State.frames_setTop _ hr', State.setTop_of_frames _ hr', State.setFrames_setFrames, hr]
      rfl
    have hsame : U.sameButNew ({ U with heap := s₂.heap, slotsUsed := s₂.slotsUsed } : State) L mc ms := by
      refine ⟨?_, q2, q3, q4, q5, q6⟩
      obtain ⟨t, ht, -⟩ := State.frames_cons hr
      show ({ U with heap := s₂.heap, slotsUsed := s₂.slotsUsed } : State) = { U.setFrames U.frames with heap := s₂.heap, slotsUsed := s₂.slotsUsed }
      rw [State.setFrames_self ht]
    subst hg
    refine Or.inr ⟨q, ⟨(({ U with heap := s₂.heap, slotsUsed := s₂.slotsUsed } : State).setVm s₂.vm), Ls ++ L, c0 + mc, s0 + ms⟩,
      ⟨X.admits, X.cas, X.clock, X.frames, X.room, X.hears, X.method, X.code, (X.here.setHeapUsed s₂.heap s₂.slotsUsed).setVm hW'.alike, X.tail, State.WarmedH.trans X.warmed hW', X.limits, X.bytes, X.same.trans (hsame.setVm s.vm)⟩,
      ⟨g, mk, s₂, L, E, ce, rfl, rfl, hx, hce, hcv, hcl, rfl, hL, rfl, rfl⟩, ?_⟩
    show Steps p.tables e below _ (((({ U with heap := s₂.heap, slotsUsed := s₂.slotsUsed } : State).setVm s₂.vm).setTop g).pushFrame (.throwing q))
    rw [← hs₂]
    exact hsteps
end Payer
section Calls
variable {p : Program} {l : Launch} {e : Env} {R : Room} {s : State} {m : MethodId} {args : Array Value} {below : List Frame} {meth : Method} {c : Code} {T : State} {locs : List Loc} {cells slots : Nat}
theorem vx_callV (X : Stand p l e R s m args below meth c T locs cells slots) (hexec : p.tables.exec = Jvm.exec) {own C : String} {index : Nat} {y : MethodName} {bytes : ByteArray} {maxL : Nat} {ret : Option FieldType}
    (hown : s.vm.findClass own = some m.cls) (hlink : (Cond.methodLink own index y).before args s = true) (hinst : (Cond.instanceMethod y).before args s = true) (hsel : (Cond.selects C y y).before args s = true)
    (hcode : (Cond.code y bytes maxL ret).before args s = true) (hy : y.cls ≠ "java/lang/invoke/MethodHandle" ∧ y.cls ≠ "java/lang/invoke/VarHandle")
    {W9 : Nat} {Pre : Pt → Array Value → Prop} {Post : Pt → Array Value → Option Value → Pt → Prop} {PostX : Pt → Array Value → Addr → Pt → Prop} (hK : vx_Back l R p e below s args y 3 W9 Pre Post PostX)
    {b : Addr} {cellB : Cell} (hcell : T.heap[b]? = some cellB) (hobj : cellB.vm.isStatics = false) (hcls : s.vm.findClass C = some cellB.cls)
    {g : JFrame} (hg : g.method = m) (hsize : g.locals.size = c.maxLocals) {argsL rest : List Value} (hlen : ∀ sig, parseMethodDescriptor y.desc = some sig → argsL.length = sig.parameters.length)
    (hstack : g.stack = argsL.reverse ++ .ref b :: rest) (hW : 2 * g.monitorRoom + (rest.map fun v => v.category).sum ≤ W9) (hdg : decode c.code g.pc = .ok (.invokevirtual index, 3))
    (hpre : ∀ vm₁, s.WarmedH vm₁ → Pre ⟨T.setVm vm₁, locs, cells, slots⟩ (Value.ref b :: argsL).toArray) :
    (∃ (v : Option Value) (vm₁ : Vm) (B : Pt), s.WarmedH vm₁ ∧ Stand p l e R s m args below meth c B.U B.locs B.cells B.slots ∧ Post ⟨T.setVm vm₁, locs, cells, slots⟩ (Value.ref b :: argsL).toArray v B ∧
      ∀ target, Steps p.tables e below (B.U.setTop { g with pc := g.pc + 3, stack := v.toList ++ rest }) target → Steps p.tables e below (T.setTop g) target) ∨
    (∃ (q : Addr) (vm₁ : Vm) (B : Pt), s.WarmedH vm₁ ∧ Stand p l e R s m args below meth c B.U B.locs B.cells B.slots ∧ PostX ⟨T.setVm vm₁, locs, cells, slots⟩ (Value.ref b :: argsL).toArray q B ∧
      Steps p.tables e below (T.setTop g) ((B.U.setTop { g with stack := rest }).pushFrame (.throwing q))) := by
  obtain ⟨mk, methM, hnamed, hmethM, hstM, habM⟩ := Cond.instanceMethod_spec hinst
  obtain ⟨methM', cM, hmethM', -, -, -, -, -, -, hsigM⟩ := Cond.code_spec hnamed hcode
  cases hmethM.symm.trans hmethM'
  obtain ⟨c2, r2, m2, q1, q2, q3, q4, kP, hkP, hkPi⟩ := Cond.selects_spec hsel
  cases hcls.symm.trans q1
  cases (State.methodFound?_of_named hnamed hy).symm.trans q2
  cases hnamed.symm.trans q3
  have hselP : selectMethod e.platform s.vm cellB.cls mk = .method mk := by rw [Launch.admits_selectMethod X.admits]; exact q4
  obtain ⟨vm₁, X₁, hstep₁⟩ := X.invokevirtual hexec hown hlink hnamed hmethM hstM hkP hkPi hy (a := b) (cell := cellB) hcell
    (fun z h => by rw [h] at hobj; cases hobj) hselP hmethM habM hkP hkPi (g := g) hg (argsL := argsL) (rest := rest) (hlen _ hsigM) hstack hdg
  rcases hK m meth c ⟨T.setVm vm₁, locs, cells, slots⟩ { g with stack := rest } (.invokevirtual index) mk (Value.ref b :: argsL).toArray X₁ hg hsize hdg hW (X₁.named hnamed) (hpre vm₁ X₁.warmed) with ⟨v, B, X', hpost, hsteps⟩ | ⟨q, B, X', hpost, hsteps⟩
  · exact Or.inl ⟨v, vm₁, B, X₁.warmed, X', hpost, fun target h => hstep₁ _ fun acts => by rw [doInvoke_state]; exact hsteps.trans h⟩
  · exact Or.inr ⟨q, vm₁, B, X₁.warmed, X', hpost, hstep₁ _ fun acts => by rw [doInvoke_state]; exact hsteps⟩
theorem vx_callS (X : Stand p l e R s m args below meth c T locs cells slots) (hexec : p.tables.exec = Jvm.exec) {own : String} {index : Nat} {y : MethodName} {bytes : ByteArray} {maxL : Nat} {ret : Option FieldType}
    (hown : s.vm.findClass own = some m.cls) (hlink : (Cond.methodLink own index y).before args s = true) (hstat : (Cond.static y).before args s = true) (hinit : (Cond.initialized y.cls).before args s = true)
    (hcode : (Cond.code y bytes maxL ret).before args s = true) (hy : y.cls ≠ "java/lang/invoke/MethodHandle" ∧ y.cls ≠ "java/lang/invoke/VarHandle")
    {W9 : Nat} {Pre : Pt → Array Value → Prop} {Post : Pt → Array Value → Option Value → Pt → Prop} {PostX : Pt → Array Value → Addr → Pt → Prop} (hK : vx_Back l R p e below s args y 3 W9 Pre Post PostX)
    {g : JFrame} (hg : g.method = m) (hsize : g.locals.size = c.maxLocals) {argsL rest : List Value} (hlen : ∀ sig, parseMethodDescriptor y.desc = some sig → argsL.length = sig.parameters.length)
    (hstack : g.stack = argsL.reverse ++ rest) (hW : 2 * g.monitorRoom + (rest.map fun v => v.category).sum ≤ W9) (hdg : decode c.code g.pc = .ok (.invokestatic index, 3))
    (hpre : ∀ vm₁, s.WarmedH vm₁ → Pre ⟨T.setVm vm₁, locs, cells, slots⟩ argsL.toArray) :
    (∃ (v : Option Value) (vm₁ : Vm) (B : Pt), s.WarmedH vm₁ ∧ Stand p l e R s m args below meth c B.U B.locs B.cells B.slots ∧ Post ⟨T.setVm vm₁, locs, cells, slots⟩ argsL.toArray v B ∧
      ∀ target, Steps p.tables e below (B.U.setTop { g with pc := g.pc + 3, stack := v.toList ++ rest }) target → Steps p.tables e below (T.setTop g) target) ∨
    (∃ (q : Addr) (vm₁ : Vm) (B : Pt), s.WarmedH vm₁ ∧ Stand p l e R s m args below meth c B.U B.locs B.cells B.slots ∧ PostX ⟨T.setVm vm₁, locs, cells, slots⟩ argsL.toArray q B ∧
      Steps p.tables e below (T.setTop g) ((B.U.setTop { g with stack := rest }).pushFrame (.throwing q))) := by
  obtain ⟨mk, hnamed⟩ := Cond.code_named hcode
  obtain ⟨methM, cM, hmethM, -, -, -, -, -, -, hsigM⟩ := Cond.code_spec hnamed hcode
  have hstatic : methM.isStatic = true := Cond.static_spec hnamed hmethM hstat
  obtain ⟨kP, hkP, -⟩ := className_of_methodNamed hnamed
  have hinitP : kP.init = .initialized := Cond.initialized_spec (findClass_of_methodNamed hnamed) hkP hinit
  obtain ⟨vm₁, X₁, hstep₁⟩ := X.invokestatic hexec hown hlink hnamed hmethM hstatic hkP hinitP hy (g := g) hg (argsL := argsL) (rest := rest) (hlen _ hsigM) hstack hdg
  rcases hK m meth c ⟨T.setVm vm₁, locs, cells, slots⟩ { g with stack := rest } (.invokestatic index) mk argsL.toArray X₁ hg hsize hdg hW (X₁.named hnamed) (hpre vm₁ X₁.warmed) with ⟨v, B, X', hpost, hsteps⟩ | ⟨q, B, X', hpost, hsteps⟩
  · exact Or.inl ⟨v, vm₁, B, X₁.warmed, X', hpost, fun target h => hstep₁ _ fun acts => by rw [doInvoke_state]; exact hsteps.trans h⟩
  · exact Or.inr ⟨q, vm₁, B, X₁.warmed, X', hpost, hstep₁ _ fun acts => by rw [doInvoke_state]; exact hsteps⟩
end Calls
theorem vx_cls {s : State} {T : State} {vm₁ : Vm} {E : String} {k : ClassId} (hW : s.WarmedH vm₁) (h : (T.setVm vm₁).vm.findClass E = some k) : s.vm.findClass E = some k := by
  have h1 : vm₁.findClass E = some k := h
  rw [hW.alike.findClass] at h1
  exact h1
/-- the method's frame g, with q thrown over it -/
def vx_W (p : Program) (l : Launch) (e : Env) (R : Room) (s : State) (m : MethodId) (args : Array Value) (below : List Frame) (meth : Method) (c : Code) (H : Heap) (locs : List Loc) (cells slots : Nat) (Q : State → Prop) (g : JFrame) (q : Addr) : Prop :=
  ∀ T : State, T.heap = H → Stand p l e R s m args below meth c T locs cells slots → ∃ t, Steps p.tables e below ((T.setTop g).pushFrame (.throwing q)) t ∧ Q t
def vx_Run (p : Program) (l : Launch) (e : Env) (R : Room) (s : State) (m : MethodId) (args : Array Value) (below : List Frame) (meth : Method) (c : Code) (H : Heap) (locs : List Loc) (cells slots mc ms : Nat) (g : JFrame) (rest : List Value) (Qa : State → Outcome → State → Prop) (XC : String → State → State → Prop) (free : Addr → Prop) : Prop :=
  ∀ T : State, T.heap = H → Stand p l e R s m args below meth c T locs cells slots →
    (∃ (v : Option Value) (st₀ t T' : State) (L : List Loc), st₀.heap = H ∧ Stand p l e R s m args below meth c T' (locs ++ L) (cells + mc) (slots + ms) ∧ (∀ q ∈ L, free q.base) ∧ T'.heap = t.heap ∧ T'.vm = t.vm ∧ Qa st₀ (.returned v) t ∧
      Goes p e below T g T' { g with pc := g.pc + 3, stack := v.toList ++ rest }) ∨
    (∃ (q : Addr) (st₀ t T' : State) (L : List Loc) (E : String) (ce : Cell), st₀.heap = H ∧ Stand p l e R s m args below meth c T' (locs ++ L) (cells + mc) (slots + ms) ∧ (∀ z ∈ L, free z.base) ∧ T'.heap = t.heap ∧ T'.vm = t.vm ∧ XC E st₀ t ∧ t.heap[q]? = some ce ∧ ce.vm = .none ∧ s.vm.findClass E = some ce.cls ∧
      Steps p.tables e below (T.setTop g) ((T'.setTop { g with stack := rest }).pushFrame (.throwing q)))
def vx_X {S : Type} (px : S → Prop) (B : String → S → State → Prop) (A : Nat → Prop) : String → State → State → Prop := fun E st t => ∃ u : S, px u ∧ B E u t ∧ va_F A st t
section Runs
variable {p : Program} {l : Launch} {e : Env} {R : Room} {s : State} {m : MethodId} {args : Array Value} {below : List Frame} {meth : Method} {c : Code} {H : Heap} {locs : List Loc} {cells slots : Nat}
variable {y : MethodName} {bytes cc : ByteArray} {maxL nL mc ms n index : Nat} {ret : Option FieldType} {ws : List Cond} {rm : Room} {Pc : Array Value → State → Prop} {Qc : Array Value → State → Outcome → State → Prop} {XC : String → State → State → Prop} {free : Addr → Prop} {Ts : List Cond} {own C : String} {b : Addr} {As rest : List Value} {g : JFrame}
theorem vx_callBack (cb : CallB R s args own index y bytes maxL ret ws rm mc ms n) (hM : vx_Met l y ws rm Pc Qc XC mc ms free) (hbl : FrameBlind Pc) : vx_Back l R p e below s args y 3 8 (PreOf R mc ms Pc) (PostOf Qc mc ms free) (vx_Post XC mc ms free) := by
  obtain ⟨hrc, hrs, hfr, hlo, hws, hcw, -, hini, -⟩ := cb
  exact vx_back (bytes := bytes) (maxL := maxL) (ret := ret) hM hbl hrc hrs hfr hlo hws hcw (fun a' U hW => word_at hW (Or.inl (by first | rfl | simp [Cond.onTables, Cond.keeps, Cond.steady])) hini)
theorem vx_runV (S : CallFix p m c cc nL s args Ts own) (hM : vx_Met l y ws rm Pc Qc XC mc ms free) (cw : CallW R s args own C index y bytes maxL ret ws rm mc ms n) (hp : PreV s H C b Pc As)
    (hg : g.method = m) (hn : As.length = n) (hsize : g.locals.size = nL) (hstack : g.stack = As.reverse ++ .ref b :: rest) (hW : 2 * g.monitorRoom + (rest.map fun v => v.category).sum ≤ 8) (hdg : decode cc g.pc = .ok (.invokevirtual index, 3)) (hf : cells + mc ≤ R.cells ∧ slots + ms ≤ R.slots) :
    vx_Run p l e R s m args below meth c H locs cells slots mc ms g rest (Qc (Value.ref b :: As).toArray) XC free := by
  have hK : vx_Back l R p e below s args y 3 8 (PreOf R mc ms Pc) (PostOf Qc mc ms free) (vx_Post XC mc ms free) := vx_callBack cw.1 hM hp.1
  obtain ⟨⟨-, -, -, -, -, -, hcode, -, hy, hlen, hl⟩, hin, hse⟩ := cw
  obtain ⟨hx, hb, hml, ho, -⟩ := S
  obtain ⟨-, ⟨cellB, hcB, hoB, hclB⟩, hPc⟩ := hp
  intro T hT X
  rcases vx_callV X hx (C := C) (bytes := bytes) (maxL := maxL) (ret := ret) ho hl hin hse hcode hy hK (by rw [hT]; exact hcB) hoB hclB hg (hsize.trans hml.symm) (argsL := As) (rest := rest) (fun sig h => hn.trans (hlen sig h)) hstack hW (by rw [hb]; exact hdg)
    (fun vm₁ hW₁ => ⟨hf.1, hf.2, hPc (T.setVm vm₁) hT hW₁⟩) with ⟨v, vm₁, ⟨U', l2, c2, s2⟩, hW₁, X', ⟨g', mk, t, L, e1, e2, hq, h1, hL, h2, h3⟩, st⟩ | ⟨q, vm₁, ⟨U', l2, c2, s2⟩, hW₁, X', ⟨g', mk, t, L, E, ce, e1, e2, hq, hce, hcv, hcl, h1, hL, h2, h3⟩, st⟩
  · dsimp only [Pt.U, Pt.locs, Pt.cells, Pt.slots] at X' e1 e2 h1 h2 h3 st
    subst h1; subst h2; subst h3
    exact Or.inl ⟨v, (T.setVm vm₁).calling g' mk (Value.ref b :: As).toArray, t, U', L, hT, X', hL, e1, e2, hq, st⟩
  · dsimp only [Pt.U, Pt.locs, Pt.cells, Pt.slots] at X' e1 e2 h1 h2 h3 st hcl
    subst h1; subst h2; subst h3
    exact Or.inr ⟨q, (T.setVm vm₁).calling g' mk (Value.ref b :: As).toArray, t, U', L, E, ce, hT, X', hL, e1, e2, hq, hce, hcv, vx_cls hW₁ hcl, st⟩
theorem vx_runS (S : CallFix p m c cc nL s args Ts own) (hM : vx_Met l y ws rm Pc Qc XC mc ms free) (cw : CallB R s args own index y bytes maxL ret ws rm mc ms n ∧ (Cond.static y).before args s = true) (hp : PreS s H Pc As)
    (hg : g.method = m) (hn : As.length = n) (hsize : g.locals.size = nL) (hstack : g.stack = As.reverse ++ rest) (hW : 2 * g.monitorRoom + (rest.map fun v => v.category).sum ≤ 8) (hdg : decode cc g.pc = .ok (.invokestatic index, 3)) (hf : cells + mc ≤ R.cells ∧ slots + ms ≤ R.slots) :
    vx_Run p l e R s m args below meth c H locs cells slots mc ms g rest (Qc As.toArray) XC free := by
  have hK : vx_Back l R p e below s args y 3 8 (PreOf R mc ms Pc) (PostOf Qc mc ms free) (vx_Post XC mc ms free) := vx_callBack cw.1 hM hp.1
  obtain ⟨⟨-, -, -, -, -, -, hcode, hini, hy, hlen, hl⟩, hstt⟩ := cw
  obtain ⟨hx, hb, hml, ho, -⟩ := S
  intro T hT X
  rcases vx_callS X hx (bytes := bytes) (maxL := maxL) (ret := ret) ho hl hstt hini hcode hy hK hg (hsize.trans hml.symm) (argsL := As) (rest := rest) (fun sig h => hn.trans (hlen sig h)) hstack hW (by rw [hb]; exact hdg)
    (fun vm₁ hW₁ => ⟨hf.1, hf.2, hp.2 (T.setVm vm₁) hT hW₁⟩) with ⟨v, vm₁, ⟨U', l2, c2, s2⟩, hW₁, X', ⟨g', mk, t, L, e1, e2, hq, h1, hL, h2, h3⟩, st⟩ | ⟨q, vm₁, ⟨U', l2, c2, s2⟩, hW₁, X', ⟨g', mk, t, L, E, ce, e1, e2, hq, hce, hcv, hcl, h1, hL, h2, h3⟩, st⟩
  · dsimp only [Pt.U, Pt.locs, Pt.cells, Pt.slots] at X' e1 e2 h1 h2 h3 st
    subst h1; subst h2; subst h3
    exact Or.inl ⟨v, (T.setVm vm₁).calling g' mk As.toArray, t, U', L, hT, X', hL, e1, e2, hq, st⟩
  · dsimp only [Pt.U, Pt.locs, Pt.cells, Pt.slots] at X' e1 e2 h1 h2 h3 st hcl
    subst h1; subst h2; subst h3
    exact Or.inr ⟨q, (T.setVm vm₁).calling g' mk As.toArray, t, U', L, E, ce, hT, X', hL, e1, e2, hq, hce, hcv, vx_cls hW₁ hcl, st⟩
end Runs
section Rows
variable {p : Program} {l : Launch} {e : Env} {R : Room} {s : State} {m : MethodId} {args : Array Value} {below : List Frame} {meth : Method} {c : Code} {H : Heap} {locs : List Loc} {cells slots : Nat} {Q : State → Prop}
variable {mc ms : Nat} {free : Addr → Prop} {A0 A1 : Nat → Prop} {H0 : Heap} {a : Array Value} {pc : Nat} {ls : Array Slot} {st0 rest : List Value}
theorem vx_keep {st₀ t T' : State} {L : List Loc} (h0 : st₀.heap = H) (e1 : T'.heap = t.heap) (hS : va_S A0 H0 H locs) (hA : ∀ q, q < H.size → A1 q → A0 q) (hf : ∀ q, free q → A0 q) (hL : ∀ q ∈ L, free q.base) (hF : va_F A1 st₀ t) :
    H.size ≤ T'.heap.size ∧ (∀ q : Nat, q < H.size → ¬ A1 q → T'.heap[q]? = H[q]?) ∧ va_S A0 H0 T'.heap (locs ++ L) := by
  obtain ⟨hz, hk⟩ := hF
  rw [h0] at hz hk
  exact ⟨by rw [e1]; exact hz, fun q h1 h2 => by rw [e1]; exact hk q h1 h2,
    ⟨Nat.le_trans hS.1 (by rw [e1]; exact hz), fun q h1 h2 => by rw [e1, hk q (Nat.lt_of_lt_of_le h1 hS.1) (fun z => h2 (hA q (Nat.lt_of_lt_of_le h1 hS.1) z))]; exact hS.2.1 q h1 h2, fun q hq => by
      rcases List.mem_append.mp hq with h | h
      · exact hS.2.2 q h
      · exact hf _ (hL q h)⟩⟩
theorem vx_calli {S SX : Type} {post : Int32 → S → Prop} {px : SX → Prop} {B : S → State → Prop} {BX : String → SX → State → Prop} {AX : Nat → Prop} (hr : vx_Run p l e R s m args below meth c H locs cells slots mc ms (F0 m pc ls st0) rest (va_Qi post B A1 a) (vx_X px BX AX) free) (hS : va_S A0 H0 H locs) (hA : ∀ q, q < H.size → A1 q → A0 q) (hf : ∀ q, free q → A0 q) (hAX : ∀ q, q < H.size → AX q → A0 q)
    (kx : ∀ (E : String) (ce : Cell) (q9 : Addr) (u : SX) (t : State) (H1 : Heap) (locs1 : List Loc), t.heap = H1 → s.vm.Alike t.vm → px u → BX E u t → H.size ≤ H1.size → (∀ q : Nat, q < H.size → ¬ AX q → H1[q]? = H[q]?) → va_S A0 H0 H1 locs1 → H1[q9]? = some ce → ce.vm = .none → s.vm.findClass E = some ce.cls → vx_W p l e R s m args below meth c H1 locs1 (cells + mc) (slots + ms) Q (F0 m pc ls rest) q9)
    (kk : ∀ (r : Int32) (u : S) (t : State) (H1 : Heap) (locs1 : List Loc), t.heap = H1 → s.vm.Alike t.vm → post r u → B u t → H.size ≤ H1.size → (∀ q : Nat, q < H.size → ¬ A1 q → H1[q]? = H[q]?) → va_S A0 H0 H1 locs1 → W p l e R s m args below meth c H1 locs1 (cells + mc) (slots + ms) Q (F0 m (pc + 3) ls (.int r :: rest))) : W p l e R s m args below meth c H locs cells slots Q (F0 m pc ls st0) := by
  intro T hT X
  rcases hr T hT X with ⟨v, st₀, t, T', L, h0, X', hL, e1, e2, ⟨⟨r, u, hv, hp, hb⟩, hF⟩, st⟩ | ⟨q, st₀, t, T', L, E, ce, h0, X', hL, e1, e2, ⟨u, hp, hb, hF⟩, hce, hcv, hcl, st⟩
  · cases hv
    obtain ⟨k1, k2, k3⟩ := vx_keep h0 e1 hS hA hf hL hF
    obtain ⟨t2, a1, b1⟩ := kk r u t T'.heap (locs ++ L) e1.symm (by rw [← e2]; exact X'.warmed.alike) hp hb k1 k2 k3 T' rfl X'
    exact ⟨t2, st t2 a1, b1⟩
  · obtain ⟨k1, k2, k3⟩ := vx_keep h0 e1 hS hAX hf hL hF
    obtain ⟨t2, a1, b1⟩ := kx E ce q u t T'.heap (locs ++ L) e1.symm (by rw [← e2]; exact X'.warmed.alike) hp hb k1 k2 k3 (by rw [e1]; exact hce) hcv hcl T' rfl X'
    exact ⟨t2, st.trans a1, b1⟩
theorem vx_calll {S SX : Type} {post : Int64 → S → Prop} {px : SX → Prop} {B : S → State → Prop} {BX : String → SX → State → Prop} {AX : Nat → Prop} (hr : vx_Run p l e R s m args below meth c H locs cells slots mc ms (F0 m pc ls st0) rest (va_Ql post B A1 a) (vx_X px BX AX) free) (hS : va_S A0 H0 H locs) (hA : ∀ q, q < H.size → A1 q → A0 q) (hf : ∀ q, free q → A0 q) (hAX : ∀ q, q < H.size → AX q → A0 q)
    (kx : ∀ (E : String) (ce : Cell) (q9 : Addr) (u : SX) (t : State) (H1 : Heap) (locs1 : List Loc), t.heap = H1 → s.vm.Alike t.vm → px u → BX E u t → H.size ≤ H1.size → (∀ q : Nat, q < H.size → ¬ AX q → H1[q]? = H[q]?) → va_S A0 H0 H1 locs1 → H1[q9]? = some ce → ce.vm = .none → s.vm.findClass E = some ce.cls → vx_W p l e R s m args below meth c H1 locs1 (cells + mc) (slots + ms) Q (F0 m pc ls rest) q9)
    (kk : ∀ (r : Int64) (u : S) (t : State) (H1 : Heap) (locs1 : List Loc), t.heap = H1 → s.vm.Alike t.vm → post r u → B u t → H.size ≤ H1.size → (∀ q : Nat, q < H.size → ¬ A1 q → H1[q]? = H[q]?) → va_S A0 H0 H1 locs1 → W p l e R s m args below meth c H1 locs1 (cells + mc) (slots + ms) Q (F0 m (pc + 3) ls (.long r :: rest))) : W p l e R s m args below meth c H locs cells slots Q (F0 m pc ls st0) := by
  intro T hT X
  rcases hr T hT X with ⟨v, st₀, t, T', L, h0, X', hL, e1, e2, ⟨⟨r, u, hv, hp, hb⟩, hF⟩, st⟩ | ⟨q, st₀, t, T', L, E, ce, h0, X', hL, e1, e2, ⟨u, hp, hb, hF⟩, hce, hcv, hcl, st⟩
  · cases hv
    obtain ⟨k1, k2, k3⟩ := vx_keep h0 e1 hS hA hf hL hF
    obtain ⟨t2, a1, b1⟩ := kk r u t T'.heap (locs ++ L) e1.symm (by rw [← e2]; exact X'.warmed.alike) hp hb k1 k2 k3 T' rfl X'
    exact ⟨t2, st t2 a1, b1⟩
  · obtain ⟨k1, k2, k3⟩ := vx_keep h0 e1 hS hAX hf hL hF
    obtain ⟨t2, a1, b1⟩ := kx E ce q u t T'.heap (locs ++ L) e1.symm (by rw [← e2]; exact X'.warmed.alike) hp hb k1 k2 k3 (by rw [e1]; exact hce) hcv hcl T' rfl X'
    exact ⟨t2, st.trans a1, b1⟩
theorem vx_callf {S SX : Type} {post : UInt32 → S → Prop} {px : SX → Prop} {B : S → State → Prop} {BX : String → SX → State → Prop} {AX : Nat → Prop} (hr : vx_Run p l e R s m args below meth c H locs cells slots mc ms (F0 m pc ls st0) rest (va_Qf post B A1 a) (vx_X px BX AX) free) (hS : va_S A0 H0 H locs) (hA : ∀ q, q < H.size → A1 q → A0 q) (hf : ∀ q, free q → A0 q) (hAX : ∀ q, q < H.size → AX q → A0 q)
    (kx : ∀ (E : String) (ce : Cell) (q9 : Addr) (u : SX) (t : State) (H1 : Heap) (locs1 : List Loc), t.heap = H1 → s.vm.Alike t.vm → px u → BX E u t → H.size ≤ H1.size → (∀ q : Nat, q < H.size → ¬ AX q → H1[q]? = H[q]?) → va_S A0 H0 H1 locs1 → H1[q9]? = some ce → ce.vm = .none → s.vm.findClass E = some ce.cls → vx_W p l e R s m args below meth c H1 locs1 (cells + mc) (slots + ms) Q (F0 m pc ls rest) q9)
    (kk : ∀ (r : UInt32) (u : S) (t : State) (H1 : Heap) (locs1 : List Loc), t.heap = H1 → s.vm.Alike t.vm → post r u → B u t → H.size ≤ H1.size → (∀ q : Nat, q < H.size → ¬ A1 q → H1[q]? = H[q]?) → va_S A0 H0 H1 locs1 → W p l e R s m args below meth c H1 locs1 (cells + mc) (slots + ms) Q (F0 m (pc + 3) ls (.float r :: rest))) : W p l e R s m args below meth c H locs cells slots Q (F0 m pc ls st0) := by
  intro T hT X
  rcases hr T hT X with ⟨v, st₀, t, T', L, h0, X', hL, e1, e2, ⟨⟨r, u, hv, hp, hb⟩, hF⟩, st⟩ | ⟨q, st₀, t, T', L, E, ce, h0, X', hL, e1, e2, ⟨u, hp, hb, hF⟩, hce, hcv, hcl, st⟩
  · cases hv
    obtain ⟨k1, k2, k3⟩ := vx_keep h0 e1 hS hA hf hL hF
    obtain ⟨t2, a1, b1⟩ := kk r u t T'.heap (locs ++ L) e1.symm (by rw [← e2]; exact X'.warmed.alike) hp hb k1 k2 k3 T' rfl X'
    exact ⟨t2, st t2 a1, b1⟩
  · obtain ⟨k1, k2, k3⟩ := vx_keep h0 e1 hS hAX hf hL hF
    obtain ⟨t2, a1, b1⟩ := kx E ce q u t T'.heap (locs ++ L) e1.symm (by rw [← e2]; exact X'.warmed.alike) hp hb k1 k2 k3 (by rw [e1]; exact hce) hcv hcl T' rfl X'
    exact ⟨t2, st.trans a1, b1⟩
theorem vx_calld {S SX : Type} {post : UInt64 → S → Prop} {px : SX → Prop} {B : S → State → Prop} {BX : String → SX → State → Prop} {AX : Nat → Prop} (hr : vx_Run p l e R s m args below meth c H locs cells slots mc ms (F0 m pc ls st0) rest (va_Qd post B A1 a) (vx_X px BX AX) free) (hS : va_S A0 H0 H locs) (hA : ∀ q, q < H.size → A1 q → A0 q) (hf : ∀ q, free q → A0 q) (hAX : ∀ q, q < H.size → AX q → A0 q)
    (kx : ∀ (E : String) (ce : Cell) (q9 : Addr) (u : SX) (t : State) (H1 : Heap) (locs1 : List Loc), t.heap = H1 → s.vm.Alike t.vm → px u → BX E u t → H.size ≤ H1.size → (∀ q : Nat, q < H.size → ¬ AX q → H1[q]? = H[q]?) → va_S A0 H0 H1 locs1 → H1[q9]? = some ce → ce.vm = .none → s.vm.findClass E = some ce.cls → vx_W p l e R s m args below meth c H1 locs1 (cells + mc) (slots + ms) Q (F0 m pc ls rest) q9)
    (kk : ∀ (r : UInt64) (u : S) (t : State) (H1 : Heap) (locs1 : List Loc), t.heap = H1 → s.vm.Alike t.vm → post r u → B u t → H.size ≤ H1.size → (∀ q : Nat, q < H.size → ¬ A1 q → H1[q]? = H[q]?) → va_S A0 H0 H1 locs1 → W p l e R s m args below meth c H1 locs1 (cells + mc) (slots + ms) Q (F0 m (pc + 3) ls (.double r :: rest))) : W p l e R s m args below meth c H locs cells slots Q (F0 m pc ls st0) := by
  intro T hT X
  rcases hr T hT X with ⟨v, st₀, t, T', L, h0, X', hL, e1, e2, ⟨⟨r, u, hv, hp, hb⟩, hF⟩, st⟩ | ⟨q, st₀, t, T', L, E, ce, h0, X', hL, e1, e2, ⟨u, hp, hb, hF⟩, hce, hcv, hcl, st⟩
  · cases hv
    obtain ⟨k1, k2, k3⟩ := vx_keep h0 e1 hS hA hf hL hF
    obtain ⟨t2, a1, b1⟩ := kk r u t T'.heap (locs ++ L) e1.symm (by rw [← e2]; exact X'.warmed.alike) hp hb k1 k2 k3 T' rfl X'
    exact ⟨t2, st t2 a1, b1⟩
  · obtain ⟨k1, k2, k3⟩ := vx_keep h0 e1 hS hAX hf hL hF
    obtain ⟨t2, a1, b1⟩ := kx E ce q u t T'.heap (locs ++ L) e1.symm (by rw [← e2]; exact X'.warmed.alike) hp hb k1 k2 k3 (by rw [e1]; exact hce) hcv hcl T' rfl X'
    exact ⟨t2, st.trans a1, b1⟩
theorem vx_callv {S SX : Type} {post : S → Prop} {px : SX → Prop} {B : S → State → Prop} {BX : String → SX → State → Prop} {AX : Nat → Prop} (hr : vx_Run p l e R s m args below meth c H locs cells slots mc ms (F0 m pc ls st0) rest (va_Qv post B A1 a) (vx_X px BX AX) free) (hS : va_S A0 H0 H locs) (hA : ∀ q, q < H.size → A1 q → A0 q) (hf : ∀ q, free q → A0 q) (hAX : ∀ q, q < H.size → AX q → A0 q)
    (kx : ∀ (E : String) (ce : Cell) (q9 : Addr) (u : SX) (t : State) (H1 : Heap) (locs1 : List Loc), t.heap = H1 → s.vm.Alike t.vm → px u → BX E u t → H.size ≤ H1.size → (∀ q : Nat, q < H.size → ¬ AX q → H1[q]? = H[q]?) → va_S A0 H0 H1 locs1 → H1[q9]? = some ce → ce.vm = .none → s.vm.findClass E = some ce.cls → vx_W p l e R s m args below meth c H1 locs1 (cells + mc) (slots + ms) Q (F0 m pc ls rest) q9)
    (kk : ∀ (u : S) (t : State) (H1 : Heap) (locs1 : List Loc), t.heap = H1 → s.vm.Alike t.vm → post u → B u t → H.size ≤ H1.size → (∀ q : Nat, q < H.size → ¬ A1 q → H1[q]? = H[q]?) → va_S A0 H0 H1 locs1 → W p l e R s m args below meth c H1 locs1 (cells + mc) (slots + ms) Q (F0 m (pc + 3) ls (rest))) : W p l e R s m args below meth c H locs cells slots Q (F0 m pc ls st0) := by
  intro T hT X
  rcases hr T hT X with ⟨v, st₀, t, T', L, h0, X', hL, e1, e2, ⟨⟨u, hv, hp, hb⟩, hF⟩, st⟩ | ⟨q, st₀, t, T', L, E, ce, h0, X', hL, e1, e2, ⟨u, hp, hb, hF⟩, hce, hcv, hcl, st⟩
  · cases hv
    obtain ⟨k1, k2, k3⟩ := vx_keep h0 e1 hS hA hf hL hF
    obtain ⟨t2, a1, b1⟩ := kk u t T'.heap (locs ++ L) e1.symm (by rw [← e2]; exact X'.warmed.alike) hp hb k1 k2 k3 T' rfl X'
    exact ⟨t2, st t2 a1, b1⟩
  · obtain ⟨k1, k2, k3⟩ := vx_keep h0 e1 hS hAX hf hL hF
    obtain ⟨t2, a1, b1⟩ := kx E ce q u t T'.heap (locs ++ L) e1.symm (by rw [← e2]; exact X'.warmed.alike) hp hb k1 k2 k3 (by rw [e1]; exact hce) hcv hcl T' rfl X'
    exact ⟨t2, st.trans a1, b1⟩
/-- caught by the row x of this method's table; the rows ahead don't take it -/
theorem vx_catch {own name : String} {E : String} {ce : Cell} {q : Addr} (hown : s.vm.findClass own = some m.cls) (pre : List ExceptionTableEntry) (x : ExceptionTableEntry) (suf : List ExceptionTableEntry) (hsplit : c.exceptionTable.toList = pre ++ x :: suf)
    (hpass : ∀ z ∈ pre, covers z pc = false ∨ (z.catchType ≠ 0 ∧ ∃ nm : String, (Cond.classLink own z.catchType nm).before args s = true ∧ va_Nc E nm s)) (hx : covers x pc = true) (h0 : x.catchType ≠ 0)
    (hlink : (Cond.classLink own x.catchType name).before args s = true) (hcast : (Cond.castable E name).before args s = true) (hcell : H[q]? = some ce) (hv : ce.vm = .none) (hcl : s.vm.findClass E = some ce.cls)
    (kk : W p l e R s m args below meth c H locs cells slots Q (F0 m x.handlerPc ls [.ref q])) : vx_W p l e R s m args below meth c H locs cells slots Q (F0 m pc ls rest) q := by
  intro T hT X
  have hpl : e.platform.magicAccessors = ({} : Platform).magicAccessors := by rw [X.admits.platform]
  obtain ⟨c3, c4, hc3, hc4, hasg⟩ := Cond.castable_spec hcast
  cases Option.some.inj (hc3.symm.trans hcl)
  obtain ⟨c5, hc5, hcl5⟩ := Cond.classLink_spec hown hlink e.platform hpl
  cases Option.some.inj (hc4.symm.trans hc5)
  obtain ⟨vm', X', st⟩ := X.thenCaughtThrough q (g := F0 m pc ls rest) rfl (Steps.refl _) (by rw [hT]; exact hcell) (by rw [hv]; rfl) (by obtain ⟨k9, h9, -⟩ := Vm.findClass_spec hcl; exact ⟨k9, h9⟩) pre x suf hsplit
    (fun z hz => by
      rcases hpass z hz with h | ⟨hz0, nm, hl1, hn1⟩
      · exact Or.inl h
      · obtain ⟨c6, hc6, hcl6⟩ := Cond.classLink_spec hown hl1 e.platform hpl
        obtain ⟨a8, b8, h1, h2, h3⟩ := hn1
        cases Option.some.inj (h1.symm.trans hcl)
        cases Option.some.inj (h2.symm.trans hc6)
        exact Or.inr ⟨hz0, _, hcl6, h3⟩) hx (Or.inr ⟨h0, c4, hcl5, hasg⟩)
  obtain ⟨t, a1, b1⟩ := kk (T.setVm vm') hT X'
  exact ⟨t, st.trans a1, b1⟩
end Rows
section Ends
variable {p : Program} {l : Launch} {e : Env} {R : Room} {s : State} {m : MethodId} {args : Array Value} {below : List Frame} {meth : Method} {c : Code} {H : Heap} {locs : List Loc} {cells slots : Nat} {Q : State → Prop}
variable {mc ms : Nat} {free : Addr → Prop} {A0 A1 : Nat → Prop} {H0 : Heap} {a : Array Value} {ls : Array Slot} {st0 rest : List Value}
variable {Qc : Array Value → State → Outcome → State → Prop} {XC : String → State → State → Prop}
/-- what a body that may throw owes at its end -/
def vx_MQ (below : List Frame) (Qc : Array Value → State → Outcome → State → Prop) (XC : String → State → State → Prop) (a : Array Value) (s : State) (mc ms : Nat) (free : Addr → Prop) : State → Prop := fun t =>
  ∃ o, t.status = .running ∧ Ended t below o ∧ vx_Q Qc XC mc ms free a s o t
theorem vx_ret {g : JFrame} {mc ms : Nat} (k : W p l e R s m args below meth c H locs cells slots (MQ below Qc args s mc ms free) g) : W p l e R s m args below meth c H locs cells slots (vx_MQ below Qc XC args s mc ms free) g := by
  intro T hT X
  obtain ⟨t, a1, o, b1, b2, b3, b4⟩ := k T hT X
  exact ⟨t, a1, o, b1, b2, Or.inl ⟨b3, b4⟩⟩
/-- not caught here: it goes on to the caller -/
theorem vx_widen {g : JFrame} {q : Addr} {k n : Nat} (h1 : cells ≤ k) (h2 : slots ≤ n) (kk : vx_W p l e R s m args below meth c H locs k n Q g q) : vx_W p l e R s m args below meth c H locs cells slots Q g q := fun T hT X => kk T hT (stand_widen X h1 h2)
theorem vx_out {pc : Nat} {E : String} {ce : Cell} {q : Addr} {mc ms : Nat} (hout : ∀ x ∈ c.exceptionTable.toList, covers x pc = false) (hlocks : meth.locks = false) (hcell : H[q]? = some ce) (hv : ce.vm = .none) (hcl : s.vm.findClass E = some ce.cls)
    (hx : ∀ t : State, t.heap = H → s.vm.Alike t.vm → XC E s t) (hf : ∀ z ∈ locs, free z.base) (hc : cells ≤ mc) (hs : slots ≤ ms) :
    vx_W p l e R s m args below meth c H locs cells slots (vx_MQ below Qc XC args s mc ms free) (F0 m pc ls rest) q := by
  intro T hT X
  obtain ⟨st1, hrun, hend, hW, hsm⟩ := X.leaveThrown q (g := F0 m pc ls rest) rfl rfl rfl hout hlocks
  have hcell9 : (T.setFrames (.throwing q :: below)).heap[q]? = some ce := by
    show T.heap[q]? = some ce
    rw [hT]; exact hcell
  exact ⟨_, st1, .threw q, hrun, hend, Or.inr ⟨q, rfl, E, ce, locs, hx _ hT hW.alike, hcell9, hv, hcl, hW, hsm.mono hc hs, hf⟩⟩
theorem vx_frame {U : State} {k n : Nat} (h : s.sameButNew ({ U with vm := s.vm } : State) locs k n) : s.heap.size ≤ U.heap.size ∧ ∀ q : Nat, q < s.heap.size → (∀ z ∈ locs, z.base ≠ q) → U.heap[q]? = s.heap[q]? := by
  obtain ⟨-, h2, -, -, -, h6⟩ := h
  refine ⟨h2, fun q hq hz => ?_⟩
  obtain ⟨c9, e1, e2, e3, e4⟩ := h6 q _ (Array.getElem?_eq_getElem hq)
  have hs : c9.slots = (s.heap[q]).slots := Array.ext_getElem? fun i => e4 i fun hm => hz _ hm rfl
  have h9 : c9 = s.heap[q] := by
    rw [hs] at e2
    exact e2
  have e5 : U.heap[q]? = some c9 := e1
  rw [e5, h9, Array.getElem?_eq_getElem hq]
/-- the words of a throw but the four that speak of the heap -/
def vx_no (w : Cond) : Bool := decide (w ≠ .isRef (.static Bundle.tN "UNASSIGNED_STACK" Bundle.steD)) && decide (w ≠ .isRef (.static Bundle.tN "SUPPRESSED_SENTINEL" Bundle.listD)) && decide (w ≠ .laysStatic Bundle.tN "UNASSIGNED_STACK" Bundle.steD) && decide (w ≠ .laysStatic Bundle.tN "SUPPRESSED_SENTINEL" Bundle.listD)
def vx_at0 (own : String) (ic : Nat) (X : String) (names : List String) : List Cond := (Bundle.ownAtoms0 own ic X names).filter vx_no
def vx_atS (own : String) (ic : Nat) (X : String) (names : List String) : List Cond := (Bundle.ownAtoms own ic X names).filter vx_no
/-- a word that the tables alone decide, or a good one -/
def vx_ot (w : Cond) : Bool := w.onTables || goodWord w
theorem vx_ot_at {args a' : Array Value} {s U : State} {w : Cond} (hW : s.WarmedH U.vm) (hvm : s.vm = U.vm) (hg : vx_ot w = true) (h : w.before args s = true) : w.before a' U = true := by
  simp only [vx_ot, Bool.or_eq_true] at hg
  rcases hg with hg | hg
  · exact va_tabs hg hvm h
  · exact word_at hW (good_of_word hg) h
/-- a list's words: the good ones out of the method's own list, the others by premises of their own -/
theorem vx_hat {args : Array Value} {s : State} {L B : List Cond} (h1 : ∀ w ∈ L.filter goodWord, w.before args s = true) (h2 : ∀ w ∈ L.filter (fun w => !goodWord w), w ∈ B) (h3 : ∀ w ∈ B, w.before args s = true) : ∀ w ∈ L, w.before args s = true := by
  intro w hw
  by_cases g : goodWord w = true
  · exact h1 w (List.mem_filter.mpr ⟨hw, g⟩)
  · refine h3 w (h2 w (List.mem_filter.mpr ⟨hw, ?_⟩))
    show (!goodWord w) = true
    cases hgw : goodWord w
    · rfl
    · exact absurd hgw g
theorem vx_c {args : Array Value} {s : State} {w : Cond} {B : List Cond} (h : w.before args s = true) (t : ∀ w ∈ B, w.before args s = true) : ∀ w' ∈ w :: B, w'.before args s = true := fun w' h' => (List.mem_cons.mp h').elim (fun e => by rw [e]; exact h) (t w')
theorem vx_n {args : Array Value} {s : State} : ∀ w ∈ ([] : List Cond), w.before args s = true := fun _ h => nomatch h
theorem vx_own {args : Array Value} {s : State} {L : List Cond} (h1 : ∀ w ∈ L.filter vx_no, w.before args s = true)
    (hU : (Cond.isRef (.static Bundle.tN "UNASSIGNED_STACK" Bundle.steD)).before args s = true) (hN : (Cond.isRef (.static Bundle.tN "SUPPRESSED_SENTINEL" Bundle.listD)).before args s = true)
    (lU : (Cond.laysStatic Bundle.tN "UNASSIGNED_STACK" Bundle.steD).before args s = true) (lN : (Cond.laysStatic Bundle.tN "SUPPRESSED_SENTINEL" Bundle.listD).before args s = true) : ∀ w ∈ L, w.before args s = true := by
  intro w hw
  by_cases e1 : w = .isRef (.static Bundle.tN "UNASSIGNED_STACK" Bundle.steD)
  · rw [e1]; exact hU
  · by_cases e2 : w = .isRef (.static Bundle.tN "SUPPRESSED_SENTINEL" Bundle.listD)
    · rw [e2]; exact hN
    · by_cases e3 : w = .laysStatic Bundle.tN "UNASSIGNED_STACK" Bundle.steD
      · rw [e3]; exact lU
      · by_cases e4 : w = .laysStatic Bundle.tN "SUPPRESSED_SENTINEL" Bundle.listD
        · rw [e4]; exact lN
        · exact h1 w (List.mem_filter.mpr ⟨hw, by unfold vx_no; rw [decide_eq_true e1, decide_eq_true e2, decide_eq_true e3, decide_eq_true e4]; rfl⟩)
/-- where a static field lies, its class's statics cell in H -/
def vx_L (C n d : String) (A : Nat → Prop) (U : State) (H : Heap) : Prop := ∃ (c : ClassId) (k : Class) (i : Nat) (f : Field) (a : Nat) (cell : Cell), U.vm.findClass C = some c ∧ U.fieldFound? C n d = some (c, k, i, f) ∧ f.isStatic = true ∧ k.statics = some a ∧ H[a]? = some cell ∧ cell.vm.isStatics = true ∧ cell.cls = c ∧ f.slot < cell.slots.size ∧ k.staticTypes[f.slot]? = some f.type ∧ ¬ A a
theorem vx_L.moved {C n d : String} {A : Nat → Prop} {u U : State} {H : Heap} (hvm : u.vm.Alike U.vm) (h : vx_L C n d A u H) : vx_L C n d A U H := by
  obtain ⟨c, k, i, f, a, cell, h1, h2, h3, h4, h5, h6, h7, h8, h9, h10⟩ := h
  obtain ⟨k', hi', he⟩ := State.fieldFound?_setVm hvm h2
  exact ⟨c, k', i, f, a, cell, by rw [hvm.findClass]; exact h1, hi', h3, by rw [he]; exact h4, h5, h6, h7, h8, by rw [he]; exact h9, h10⟩
theorem vx_L.kept {C n d : String} {A : Nat → Prop} {U : State} {H H1 : Heap} (h : vx_L C n d A U H) (hq : ∀ a : Nat, a < H.size → ¬ A a → H1[a]? = H[a]?) : vx_L C n d A U H1 := by
  obtain ⟨c, k, i, f, a, cell, h1, h2, h3, h4, h5, h6, h7, h8, h9, h10⟩ := h
  exact ⟨c, k, i, f, a, cell, h1, h2, h3, h4, by rw [hq a (Array.getElem?_eq_some_iff.mp h5).1 h10]; exact h5, h6, h7, h8, h9, h10⟩
theorem vx_L.narrow {C n d : String} {A B : Nat → Prop} {U : State} {H : Heap} (h : vx_L C n d A U H) (hAB : ∀ q, B q → A q) : vx_L C n d B U H := by
  obtain ⟨c, k, i, f, a, cell, h1, h2, h3, h4, h5, h6, h7, h8, h9, h10⟩ := h
  exact ⟨c, k, i, f, a, cell, h1, h2, h3, h4, h5, h6, h7, h8, h9, fun z => h10 (hAB _ z)⟩
theorem vx_L.word {C n d : String} {A : Nat → Prop} {s : State} {args : Array Value} (h : vx_L C n d A s s.heap) : (Cond.laysStatic C n d).before args s = true := by
  obtain ⟨c, k, i, f, a, cell, h1, h2, h3, h4, h5, h6, h7, h8, h9, -⟩ := h
  show (Cond.laysStatic C n d).holds args s none s [] = true
  exact Cond.laysStatic_of h1 h2 h3 h4 h5 h6 h7 h8 h9
/-- .. and what it holds: null or some reference -/
def vx_Zq (C n d : String) (A : Nat → Prop) (U : State) (H : Heap) : Prop := va_Zq C n d A U H ∧ vx_L C n d A U H
theorem vx_Zq.moved {C n d : String} {A : Nat → Prop} {u U : State} {H : Heap} (hvm : u.vm.Alike U.vm) (h : vx_Zq C n d A u H) : vx_Zq C n d A U H := ⟨va_Zq.moved hvm h.1, vx_L.moved hvm h.2⟩
theorem vx_Zq.kept {C n d : String} {A : Nat → Prop} {U : State} {H H1 : Heap} (h : vx_Zq C n d A U H) (hq : ∀ a : Nat, a < H.size → ¬ A a → H1[a]? = H[a]?) : vx_Zq C n d A U H1 := ⟨va_Zq.kept h.1 hq, vx_L.kept h.2 hq⟩
theorem vx_Zq.narrow {C n d : String} {A B : Nat → Prop} {U : State} {H : Heap} (h : vx_Zq C n d A U H) (hAB : ∀ q, B q → A q) : vx_Zq C n d B U H := ⟨va_Zq.narrow h.1 hAB, vx_L.narrow h.2 hAB⟩
theorem vx_Zqof {args : Array Value} {s : State} {C n d : String} {A : Nat → Prop} (hl : (Cond.laysStatic C n d).before args s = true) (hini : (Cond.initialized C).before args s = true) (h : (Cond.isRef (.static C n d)).before args s = true) (hA : ∀ a : Nat, a < s.heap.size → ¬ A a) : vx_Zq C n d A s s.heap := by
  refine ⟨va_Zqof hl hini h hA, ?_⟩
  obtain ⟨c, k, i, f, a, cell, h1, h2, h3, h4, h5, h6, h7, h8, h9⟩ := Cond.laysStatic_spec hl
  exact ⟨c, k, i, f, a, cell, h1, h2, h3, h4, h5, h6, h7, h8, h9, hA a (Array.getElem?_eq_some_iff.mp h5).1⟩
theorem vx_isRef {C n d : String} {v : Value} {A : Nat → Prop} {s : State} {args : Array Value} (h : va_Z C n d v A s s.heap) (hv : v.isRef = true) : (Cond.isRef (.static C n d)).before args s = true := by
  obtain ⟨cf, kf, fi, f, a, cell, h1, h2, h3, h4, h5, h6, h7, -⟩ := h
  have he : (Term.static C n d).eval args s none [] s = some v := by
    simp [Term.eval, State.fieldNamed?, h1, h2, h4, h5, h6, h7]
  simp only [Cond.before, Cond.holds, Cond.value, he]
  cases v <;> simp_all [Value.isRef]
theorem vx_isRefq {C n d : String} {A : Nat → Prop} {s : State} {args : Array Value} (h : va_Zq C n d A s s.heap) : (Cond.isRef (.static C n d)).before args s = true := by
  rcases h with h | ⟨t, h⟩
  · exact vx_isRef h rfl
  · exact vx_isRef h rfl
/-- the same frame, seen from here: as if the method were called anew in this heap -/
theorem vx_rebase {T : State} (X : Stand p l e R s m args below meth c T locs cells slots) {R' : Room} (hf : R'.frames ≤ R.frames) (hl : R'.locals ≤ R.locals) (hc : cells + R'.cells ≤ R.cells) (hs : slots + R'.slots ≤ R.slots) :
    Stand p l e R' ((T.setVm s.vm).setFrames (.invoking m args :: below)) m args below meth c T [] 0 0 := by
  have htop : (T.setVm s.vm).topJava?.isSome := X.here.top
  have hF : ((T.setVm s.vm).setFrames (.invoking m args :: below)).frames = .invoking m args :: below := State.frames_setFrames _ (State.cur_lt_of_top htop)
  obtain ⟨g₀, hg0⟩ := Option.isSome_iff_exists.mp htop
  obtain ⟨r, hr⟩ := State.topJava?_eq_some.mp hg0
  have hl9 : e.platform.stackLimits (T.setVm s.vm).me = e.platform.stackLimits s.me := X.limits
  have hb9 : (T.setVm s.vm).me.stackBytes = s.me.stackBytes := X.bytes
  refine ⟨X.admits, X.cas, X.clock, hF, ?_, X.hears, X.method, X.code, X.here, X.tail, X.warmed, ?_, ?_, ?_⟩
  · have h := X.room
    have hU : ((T.setVm s.vm).setFrames (.invoking m args :: below)).localsInUse = s.localsInUse := by
      rw [State.localsInUse_invoking hF (meth := meth) (c := c) X.method X.code, State.localsInUse_invoking X.frames X.method X.code]
    simp only [State.hasRoom, Bool.and_eq_true, decide_eq_true_eq] at h ⊢
    obtain ⟨⟨⟨⟨h1, h2, h3, h4, h5, h6⟩, h7⟩, h8⟩, h9⟩ := h
    rw [X.frames, List.length_cons] at h2 h3
    have q1 := X.heapSize
    have q2 := X.used
    simp only [hF, hU, List.length_cons, State.stackLimits_setFrames, State.stackBytes_setFrames, hl9, hb9]
    refine ⟨⟨⟨⟨by omega, by omega, by omega, by omega, by omega, h6⟩, ?_⟩, ?_⟩, X.book⟩
    · show T.heap.size + R'.cells ≤ e.platform.maxCells
      omega
    · show T.slotsUsed + R'.slots ≤ e.platform.maxSlots
      omega
  · rw [State.stackLimits_setFrames]; rfl
  · rw [State.stackBytes_setFrames]; rfl
  · refine ⟨?_, Nat.le_refl _, Nat.le_refl _, ?_, ?_, fun a c9 h9 => ⟨c9, h9, rfl, rfl, fun _ _ => rfl⟩⟩
    · obtain ⟨t, ht, -⟩ := State.frames_cons hr
      show T.setVm s.vm = { ((T.setVm s.vm).setFrames (.invoking m args :: below)).setFrames (T.setVm s.vm).frames with heap := T.heap, slotsUsed := T.slotsUsed }
      rw [State.setFrames_setFrames, State.setFrames_self ht]
      rfl
    · show T.slotsUsed = T.slotsUsed + ((T.heap.toList.drop T.heap.size).map (·.slots.size)).sum
      rw [List.drop_eq_nil_of_le (Nat.le_of_eq Array.length_toList)]
      rfl
    · show ((T.heap.toList.drop T.heap.size).map (·.slots.size)).sum ≤ 0
      rw [List.drop_eq_nil_of_le (Nat.le_of_eq Array.length_toList)]
      exact Nat.le_refl _
/-- 'throw new E()': new; dup; invokespecial; athrow -/
theorem vx_throw0 {cc : ByteArray} {pc : Nat} (hexec : p.tables.exec = Jvm.exec) (hb : c.code = cc) (hl : l.stackTraces = false) {own cls : String} {names : List String} {ik ic mc ms : Nat} {A : Nat → Prop}
    (hown : s.vm.findClass own = some m.cls) (hcls : Bundle.fit cls = true) (hnames : ∀ n ∈ names, Bundle.fit n = true)
    (hk : (Cond.classLink own ik cls).before args s = true) (hini : (Cond.initialized cls).before args s = true) (hat : ∀ w ∈ vx_at0 own ic cls names, w.before args s = true)
    (hgood : ∀ w ∈ Cond.classLink own ik cls :: Cond.initialized cls :: vx_at0 own ic cls names, vx_ot w = true)
    (hU : vx_Zq Bundle.tN "UNASSIGNED_STACK" Bundle.steD A s s.heap) (hN : vx_Zq Bundle.tN "SUPPRESSED_SENTINEL" Bundle.listD A s s.heap) (hS : va_S A s.heap H locs) (hsize : ls.size = c.maxLocals)
    (d0 : decode cc pc = .ok (.new ik, 3)) (d3 : decode cc (pc + 3) = .ok (.dup, 1)) (d4 : decode cc (pc + 4) = .ok (.invokespecial ic, 3)) (d7 : decode cc (pc + 7) = .ok (.athrow, 1))
    (hout : ∀ x ∈ c.exceptionTable.toList, covers x (pc + 7) = false)
    (hRframes : names.length + 3 < R.frames) (hRlocals : (rest.map fun v => v.category).sum + (13 * (names.length + 1) + 42) ≤ R.locals) (hRcells : cells + 1 ≤ R.cells) (hRslots : slots + 6 ≤ R.slots) (hlocks : meth.locks = false)
    (hx : ∀ t : State, s.vm.Alike t.vm → H.size ≤ t.heap.size → (∀ q : Nat, q < H.size → t.heap[q]? = H[q]?) → XC cls s t)
    (hf : ∀ z ∈ locs, free z.base) (hc : cells + 1 ≤ mc) (hs : slots + 6 ≤ ms) :
    W p l e R s m args below meth c H locs cells slots (vx_MQ below Qc XC args s mc ms free) (F0 m pc ls rest) := by
  intro T hT X
  have htr : e.platform.stackTraces = false := (show e.platform.stackTraces = l.stackTraces by rw [X.admits.platform]).trans hl
  have Y := vx_rebase X (R' := { frames := R.frames, locals := R.locals, cells := 1, slots := 6 }) (Nat.le_refl _) (Nat.le_refl _) hRcells hRslots
  obtain ⟨s', hA⟩ : ∃ z, z = (T.setVm s.vm).setFrames (.invoking m args :: below) := ⟨_, rfl⟩
  rw [← hA] at Y
  have hvm : s'.vm = s.vm := by rw [hA]; rfl
  have hhp : s'.heap = H := by rw [hA]; exact hT
  have hW0 : s.WarmedH s'.vm := by rw [hvm]; exact State.WarmedH.refl s
  have hat' : ∀ w ∈ vx_at0 own ic cls names, w.before args s' = true := fun w hw => vx_ot_at hW0 hvm.symm (hgood w (List.mem_cons_of_mem _ (List.mem_cons_of_mem _ hw))) (hat w hw)
  have hk' : (Cond.classLink own ik cls).before args s' = true := vx_ot_at hW0 hvm.symm (hgood _ List.mem_cons_self) hk
  have hini' : (Cond.initialized cls).before args s' = true := vx_ot_at hW0 hvm.symm (hgood _ (List.mem_cons_of_mem _ List.mem_cons_self)) hini
  have hU' : vx_Zq Bundle.tN "UNASSIGNED_STACK" Bundle.steD A s' s'.heap := by rw [hhp]; exact vx_Zq.moved hW0.alike (hU.kept hS.2.1)
  have hN' : vx_Zq Bundle.tN "SUPPRESSED_SENTINEL" Bundle.listD A s' s'.heap := by rw [hhp]; exact vx_Zq.moved hW0.alike (hN.kept hS.2.1)
  have h : ∀ w ∈ Bundle.ownAtoms0 own ic cls names, w.before args s' = true := vx_own hat' (vx_isRefq hU'.1) (vx_isRefq hN'.1) hU'.2.word hN'.2.word
  have hown' : s'.vm.findClass own = some m.cls := by rw [hvm]; exact hown
  have hins : (Cond.instantiable cls 6).before args s' = true := h _ (by simp [Bundle.ownAtoms0])
  obtain ⟨vm₁, cX, kX, hfX, hkX, -, -, X₁, st1⟩ := Y.newCold hexec (own := own) (C := cls) (index := ik) (n := 6) hown' hk' hins hini'
    (g := F0 m pc ls rest) rfl (by rw [hb]; exact d0) (Nat.le_refl _) (Nat.le_refl _)
  generalize hT1 : (T.setVm vm₁).pushCell { cls := cX, slots := kX.instanceTypes.map defaultValue, vm := .none } = T1 at X₁ st1
  have hcat : (Value.ref T.heap.size).category = 1 := rfl
  have hcellA : T1.heap[T.heap.size]? = some (freshCell cX kX) := by rw [← hT1]; exact State.heap_pushCell_size _ _
  have d3' : decode c.code (pc + 3) = .ok (.dup, 1) := by rw [hb]; exact d3
  obtain ⟨U, hsteps, hrun, hend, hW, hsame, ce, hce, hO⟩ := X₁.ctorThrow0 hexec htr (own := own) (cls := cls) (names := names) (ic := ic) hown' hcls hnames h (fun x hx => nomatch hx) hfX hkX hcellA (by rw [hhp, hT]; exact Nat.le_refl _)
    (g := { method := m, pc := pc + 4, locals := ls, stack := .ref T.heap.size :: .ref T.heap.size :: rest, locked := none }) rfl hsize rfl rfl (rest := rest) rfl
    (by rw [hb]; exact d4) (by rw [hb]; exact d7) hout hRframes (by simp only [List.map_cons, List.sum_cons, hcat]; omega) hlocks
  obtain ⟨f1, f2⟩ := vx_frame hsame
  rw [hhp] at f1 f2
  have hWs : s.WarmedH U.vm := State.WarmedH.trans hW0 hW
  have hcl : s.vm.findClass cls = some ce.cls := by
    have h9 := hO.cls
    rw [hvm] at h9
    exact h9
  have hall : s.sameButNew ({ U with vm := s.vm } : State) locs mc ms := by
    subst hA
    obtain ⟨e1, e2⟩ := hsame
    rw [State.setFrames_setFrames] at e1
    have h2 : (T.setVm s.vm).sameButNew ({ U with vm := s.vm } : State) [] (0 + 1) (0 + 6) := ⟨e1, e2⟩
    have h3 := X.same.trans h2
    rw [List.append_nil] at h3
    exact h3.mono hc hs
  refine ⟨U, ?_, .threw T.heap.size, hrun, hend, Or.inr ⟨T.heap.size, rfl, cls, ce, locs, hx U hWs.alike f1 (fun q hq => f2 q hq (fun z hz => nomatch hz)), hce, hO.vm, hcl, hWs, hall, hf⟩⟩
  refine st1 _ ?_
  show Steps p.tables e below (T1.setTop { method := m, pc := pc + 3, locals := ls, stack := .ref T.heap.size :: rest, locked := none }) _
  jvm_step X₁.here [X₁.here.top, hexec, d3', Value.category]
  exact hsteps
/-- 'throw new E("text")': new; dup; ldc; invokespecial; athrow -/
theorem vx_throwS {cc : ByteArray} {pc : Nat} (hexec : p.tables.exec = Jvm.exec) (hb : c.code = cc) (hl : l.stackTraces = false) {own cls text : String} {names : List String} {ik is ic mc ms sa : Nat} {A : Nat → Prop}
    (hown : s.vm.findClass own = some m.cls) (hcls : Bundle.fit cls = true) (hnames : ∀ n ∈ names, Bundle.fit n = true)
    (hk : (Cond.classLink own ik cls).before args s = true) (hini : (Cond.initialized cls).before args s = true) (hstr : vk_R own is text sa s) (hat : ∀ w ∈ vx_atS own ic cls names, w.before args s = true)
    (hgood : ∀ w ∈ Cond.classLink own ik cls :: Cond.initialized cls :: vx_atS own ic cls names, vx_ot w = true)
    (hU : vx_Zq Bundle.tN "UNASSIGNED_STACK" Bundle.steD A s s.heap) (hN : vx_Zq Bundle.tN "SUPPRESSED_SENTINEL" Bundle.listD A s s.heap) (hS : va_S A s.heap H locs) (hsize : ls.size = c.maxLocals)
    (d0 : decode cc pc = .ok (.new ik, 3)) (d3 : decode cc (pc + 3) = .ok (.dup, 1)) (d4 : decode cc (pc + 4) = .ok (.ldc is, 2)) (d6 : decode cc (pc + 6) = .ok (.invokespecial ic, 3)) (d9 : decode cc (pc + 9) = .ok (.athrow, 1))
    (hout : ∀ x ∈ c.exceptionTable.toList, covers x (pc + 9) = false)
    (hRframes : names.length + 3 < R.frames) (hRlocals : (rest.map fun v => v.category).sum + (13 * (names.length + 1) + 43) ≤ R.locals) (hRcells : cells + 1 ≤ R.cells) (hRslots : slots + 6 ≤ R.slots) (hlocks : meth.locks = false)
    (hx : ∀ t : State, s.vm.Alike t.vm → H.size ≤ t.heap.size → (∀ q : Nat, q < H.size → t.heap[q]? = H[q]?) → XC cls s t)
    (hf : ∀ z ∈ locs, free z.base) (hc : cells + 1 ≤ mc) (hs : slots + 6 ≤ ms) :
    W p l e R s m args below meth c H locs cells slots (vx_MQ below Qc XC args s mc ms free) (F0 m pc ls rest) := by
  intro T hT X
  have htr : e.platform.stackTraces = false := (show e.platform.stackTraces = l.stackTraces by rw [X.admits.platform]).trans hl
  have Y := vx_rebase X (R' := { frames := R.frames, locals := R.locals, cells := 1, slots := 6 }) (Nat.le_refl _) (Nat.le_refl _) hRcells hRslots
  obtain ⟨s', hA⟩ : ∃ z, z = (T.setVm s.vm).setFrames (.invoking m args :: below) := ⟨_, rfl⟩
  rw [← hA] at Y
  have hvm : s'.vm = s.vm := by rw [hA]; rfl
  have hhp : s'.heap = H := by rw [hA]; exact hT
  have hW0 : s.WarmedH s'.vm := by rw [hvm]; exact State.WarmedH.refl s
  have hat' : ∀ w ∈ vx_atS own ic cls names, w.before args s' = true := fun w hw => vx_ot_at hW0 hvm.symm (hgood w (List.mem_cons_of_mem _ (List.mem_cons_of_mem _ hw))) (hat w hw)
  have hk' : (Cond.classLink own ik cls).before args s' = true := vx_ot_at hW0 hvm.symm (hgood _ List.mem_cons_self) hk
  have hini' : (Cond.initialized cls).before args s' = true := vx_ot_at hW0 hvm.symm (hgood _ (List.mem_cons_of_mem _ List.mem_cons_self)) hini
  have hU' : vx_Zq Bundle.tN "UNASSIGNED_STACK" Bundle.steD A s' s'.heap := by rw [hhp]; exact vx_Zq.moved hW0.alike (hU.kept hS.2.1)
  have hN' : vx_Zq Bundle.tN "SUPPRESSED_SENTINEL" Bundle.listD A s' s'.heap := by rw [hhp]; exact vx_Zq.moved hW0.alike (hN.kept hS.2.1)
  have h : ∀ w ∈ Bundle.ownAtoms own ic cls names, w.before args s' = true := vx_own hat' (vx_isRefq hU'.1) (vx_isRefq hN'.1) hU'.2.word hN'.2.word
  have hown' : s'.vm.findClass own = some m.cls := by rw [hvm]; exact hown
  have hins : (Cond.instantiable cls 6).before args s' = true := h _ (by simp [Bundle.ownAtoms])
  obtain ⟨vm₁, cX, kX, hfX, hkX, -, -, X₁, st1⟩ := Y.newCold hexec (own := own) (C := cls) (index := ik) (n := 6) hown' hk' hins hini'
    (g := F0 m pc ls rest) rfl (by rw [hb]; exact d0) (Nat.le_refl _) (Nat.le_refl _)
  generalize hT1 : (T.setVm vm₁).pushCell { cls := cX, slots := kX.instanceTypes.map defaultValue, vm := .none } = T1 at X₁ st1
  have hcat : (Value.ref T.heap.size).category = 1 := rfl
  have hcellA : T1.heap[T.heap.size]? = some (freshCell cX kX) := by rw [← hT1]; exact State.heap_pushCell_size _ _
  have d3' : decode c.code (pc + 3) = .ok (.dup, 1) := by rw [hb]; exact d3
  have d4' : decode c.code (pc + 4) = .ok (.ldc is, 2) := by rw [hb]; exact d4
  have hstr' : vk_R own is text sa s' := vk_R.warm hW0 hstr
  obtain ⟨U, hsteps, hrun, hend, hW, hsame, ce, hce, hO⟩ := X₁.ctorThrowS hexec htr (own := own) (cls := cls) (names := names) (ic := ic) hown' hcls hnames h (fun x hx => nomatch hx) hfX hkX hcellA (by rw [hhp, hT]; exact Nat.le_refl _) (msg := .ref sa) rfl
    (g := { method := m, pc := pc + 6, locals := ls, stack := .ref sa :: .ref T.heap.size :: .ref T.heap.size :: rest, locked := none }) rfl hsize rfl rfl (rest := rest) rfl
    (by rw [hb]; exact d6) (by rw [hb]; exact d9) hout hRframes (by simp only [List.map_cons, List.sum_cons, hcat]; omega) hlocks
  obtain ⟨f1, f2⟩ := vx_frame hsame
  rw [hhp] at f1 f2
  have hWs : s.WarmedH U.vm := State.WarmedH.trans hW0 hW
  have hcl : s.vm.findClass cls = some ce.cls := by
    have h9 := hO.cls
    rw [hvm] at h9
    exact h9
  have hall : s.sameButNew ({ U with vm := s.vm } : State) locs mc ms := by
    subst hA
    obtain ⟨e1, e2⟩ := hsame
    rw [State.setFrames_setFrames] at e1
    have h2 : (T.setVm s.vm).sameButNew ({ U with vm := s.vm } : State) [] (0 + 1) (0 + 6) := ⟨e1, e2⟩
    have h3 := X.same.trans h2
    rw [List.append_nil] at h3
    exact h3.mono hc hs
  refine ⟨U, ?_, .threw T.heap.size, hrun, hend, Or.inr ⟨T.heap.size, rfl, cls, ce, locs, hx U hWs.alike f1 (fun q hq => f2 q hq (fun z hz => nomatch hz)), hce, hO.vm, hcl, hWs, hall, hf⟩⟩
  refine st1 _ ?_
  show Steps p.tables e below (T1.setTop { method := m, pc := pc + 3, locals := ls, stack := .ref T.heap.size :: rest, locked := none }) _
  jvm_step X₁.here [X₁.here.top, hexec, d3', Value.category]
  exact X₁.ldcString hexec (own := own) (text := text) (index := is) (a := sa) hown' hstr'.1 hstr'.2
    (g := { method := m, pc := pc + 4, locals := ls, stack := .ref T.heap.size :: .ref T.heap.size :: rest, locked := none }) rfl d4' _ hsteps
/-- 'throw new E("text")', the text by a wide index -/
theorem vx_throwSW {cc : ByteArray} {pc : Nat} (hexec : p.tables.exec = Jvm.exec) (hb : c.code = cc) (hl : l.stackTraces = false) {own cls text : String} {names : List String} {ik is ic mc ms sa : Nat} {A : Nat → Prop}
    (hown : s.vm.findClass own = some m.cls) (hcls : Bundle.fit cls = true) (hnames : ∀ n ∈ names, Bundle.fit n = true)
    (hk : (Cond.classLink own ik cls).before args s = true) (hini : (Cond.initialized cls).before args s = true) (hstr : vk_R own is text sa s) (hat : ∀ w ∈ vx_atS own ic cls names, w.before args s = true)
    (hgood : ∀ w ∈ Cond.classLink own ik cls :: Cond.initialized cls :: vx_atS own ic cls names, vx_ot w = true)
    (hU : vx_Zq Bundle.tN "UNASSIGNED_STACK" Bundle.steD A s s.heap) (hN : vx_Zq Bundle.tN "SUPPRESSED_SENTINEL" Bundle.listD A s s.heap) (hS : va_S A s.heap H locs) (hsize : ls.size = c.maxLocals)
    (d0 : decode cc pc = .ok (.new ik, 3)) (d3 : decode cc (pc + 3) = .ok (.dup, 1)) (d4 : decode cc (pc + 4) = .ok (.ldc_w is, 3)) (d7 : decode cc (pc + 7) = .ok (.invokespecial ic, 3)) (d10 : decode cc (pc + 10) = .ok (.athrow, 1))
    (hout : ∀ x ∈ c.exceptionTable.toList, covers x (pc + 10) = false)
    (hRframes : names.length + 3 < R.frames) (hRlocals : (rest.map fun v => v.category).sum + (13 * (names.length + 1) + 43) ≤ R.locals) (hRcells : cells + 1 ≤ R.cells) (hRslots : slots + 6 ≤ R.slots) (hlocks : meth.locks = false)
    (hx : ∀ t : State, s.vm.Alike t.vm → H.size ≤ t.heap.size → (∀ q : Nat, q < H.size → t.heap[q]? = H[q]?) → XC cls s t)
    (hf : ∀ z ∈ locs, free z.base) (hc : cells + 1 ≤ mc) (hs : slots + 6 ≤ ms) :
    W p l e R s m args below meth c H locs cells slots (vx_MQ below Qc XC args s mc ms free) (F0 m pc ls rest) := by
  intro T hT X
  have htr : e.platform.stackTraces = false := (show e.platform.stackTraces = l.stackTraces by rw [X.admits.platform]).trans hl
  have Y := vx_rebase X (R' := { frames := R.frames, locals := R.locals, cells := 1, slots := 6 }) (Nat.le_refl _) (Nat.le_refl _) hRcells hRslots
  obtain ⟨s', hA⟩ : ∃ z, z = (T.setVm s.vm).setFrames (.invoking m args :: below) := ⟨_, rfl⟩
  rw [← hA] at Y
  have hvm : s'.vm = s.vm := by rw [hA]; rfl
  have hhp : s'.heap = H := by rw [hA]; exact hT
  have hW0 : s.WarmedH s'.vm := by rw [hvm]; exact State.WarmedH.refl s
  have hat' : ∀ w ∈ vx_atS own ic cls names, w.before args s' = true := fun w hw => vx_ot_at hW0 hvm.symm (hgood w (List.mem_cons_of_mem _ (List.mem_cons_of_mem _ hw))) (hat w hw)
  have hk' : (Cond.classLink own ik cls).before args s' = true := vx_ot_at hW0 hvm.symm (hgood _ List.mem_cons_self) hk
  have hini' : (Cond.initialized cls).before args s' = true := vx_ot_at hW0 hvm.symm (hgood _ (List.mem_cons_of_mem _ List.mem_cons_self)) hini
  have hU' : vx_Zq Bundle.tN "UNASSIGNED_STACK" Bundle.steD A s' s'.heap := by rw [hhp]; exact vx_Zq.moved hW0.alike (hU.kept hS.2.1)
  have hN' : vx_Zq Bundle.tN "SUPPRESSED_SENTINEL" Bundle.listD A s' s'.heap := by rw [hhp]; exact vx_Zq.moved hW0.alike (hN.kept hS.2.1)
  have h : ∀ w ∈ Bundle.ownAtoms own ic cls names, w.before args s' = true := vx_own hat' (vx_isRefq hU'.1) (vx_isRefq hN'.1) hU'.2.word hN'.2.word
  have hown' : s'.vm.findClass own = some m.cls := by rw [hvm]; exact hown
  have hins : (Cond.instantiable cls 6).before args s' = true := h _ (by simp [Bundle.ownAtoms])
  obtain ⟨vm₁, cX, kX, hfX, hkX, -, -, X₁, st1⟩ := Y.newCold hexec (own := own) (C := cls) (index := ik) (n := 6) hown' hk' hins hini'
    (g := F0 m pc ls rest) rfl (by rw [hb]; exact d0) (Nat.le_refl _) (Nat.le_refl _)
  generalize hT1 : (T.setVm vm₁).pushCell { cls := cX, slots := kX.instanceTypes.map defaultValue, vm := .none } = T1 at X₁ st1
  have hcat : (Value.ref T.heap.size).category = 1 := rfl
  have hcellA : T1.heap[T.heap.size]? = some (freshCell cX kX) := by rw [← hT1]; exact State.heap_pushCell_size _ _
  have d3' : decode c.code (pc + 3) = .ok (.dup, 1) := by rw [hb]; exact d3
  have d4' : decode c.code (pc + 4) = .ok (.ldc_w is, 3) := by rw [hb]; exact d4
  have hstr' : vk_R own is text sa s' := vk_R.warm hW0 hstr
  obtain ⟨U, hsteps, hrun, hend, hW, hsame, ce, hce, hO⟩ := X₁.ctorThrowS hexec htr (own := own) (cls := cls) (names := names) (ic := ic) hown' hcls hnames h (fun x hx => nomatch hx) hfX hkX hcellA (by rw [hhp, hT]; exact Nat.le_refl _) (msg := .ref sa) rfl
    (g := { method := m, pc := pc + 7, locals := ls, stack := .ref sa :: .ref T.heap.size :: .ref T.heap.size :: rest, locked := none }) rfl hsize rfl rfl (rest := rest) rfl
    (by rw [hb]; exact d7) (by rw [hb]; exact d10) hout hRframes (by simp only [List.map_cons, List.sum_cons, hcat]; omega) hlocks
  obtain ⟨f1, f2⟩ := vx_frame hsame
  rw [hhp] at f1 f2
  have hWs : s.WarmedH U.vm := State.WarmedH.trans hW0 hW
  have hcl : s.vm.findClass cls = some ce.cls := by
    have h9 := hO.cls
    rw [hvm] at h9
    exact h9
  have hall : s.sameButNew ({ U with vm := s.vm } : State) locs mc ms := by
    subst hA
    obtain ⟨e1, e2⟩ := hsame
    rw [State.setFrames_setFrames] at e1
    have h2 : (T.setVm s.vm).sameButNew ({ U with vm := s.vm } : State) [] (0 + 1) (0 + 6) := ⟨e1, e2⟩
    have h3 := X.same.trans h2
    rw [List.append_nil] at h3
    exact h3.mono hc hs
  refine ⟨U, ?_, .threw T.heap.size, hrun, hend, Or.inr ⟨T.heap.size, rfl, cls, ce, locs, hx U hWs.alike f1 (fun q hq => f2 q hq (fun z hz => nomatch hz)), hce, hO.vm, hcl, hWs, hall, hf⟩⟩
  refine st1 _ ?_
  show Steps p.tables e below (T1.setTop { method := m, pc := pc + 3, locals := ls, stack := .ref T.heap.size :: rest, locked := none }) _
  jvm_step X₁.here [X₁.here.top, hexec, d3', Value.category]
  exact X₁.ldcStringW hexec (own := own) (text := text) (index := is) (a := sa) hown' hstr'.1 hstr'.2
    (g := { method := m, pc := pc + 4, locals := ls, stack := .ref T.heap.size :: .ref T.heap.size :: rest, locked := none }) rfl d4' _ hsteps
end Ends
section Bodies
variable {l : Launch}
theorem vx_ofW {y : MethodName} {ws ws' : List Cond} {rm : Room} {Pc : Array Value → State → Prop} {Qc : Array Value → State → Outcome → State → Prop} {XC : String → State → State → Prop} {mc ms : Nat} {free : Addr → Prop} {cc : ByteArray} {maxL : Nat} {ret : Option FieldType}
    (hy : plainName y.cls = true) (hw : ws = Cond.code y cc maxL ret :: ws')
    (body : ∀ p e s m args below meth c s₁, BodyLoose p l y (headSpec ws rm) cc maxL ret e s m args below meth c s₁ → c.maxLocals = maxL → (∀ x ∈ c.exceptionTable.toList, False) → Pc args s →
      W p l e (headSpec ws rm).room s m args below meth c s.heap [] 0 0 (vx_MQ below Qc XC args s mc ms free) (entryFrame m args maxL)) : vx_Met l y ws rm Pc Qc XC mc ms free := by
  refine MetFree.of_bodyS (code := cc) (maxLocals := maxL) (ret := ret) hy ?_ ?_
  · intro args s m h hn
    obtain ⟨meth, c, h1, h2, h3, h4, h5, h6, -, -⟩ := Cond.code_spec hn (atoms_spec (ws := ws) h _ (by rw [hw]; exact List.mem_cons_self))
    exact ⟨meth, c, h1, h2, h3, h4, h5, h6⟩
  · intro p e s m args below meth c s₁ B hml hP _
    have hh0 : s₁.heap = s.heap := by rw [B.state]; rfl
    have ht : ∀ x ∈ c.exceptionTable.toList, False := by
      obtain ⟨meth9, c9, h1, h2, -, -, -, -, h7, -⟩ := Cond.code_spec B.named (atoms_spec (ws := ws) B.pre _ (by rw [hw]; exact List.mem_cons_self))
      cases Option.some.inj (h1.symm.trans B.method)
      cases Option.some.inj (h2.symm.trans (Stand.of_body B).code)
      intro x hx
      rw [Array.isEmpty_iff.mp h7] at hx
      cases hx
    obtain ⟨t, a1, o, b1, b2, b3⟩ := body p e s m args below meth c s₁ B hml ht hP s₁ hh0 (Stand.of_body B)
    exact ⟨t, o, a1, b1, b2, b3⟩
/-- the table of a body with handlers -/
theorem vx_table {p : Program} {x y : MethodName} {S : Spec} {cc bytes : ByteArray} {maxL maxL' : Nat} {ret ret' : Option FieldType} {e : Env} {s s₁ : State} {m : MethodId} {args : Array Value} {below : List Frame} {meth : Method} {c : Code} {hh : List (Nat × Nat × Nat × Nat)}
    (B : BodyLoose p l y S cc maxL ret e s m args below meth c s₁) (h : (Cond.codeWith y bytes maxL' ret' hh).before args s = true) : c.exceptionTable.toList = tableOf hh := by
  obtain ⟨m9, meth9, c9, hn9, h1, h2, -, -, h6, -⟩ := Cond.codeWith_spec h
  cases Option.some.inj (hn9.symm.trans B.named)
  cases Option.some.inj (h1.symm.trans B.method)
  cases Option.some.inj (h2.symm.trans (Stand.of_body B).code)
  rw [← h6, table_eq]
end Bodies
end VXA
/-! ===== END ===== -/
/-! ===== BEGIN a static call of a method with an exception table ===== -/
section VXS
variable {p : Program} {l : Launch} {e : Env} {R : Room} {s : State} {m : MethodId} {args : Array Value} {below : List Frame} {meth : Method} {c : Code} {T : State} {H : Heap} {locs : List Loc} {cells slots : Nat}
abbrev vx_CSW (R : Room) (s : State) (args : Array Value) (own : String) (index : Nat) (y : MethodName) (bytes : ByteArray) (maxL : Nat) (ret : Option FieldType) (hh : List (Nat × Nat × Nat × Nat)) (ws : List Cond) (rm : Room) (mc ms n : Nat) : Prop :=
  (rm.cells = mc ∧ rm.slots = ms ∧ rm.frames + 1 ≤ R.frames ∧ 8 + (maxL + 11) + rm.locals ≤ R.locals ∧ (∀ w ∈ ws, ∀ (a' : Array Value) (U : State), s.WarmedH U.vm → w.before a' U = true) ∧ Cond.codeWith y bytes maxL ret hh ∈ ws) ∧
  (Cond.codeWith y bytes maxL ret hh).before args s = true ∧ (Cond.initialized y.cls).before args s = true ∧ (y.cls ≠ "java/lang/invoke/MethodHandle" ∧ y.cls ≠ "java/lang/invoke/VarHandle") ∧
  (∀ sig, parseMethodDescriptor y.desc = some sig → n = sig.parameters.length) ∧ (Cond.methodLink own index y).before args s = true ∧ (Cond.static y).before args s = true
theorem vx_cwSW {own : String} {index maxL mc ms : Nat} {y : MethodName} {bytes : ByteArray} {ret : Option FieldType} {hh : List (Nat × Nat × Nat × Nat)} {Ts ws ws' : List Cond} {rm : Room} (n : Nat) (ht : ∀ w ∈ Ts, w.before args s = true) (hT : GoodIn Ts (va_wsS own index y ws)) (hw : ws = Cond.codeWith y bytes maxL ret hh :: ws') (hrc : rm.cells = mc) (hrs : rm.slots = ms)
    (hd : y.cls ≠ "java/lang/invoke/MethodHandle" ∧ y.cls ≠ "java/lang/invoke/VarHandle" ∧ (parseMethodDescriptor y.desc).map (fun d => d.parameters.length) = some n) (hR : rm.frames + 1 ≤ R.frames ∧ 8 + (maxL + 11) + rm.locals ≤ R.locals) :
    vx_CSW R s args own index y bytes maxL ret hh ws rm mc ms n := by
  have ok : ∀ w ∈ va_wsS own index y ws, w.before args s = true := fun w h => ht w (hT w h).1
  have hG : GoodIn Ts ws := fun w h => hT w (by unfold va_wsS; exact List.mem_append_right _ h)
  have hc : Cond.codeWith y bytes maxL ret hh ∈ ws := by rw [hw]; exact List.mem_cons_self
  refine ⟨⟨hrc, hrs, hR.1, hR.2, pay_in ht hG, hc⟩, ht _ (hG _ hc).1, ok _ (by simp [va_wsS]), ⟨hd.1, hd.2.1⟩, fun sig h => ?_, ok _ (by simp [va_wsS]), ok _ (by simp [va_wsS])⟩
  have h2 := hd.2.2
  rw [h] at h2
  exact (Option.some.inj h2).symm
theorem vx_callSW (X : Stand p l e R s m args below meth c T locs cells slots) (hexec : p.tables.exec = Jvm.exec) {own : String} {index : Nat} {y : MethodName} {bytes : ByteArray} {maxL : Nat} {ret : Option FieldType} {hh : List (Nat × Nat × Nat × Nat)}
    (hown : s.vm.findClass own = some m.cls) (hlink : (Cond.methodLink own index y).before args s = true) (hstat : (Cond.static y).before args s = true) (hinit : (Cond.initialized y.cls).before args s = true)
    (hcode : (Cond.codeWith y bytes maxL ret hh).before args s = true) (hy : y.cls ≠ "java/lang/invoke/MethodHandle" ∧ y.cls ≠ "java/lang/invoke/VarHandle")
    {W9 : Nat} {Pre : Pt → Array Value → Prop} {Post : Pt → Array Value → Option Value → Pt → Prop} (hK : Back l R p e below s args y 3 W9 Pre Post)
    {g : JFrame} (hg : g.method = m) (hsize : g.locals.size = c.maxLocals) {argsL rest : List Value} (hlen : ∀ sig, parseMethodDescriptor y.desc = some sig → argsL.length = sig.parameters.length)
    (hstack : g.stack = argsL.reverse ++ rest) (hW : 2 * g.monitorRoom + (rest.map fun v => v.category).sum ≤ W9) (hdg : decode c.code g.pc = .ok (.invokestatic index, 3))
    (hpre : ∀ vm₁, s.WarmedH vm₁ → Pre ⟨T.setVm vm₁, locs, cells, slots⟩ argsL.toArray) :
    ∃ (v : Option Value) (vm₁ : Vm) (B : Pt), s.WarmedH vm₁ ∧ Stand p l e R s m args below meth c B.U B.locs B.cells B.slots ∧ Post ⟨T.setVm vm₁, locs, cells, slots⟩ argsL.toArray v B ∧
      ∀ target, Steps p.tables e below (B.U.setTop { g with pc := g.pc + 3, stack := v.toList ++ rest }) target → Steps p.tables e below (T.setTop g) target := by
  obtain ⟨mk, methM, cM, hnamed, hmethM, -, -, -, -, -, -, hsigM⟩ := Cond.codeWith_spec hcode
  have hstatic : methM.isStatic = true := Cond.static_spec hnamed hmethM hstat
  obtain ⟨kP, hkP, -⟩ := className_of_methodNamed hnamed
  have hinitP : kP.init = .initialized := Cond.initialized_spec (findClass_of_methodNamed hnamed) hkP hinit
  obtain ⟨vm₁, X₁, hstep₁⟩ := X.invokestatic hexec hown hlink hnamed hmethM hstatic hkP hinitP hy (g := g) hg (argsL := argsL) (rest := rest) (hlen _ hsigM) hstack hdg
  obtain ⟨v, B, X', hpost, hsteps⟩ := hK m meth c ⟨T.setVm vm₁, locs, cells, slots⟩ { g with stack := rest } (.invokestatic index) mk argsL.toArray X₁ hg hsize hdg hW (X₁.named hnamed) (hpre vm₁ X₁.warmed)
  exact ⟨v, vm₁, B, X₁.warmed, X', hpost, fun target h => hstep₁ _ fun acts => by rw [doInvoke_state]; exact hsteps.trans h⟩
theorem vx_runSW {y : MethodName} {bytes cc : ByteArray} {maxL nL mc ms n index : Nat} {ret : Option FieldType} {hh : List (Nat × Nat × Nat × Nat)} {ws : List Cond} {rm : Room} {Pc : Array Value → State → Prop} {Qc : Array Value → State → Outcome → State → Prop} {free : Addr → Prop} {Ts : List Cond} {own : String} {As rest : List Value} {g : JFrame}
    (S : CallFix p m c cc nL s args Ts own) (hM : Met l y ws rm Pc Qc mc ms free) (cw : vx_CSW R s args own index y bytes maxL ret hh ws rm mc ms n) (hp : PreS s H Pc As)
    (hg : g.method = m) (hn : As.length = n) (hsize : g.locals.size = nL) (hstack : g.stack = As.reverse ++ rest) (hW : 2 * g.monitorRoom + (rest.map fun v => v.category).sum ≤ 8) (hdg : decode cc g.pc = .ok (.invokestatic index, 3)) (hf : cells + mc ≤ R.cells ∧ slots + ms ≤ R.slots) :
    va_Run p l e R s m args below meth c H locs cells slots mc ms g rest (Qc As.toArray) (free) := by
  obtain ⟨⟨hrc, hrs, hfr, hlo, hws, hcw⟩, hcode, hini, hy, hlen, hl, hstt⟩ := cw
  have hK : Back l R p e below s args y 3 8 (PreOf R mc ms Pc) (PostOf Qc mc ms free) := va_backW (hh := hh) (bytes := bytes) (maxL := maxL) (ret := ret) hM hp.1 hrc hrs hfr hlo hws hcw (fun a' U hW => word_at hW (Or.inl (by first | rfl | simp [Cond.onTables, Cond.keeps, Cond.steady])) hini)
  obtain ⟨hx, hb, hml, ho, -⟩ := S
  intro T hT X
  obtain ⟨v, vm₁, ⟨U', l2, c2, s2⟩, hW₁, X', ⟨g', mk, t, L, e1, e2, hq, h1, hL, h2, h3⟩, st⟩ := vx_callSW X hx (hh := hh) (bytes := bytes) (maxL := maxL) (ret := ret) ho hl hstt hini hcode hy hK hg (hsize.trans hml.symm) (argsL := As) (rest := rest) (fun sig h => hn.trans (hlen sig h)) hstack hW (by rw [hb]; exact hdg)
    (fun vm₁ hW₁ => ⟨hf.1, hf.2, hp.2 (T.setVm vm₁) hT hW₁⟩)
  dsimp only [Pt.U, Pt.locs, Pt.cells, Pt.slots] at X' e1 e2 h1 h2 h3 st
  subst h1; subst h2; subst h3
  exact ⟨v, (T.setVm vm₁).calling g' mk As.toArray, t, U', L, hT, X', hL, e1, e2, hq, st⟩
/-- not caught here, past rows that name other classes: it goes on to the caller -/
theorem vx_outP {p : Program} {l : Launch} {e : Env} {R : Room} {s : State} {m : MethodId} {args : Array Value} {below : List Frame} {meth : Method} {c : Code} {H : Heap} {locs : List Loc} {cells slots : Nat} {free : Addr → Prop} {ls : Array Slot} {rest : List Value} {Qc : Array Value → State → Outcome → State → Prop} {XC : String → State → State → Prop}
    {pc : Nat} {own E : String} {ce : Cell} {q : Addr} {mc ms : Nat} (hown : s.vm.findClass own = some m.cls) (hlocks : meth.locks = false)
    (hpass : ∀ z ∈ c.exceptionTable.toList, covers z pc = false ∨ (z.catchType ≠ 0 ∧ ∃ nm : String, (Cond.classLink own z.catchType nm).before args s = true ∧ va_Nc E nm s)) (hcell : H[q]? = some ce) (hv : ce.vm = .none) (hcl : s.vm.findClass E = some ce.cls)
    (hx : ∀ t : State, t.heap = H → s.vm.Alike t.vm → XC E s t) (hf : ∀ z ∈ locs, free z.base) (hc : cells ≤ mc) (hs : slots ≤ ms) :
    vx_W p l e R s m args below meth c H locs cells slots (vx_MQ below Qc XC args s mc ms free) (F0 m pc ls rest) q := by
  intro T hT X
  have hpl : e.platform.magicAccessors = ({} : Platform).magicAccessors := by rw [X.admits.platform]
  obtain ⟨vm', hW', X', st⟩ := X.outThrough hlocks q (g := F0 m pc ls rest) rfl rfl rfl (cell := ce) (by rw [hT]; exact hcell) (by rw [hv]; rfl)
    (by obtain ⟨k9, h9, -⟩ := Vm.findClass_spec hcl; exact ⟨k9, h9⟩) (fun z hz => by
      rcases hpass z hz with h | ⟨hz0, nm, hl1, hn1⟩
      · exact Or.inl h
      · obtain ⟨c6, hc6, hcl6⟩ := Cond.classLink_spec hown hl1 e.platform hpl
        obtain ⟨a8, b8, h1, h2, h3⟩ := hn1
        cases Option.some.inj (h1.symm.trans hcl)
        cases Option.some.inj (h2.symm.trans hc6)
        exact Or.inr ⟨hz0, _, hcl6, h3⟩)
  obtain ⟨g₀, hfr⟩ := X'.frames_eq
  have hcell9 : ((T.setVm vm').setFrames (.throwing q :: below)).heap[q]? = some ce := by
    show T.heap[q]? = some ce
    rw [hT]; exact hcell
  have hend : Ended ((T.setVm vm').setFrames (.throwing q :: below)) below (.threw q) := State.frames_setFrames _ (State.cur_lt_of_frames hfr)
  refine ⟨(T.setVm vm').setFrames (.throwing q :: below), ?_, .threw q, X'.here.running, hend, Or.inr ⟨q, rfl, E, ce, locs, hx _ hT (X'.ends _).1.alike, hcell9, hv, hcl, (X'.ends _).1, (X'.ends _).2.mono hc hs, hf⟩⟩
  rw [X.pushThrowing_eq]
  exact st
/-- a thing of a world lies in the heap -/
theorem vx_lt {D : va_G} {cl : List vw_C} {ws : va_W} {H1 : Heap} (h : va_P D cl ws H1) {k : Nat} {q : Nat × va_E} (hk : ws[k]? = some q) : q.1 < H1.size := (h k q hk).lt
end VXS
/-! ===== END ===== -/
/-! ===== BEGIN methods with a table of their own: called by a name, returning or throwing ===== -/
section VXH
/-! vx_backW, vx_callVX, vx_callSX, vx_callVW, vx_runVW, vx_runVX, vx_runSX, vx_ofWH follow the same proofs as their sisters above (Free/Laws.lean, Shelf42/LK1.lean); vx_outP calls Shelf42/NT130.lean (outThrough). -/
section
variable {l : Launch} {R : Room} {p : Program} {e : Env} {below : List Frame} {s : State} {sargs : Array Value} {y : MethodName} {len W9 : Nat}
theorem vx_backW {ws : List Cond} {rm : Room} {Pc : Array Value → State → Prop} {Qc : Array Value → State → Outcome → State → Prop} {XC : String → State → State → Prop} {mc ms : Nat} {free : Addr → Prop} {bytes : ByteArray} {maxL : Nat} {ret : Option FieldType} {hh : List (Nat × Nat × Nat × Nat)}
    (hM : vx_Met l y ws rm Pc Qc XC mc ms free) (hblind : FrameBlind Pc) (hrc : rm.cells = mc) (hrs : rm.slots = ms)
    (hframes : rm.frames + 1 ≤ R.frames) (hlocals : W9 + (maxL + 11) + rm.locals ≤ R.locals)
    (hws : ∀ w ∈ ws, ∀ a' U, s.WarmedH U.vm → w.before a' U = true) (hcode : Cond.codeWith y bytes maxL ret hh ∈ ws) (hinit : ∀ a' U, s.WarmedH U.vm → (Cond.initialized y.cls).before a' U = true) :
    vx_Back l R p e below s sargs y len W9 (PreOf R mc ms Pc) (PostOf Qc mc ms free) (vx_Post XC mc ms free) := by
  intro m meth c A g ig mk a X hg hsize hdg hW hn hp
  have h1 : (headSpec ws rm).pre.before a A.U = true := atoms_intro fun w hw => hws w hw _ _ X.warmed
  have h2 : (Cond.codeWith y bytes maxL ret hh).before a A.U = true := hws _ hcode _ _ X.warmed
  have h3 : (Cond.initialized y.cls).before a A.U = true := hinit _ _ X.warmed
  have h4 : A.cells + (headSpec ws rm).room.cells ≤ R.cells := by rw [show (headSpec ws rm).room.cells = mc from hrc]; exact hp.1
  have h5 : A.slots + (headSpec ws rm).room.slots ≤ R.slots := by rw [show (headSpec ws rm).room.slots = ms from hrs]; exact hp.2.1
  have hPc : Pc a (A.U.calling g mk a) := hblind _ _ _ _ hp.2.2
  obtain ⟨U, Ls, c0, s0⟩ := A
  dsimp only [Pt.U, Pt.locs, Pt.cells, Pt.slots] at h1 h2 h3 h4 h5 X hn hPc ⊢
  obtain ⟨m9, methY, cY, hn9, hmY, hcY, -, hlY, -⟩ := Cond.codeWith_spec h2
  cases Option.some.inj (hn9.symm.trans hn)
  obtain ⟨kY, hkY, -⟩ := className_of_methodNamed hn
  have hinitY : kY.init = .initialized := Cond.initialized_spec (findClass_of_methodNamed hn) hkY h3
  have h : At U g.method c below := by rw [hg]; exact X.here
  have hlocals9 : W9 + (maxL + 11) + (headSpec ws rm).room.locals ≤ R.locals := hlocals
  have happ : (headSpec ws rm).appliesLoose y e.platform (U.calling g mk a) = true :=
    Spec.appliesLoose_calling (g := g) h hdg hn hkY hinitY
      (X.room_calling (g := g) (R' := (headSpec ws rm).room) hsize hmY hcY hframes (by rw [hlY]; omega) h4 h5) h1
  obtain ⟨mid, hmid⟩ := h.above
  have hfr : (U.setTop g).frames = (.java g :: mid) ++ below := by rw [State.frames_setTop' g h.top, hmid]; rfl
  obtain ⟨o, s₂, hsteps, -, hend, hq⟩ := Steps.callFree hM p X.admits X.cas X.clock (acts := []) hfr happ hPc trivial
  have hq' : vx_Q Qc XC mc ms free a (U.calling g mk a) o s₂ := hq
  rw [State.frames_setTop' g h.top] at hend
  obtain ⟨g₀, hg0⟩ := Option.isSome_iff_exists.mp h.top
  obtain ⟨r, hr⟩ := State.topJava?_eq_some.mp hg0
  have hr' : (({ U with heap := s₂.heap, slotsUsed := s₂.slotsUsed } : State).setVm s₂.vm).frames = .java g₀ :: r := hr
  rcases hq' with ⟨hqc, L, hfe, hL⟩ | ⟨q, rfl, E, ce, L, hx, hce, hcv, hcl, hW₂, hsm, hL⟩
  · obtain ⟨⟨v, rfl⟩, hW₂, e2, q2, q3, q4, q5, q6⟩ := id hfe
    have e3 : s₂ = ({ (U.calling g mk a).setFrames s₂.frames with heap := s₂.heap, slotsUsed := s₂.slotsUsed } : State).setVm s₂.vm := by
      have : s₂ = ({ s₂ with vm := (U.calling g mk a).vm } : State).setVm s₂.vm := rfl
      rw [e2] at this
      exact this
    obtain ⟨c₂, i₂, len₂, hc₂, hd₂, hf₂⟩ := hend
    have hW' : U.WarmedH s₂.vm := hW₂
    have hcc : c₂ = c := by
      have h1 : s₂.code? g.method = U.code? g.method := by
        rw [State.code?_eq, State.code?_eq, hW'.alike.method?]
      exact Option.some.inj (hc₂.symm.trans (h1.trans h.code))
    subst hcc
    have hlen : len₂ = len := by rw [hdg] at hd₂; cases hd₂; rfl
    subst hlen
    have hs₂ : s₂ = (({ U with heap := s₂.heap, slotsUsed := s₂.slotsUsed } : State).setVm s₂.vm).setTop { g with pc := g.pc + len₂, stack := v.toList ++ g.stack } := by
      refine e3.trans ?_
      rw [hf₂, State.calling_eq h.top, State.setFrames_setFrames, State.setTop_of_frames _ hr', hr]
      rfl
    have hsame : U.sameButNew ({ U with heap := s₂.heap, slotsUsed := s₂.slotsUsed } : State) L mc ms := by
      refine ⟨?_, q2, q3, q4, q5, q6⟩
      obtain ⟨t, ht, -⟩ := State.frames_cons hr
      show ({ U with heap := s₂.heap, slotsUsed := s₂.slotsUsed } : State) = { U.setFrames U.frames with heap := s₂.heap, slotsUsed := s₂.slotsUsed }
      rw [State.setFrames_self ht]
    subst hg
    refine Or.inl ⟨v, ⟨(({ U with heap := s₂.heap, slotsUsed := s₂.slotsUsed } : State).setVm s₂.vm), Ls ++ L, c0 + mc, s0 + ms⟩,
      ⟨X.admits, X.cas, X.clock, X.frames, X.room, X.hears, X.method, X.code, (X.here.setHeapUsed s₂.heap s₂.slotsUsed).setVm hW'.alike, X.tail, State.WarmedH.trans X.warmed hW', X.limits, X.bytes, X.same.trans (hsame.setVm s.vm)⟩,
      ⟨g, mk, s₂, L, rfl, rfl, hqc, rfl, hL, rfl, rfl⟩, ?_⟩
    show Steps p.tables e below _ ((({ U with heap := s₂.heap, slotsUsed := s₂.slotsUsed } : State).setVm s₂.vm).setTop { g with pc := g.pc + len₂, stack := v.toList ++ g.stack })
    rw [← hs₂]
    exact hsteps
  · obtain ⟨e2, q2, q3, q4, q5, q6⟩ := id hsm
    have e3 : s₂ = ({ (U.calling g mk a).setFrames s₂.frames with heap := s₂.heap, slotsUsed := s₂.slotsUsed } : State).setVm s₂.vm := by
      have : s₂ = ({ s₂ with vm := (U.calling g mk a).vm } : State).setVm s₂.vm := rfl
      rw [e2] at this
      exact this
    have hf₂ : s₂.frames = .throwing q :: .java g :: U.frames.tail := hend
    have hW' : U.WarmedH s₂.vm := hW₂
    have hs₂ : s₂ = ((({ U with heap := s₂.heap, slotsUsed := s₂.slotsUsed } : State).setVm s₂.vm).setTop g).pushFrame (.throwing q) := by
      refine e3.trans ?_
      rw [hf₂, State.calling_eq h.top, State.setFrames_setFrames, State.pushFrame, State.frames_setTop _ hr', State.setTop_of_frames _ hr', State.setFrames_setFrames, hr]
      rfl
    have hsame : U.sameButNew ({ U with heap := s₂.heap, slotsUsed := s₂.slotsUsed } : State) L mc ms := by
      refine ⟨?_, q2, q3, q4, q5, q6⟩
      obtain ⟨t, ht, -⟩ := State.frames_cons hr
      show ({ U with heap := s₂.heap, slotsUsed := s₂.slotsUsed } : State) = { U.setFrames U.frames with heap := s₂.heap, slotsUsed := s₂.slotsUsed }
      rw [State.setFrames_self ht]
    subst hg
    refine Or.inr ⟨q, ⟨(({ U with heap := s₂.heap, slotsUsed := s₂.slotsUsed } : State).setVm s₂.vm), Ls ++ L, c0 + mc, s0 + ms⟩,
      ⟨X.admits, X.cas, X.clock, X.frames, X.room, X.hears, X.method, X.code, (X.here.setHeapUsed s₂.heap s₂.slotsUsed).setVm hW'.alike, X.tail, State.WarmedH.trans X.warmed hW', X.limits, X.bytes, X.same.trans (hsame.setVm s.vm)⟩,
      ⟨g, mk, s₂, L, E, ce, rfl, rfl, hx, hce, hcv, hcl, rfl, hL, rfl, rfl⟩, ?_⟩
    show Steps p.tables e below _ (((({ U with heap := s₂.heap, slotsUsed := s₂.slotsUsed } : State).setVm s₂.vm).setTop g).pushFrame (.throwing q))
    rw [← hs₂]
    exact hsteps
end
variable {p : Program} {l : Launch} {e : Env} {R : Room} {s : State} {m : MethodId} {args : Array Value} {below : List Frame} {meth : Method} {c : Code} {T : State} {H : Heap} {locs : List Loc} {cells slots : Nat}
theorem vx_callVX (X : Stand p l e R s m args below meth c T locs cells slots) (hexec : p.tables.exec = Jvm.exec) {own C : String} {index : Nat} {y : MethodName} {bytes : ByteArray} {maxL : Nat} {ret : Option FieldType} {hh : List (Nat × Nat × Nat × Nat)}
    (hown : s.vm.findClass own = some m.cls) (hlink : (Cond.methodLink own index y).before args s = true) (hinst : (Cond.instanceMethod y).before args s = true) (hsel : (Cond.selects C y y).before args s = true)
    (hcode : (Cond.codeWith y bytes maxL ret hh).before args s = true) (hy : y.cls ≠ "java/lang/invoke/MethodHandle" ∧ y.cls ≠ "java/lang/invoke/VarHandle")
    {W9 : Nat} {Pre : Pt → Array Value → Prop} {Post : Pt → Array Value → Option Value → Pt → Prop} {PostX : Pt → Array Value → Addr → Pt → Prop} (hK : vx_Back l R p e below s args y 3 W9 Pre Post PostX)
    {b : Addr} {cellB : Cell} (hcell : T.heap[b]? = some cellB) (hobj : cellB.vm.isStatics = false) (hcls : s.vm.findClass C = some cellB.cls)
    {g : JFrame} (hg : g.method = m) (hsize : g.locals.size = c.maxLocals) {argsL rest : List Value} (hlen : ∀ sig, parseMethodDescriptor y.desc = some sig → argsL.length = sig.parameters.length)
    (hstack : g.stack = argsL.reverse ++ .ref b :: rest) (hW : 2 * g.monitorRoom + (rest.map fun v => v.category).sum ≤ W9) (hdg : decode c.code g.pc = .ok (.invokevirtual index, 3))
    (hpre : ∀ vm₁, s.WarmedH vm₁ → Pre ⟨T.setVm vm₁, locs, cells, slots⟩ (Value.ref b :: argsL).toArray) :
    (∃ (v : Option Value) (vm₁ : Vm) (B : Pt), s.WarmedH vm₁ ∧ Stand p l e R s m args below meth c B.U B.locs B.cells B.slots ∧ Post ⟨T.setVm vm₁, locs, cells, slots⟩ (Value.ref b :: argsL).toArray v B ∧
      ∀ target, Steps p.tables e below (B.U.setTop { g with pc := g.pc + 3, stack := v.toList ++ rest }) target → Steps p.tables e below (T.setTop g) target) ∨
    (∃ (q : Addr) (vm₁ : Vm) (B : Pt), s.WarmedH vm₁ ∧ Stand p l e R s m args below meth c B.U B.locs B.cells B.slots ∧ PostX ⟨T.setVm vm₁, locs, cells, slots⟩ (Value.ref b :: argsL).toArray q B ∧
      Steps p.tables e below (T.setTop g) ((B.U.setTop { g with stack := rest }).pushFrame (.throwing q))) := by
  obtain ⟨mk, methM, hnamed, hmethM, hstM, habM⟩ := Cond.instanceMethod_spec hinst
  obtain ⟨m8, methM', cM, hn8, hmethM', -, -, -, -, -, -, hsigM⟩ := Cond.codeWith_spec hcode
  cases Option.some.inj (hn8.symm.trans hnamed)
  cases hmethM.symm.trans hmethM'
  obtain ⟨c2, r2, m2, q1, q2, q3, q4, kP, hkP, hkPi⟩ := Cond.selects_spec hsel
  cases hcls.symm.trans q1
  cases (State.methodFound?_of_named hnamed hy).symm.trans q2
  cases hnamed.symm.trans q3
  have hselP : selectMethod e.platform s.vm cellB.cls mk = .method mk := by rw [Launch.admits_selectMethod X.admits]; exact q4
  obtain ⟨vm₁, X₁, hstep₁⟩ := X.invokevirtual hexec hown hlink hnamed hmethM hstM hkP hkPi hy (a := b) (cell := cellB) hcell
    (fun z h => by rw [h] at hobj; cases hobj) hselP hmethM habM hkP hkPi (g := g) hg (argsL := argsL) (rest := rest) (hlen _ hsigM) hstack hdg
  rcases hK m meth c ⟨T.setVm vm₁, locs, cells, slots⟩ { g with stack := rest } (.invokevirtual index) mk (Value.ref b :: argsL).toArray X₁ hg hsize hdg hW (X₁.named hnamed) (hpre vm₁ X₁.warmed) with ⟨v, B, X', hpost, hsteps⟩ | ⟨q, B, X', hpost, hsteps⟩
  · exact Or.inl ⟨v, vm₁, B, X₁.warmed, X', hpost, fun target h => hstep₁ _ fun acts => by rw [doInvoke_state]; exact hsteps.trans h⟩
  · exact Or.inr ⟨q, vm₁, B, X₁.warmed, X', hpost, hstep₁ _ fun acts => by rw [doInvoke_state]; exact hsteps⟩
theorem vx_callSX (X : Stand p l e R s m args below meth c T locs cells slots) (hexec : p.tables.exec = Jvm.exec) {own : String} {index : Nat} {y : MethodName} {bytes : ByteArray} {maxL : Nat} {ret : Option FieldType} {hh : List (Nat × Nat × Nat × Nat)}
    (hown : s.vm.findClass own = some m.cls) (hlink : (Cond.methodLink own index y).before args s = true) (hstat : (Cond.static y).before args s = true) (hinit : (Cond.initialized y.cls).before args s = true)
    (hcode : (Cond.codeWith y bytes maxL ret hh).before args s = true) (hy : y.cls ≠ "java/lang/invoke/MethodHandle" ∧ y.cls ≠ "java/lang/invoke/VarHandle")
    {W9 : Nat} {Pre : Pt → Array Value → Prop} {Post : Pt → Array Value → Option Value → Pt → Prop} {PostX : Pt → Array Value → Addr → Pt → Prop} (hK : vx_Back l R p e below s args y 3 W9 Pre Post PostX)
    {g : JFrame} (hg : g.method = m) (hsize : g.locals.size = c.maxLocals) {argsL rest : List Value} (hlen : ∀ sig, parseMethodDescriptor y.desc = some sig → argsL.length = sig.parameters.length)
    (hstack : g.stack = argsL.reverse ++ rest) (hW : 2 * g.monitorRoom + (rest.map fun v => v.category).sum ≤ W9) (hdg : decode c.code g.pc = .ok (.invokestatic index, 3))
    (hpre : ∀ vm₁, s.WarmedH vm₁ → Pre ⟨T.setVm vm₁, locs, cells, slots⟩ argsL.toArray) :
    (∃ (v : Option Value) (vm₁ : Vm) (B : Pt), s.WarmedH vm₁ ∧ Stand p l e R s m args below meth c B.U B.locs B.cells B.slots ∧ Post ⟨T.setVm vm₁, locs, cells, slots⟩ argsL.toArray v B ∧
      ∀ target, Steps p.tables e below (B.U.setTop { g with pc := g.pc + 3, stack := v.toList ++ rest }) target → Steps p.tables e below (T.setTop g) target) ∨
    (∃ (q : Addr) (vm₁ : Vm) (B : Pt), s.WarmedH vm₁ ∧ Stand p l e R s m args below meth c B.U B.locs B.cells B.slots ∧ PostX ⟨T.setVm vm₁, locs, cells, slots⟩ argsL.toArray q B ∧
      Steps p.tables e below (T.setTop g) ((B.U.setTop { g with stack := rest }).pushFrame (.throwing q))) := by
  obtain ⟨mk, methM, cM, hnamed, hmethM, -, -, -, -, -, -, hsigM⟩ := Cond.codeWith_spec hcode
  have hstatic : methM.isStatic = true := Cond.static_spec hnamed hmethM hstat
  obtain ⟨kP, hkP, -⟩ := className_of_methodNamed hnamed
  have hinitP : kP.init = .initialized := Cond.initialized_spec (findClass_of_methodNamed hnamed) hkP hinit
  obtain ⟨vm₁, X₁, hstep₁⟩ := X.invokestatic hexec hown hlink hnamed hmethM hstatic hkP hinitP hy (g := g) hg (argsL := argsL) (rest := rest) (hlen _ hsigM) hstack hdg
  rcases hK m meth c ⟨T.setVm vm₁, locs, cells, slots⟩ { g with stack := rest } (.invokestatic index) mk argsL.toArray X₁ hg hsize hdg hW (X₁.named hnamed) (hpre vm₁ X₁.warmed) with ⟨v, B, X', hpost, hsteps⟩ | ⟨q, B, X', hpost, hsteps⟩
  · exact Or.inl ⟨v, vm₁, B, X₁.warmed, X', hpost, fun target h => hstep₁ _ fun acts => by rw [doInvoke_state]; exact hsteps.trans h⟩
  · exact Or.inr ⟨q, vm₁, B, X₁.warmed, X', hpost, hstep₁ _ fun acts => by rw [doInvoke_state]; exact hsteps⟩
theorem vx_callVW (X : Stand p l e R s m args below meth c T locs cells slots) (hexec : p.tables.exec = Jvm.exec) {own C : String} {index : Nat} {y : MethodName} {bytes : ByteArray} {maxL : Nat} {ret : Option FieldType} {hh : List (Nat × Nat × Nat × Nat)}
    (hown : s.vm.findClass own = some m.cls) (hlink : (Cond.methodLink own index y).before args s = true) (hinst : (Cond.instanceMethod y).before args s = true) (hsel : (Cond.selects C y y).before args s = true)
    (hcode : (Cond.codeWith y bytes maxL ret hh).before args s = true) (hy : y.cls ≠ "java/lang/invoke/MethodHandle" ∧ y.cls ≠ "java/lang/invoke/VarHandle")
    {W9 : Nat} {Pre : Pt → Array Value → Prop} {Post : Pt → Array Value → Option Value → Pt → Prop} (hK : Back l R p e below s args y 3 W9 Pre Post)
    {b : Addr} {cellB : Cell} (hcell : T.heap[b]? = some cellB) (hobj : cellB.vm.isStatics = false) (hcls : s.vm.findClass C = some cellB.cls)
    {g : JFrame} (hg : g.method = m) (hsize : g.locals.size = c.maxLocals) {argsL rest : List Value} (hlen : ∀ sig, parseMethodDescriptor y.desc = some sig → argsL.length = sig.parameters.length)
    (hstack : g.stack = argsL.reverse ++ .ref b :: rest) (hW : 2 * g.monitorRoom + (rest.map fun v => v.category).sum ≤ W9) (hdg : decode c.code g.pc = .ok (.invokevirtual index, 3))
    (hpre : ∀ vm₁, s.WarmedH vm₁ → Pre ⟨T.setVm vm₁, locs, cells, slots⟩ (Value.ref b :: argsL).toArray) :
    ∃ (v : Option Value) (vm₁ : Vm) (B : Pt), s.WarmedH vm₁ ∧ Stand p l e R s m args below meth c B.U B.locs B.cells B.slots ∧ Post ⟨T.setVm vm₁, locs, cells, slots⟩ (Value.ref b :: argsL).toArray v B ∧
      ∀ target, Steps p.tables e below (B.U.setTop { g with pc := g.pc + 3, stack := v.toList ++ rest }) target → Steps p.tables e below (T.setTop g) target := by
  obtain ⟨mk, methM, hnamed, hmethM, hstM, habM⟩ := Cond.instanceMethod_spec hinst
  obtain ⟨m8, methM', cM, hn8, hmethM', -, -, -, -, -, -, hsigM⟩ := Cond.codeWith_spec hcode
  cases Option.some.inj (hn8.symm.trans hnamed)
  cases hmethM.symm.trans hmethM'
  obtain ⟨c2, r2, m2, q1, q2, q3, q4, kP, hkP, hkPi⟩ := Cond.selects_spec hsel
  cases hcls.symm.trans q1
  cases (State.methodFound?_of_named hnamed hy).symm.trans q2
  cases hnamed.symm.trans q3
  have hselP : selectMethod e.platform s.vm cellB.cls mk = .method mk := by rw [Launch.admits_selectMethod X.admits]; exact q4
  obtain ⟨vm₁, X₁, hstep₁⟩ := X.invokevirtual hexec hown hlink hnamed hmethM hstM hkP hkPi hy (a := b) (cell := cellB) hcell
    (fun z h => by rw [h] at hobj; cases hobj) hselP hmethM habM hkP hkPi (g := g) hg (argsL := argsL) (rest := rest) (hlen _ hsigM) hstack hdg
  obtain ⟨v, B, X', hpost, hsteps⟩ := hK m meth c ⟨T.setVm vm₁, locs, cells, slots⟩ { g with stack := rest } (.invokevirtual index) mk (Value.ref b :: argsL).toArray X₁ hg hsize hdg hW (X₁.named hnamed) (hpre vm₁ X₁.warmed)
  exact ⟨v, vm₁, B, X₁.warmed, X', hpost, fun target h => hstep₁ _ fun acts => by rw [doInvoke_state]; exact hsteps.trans h⟩
abbrev vx_CVW (R : Room) (s : State) (args : Array Value) (own C : String) (index : Nat) (y : MethodName) (bytes : ByteArray) (maxL : Nat) (ret : Option FieldType) (hh : List (Nat × Nat × Nat × Nat)) (ws : List Cond) (rm : Room) (mc ms n : Nat) : Prop :=
  (rm.cells = mc ∧ rm.slots = ms ∧ rm.frames + 1 ≤ R.frames ∧ 8 + (maxL + 11) + rm.locals ≤ R.locals ∧ (∀ w ∈ ws, ∀ (a' : Array Value) (U : State), s.WarmedH U.vm → w.before a' U = true) ∧ Cond.codeWith y bytes maxL ret hh ∈ ws) ∧
  (Cond.codeWith y bytes maxL ret hh).before args s = true ∧ (Cond.initialized y.cls).before args s = true ∧ (y.cls ≠ "java/lang/invoke/MethodHandle" ∧ y.cls ≠ "java/lang/invoke/VarHandle") ∧
  (∀ sig, parseMethodDescriptor y.desc = some sig → n = sig.parameters.length) ∧ (Cond.methodLink own index y).before args s = true ∧ (Cond.instanceMethod y).before args s = true ∧ (Cond.selects C y y).before args s = true
theorem vx_cwVW {own C : String} {index maxL mc ms : Nat} {y : MethodName} {bytes : ByteArray} {ret : Option FieldType} {hh : List (Nat × Nat × Nat × Nat)} {Ts ws ws' : List Cond} {rm : Room} (n : Nat) (ht : ∀ w ∈ Ts, w.before args s = true) (hT : GoodIn Ts (wsV own index C y ws)) (hw : ws = Cond.codeWith y bytes maxL ret hh :: ws') (hrc : rm.cells = mc) (hrs : rm.slots = ms)
    (hd : y.cls = C ∧ y.cls ≠ "java/lang/invoke/MethodHandle" ∧ y.cls ≠ "java/lang/invoke/VarHandle" ∧ (parseMethodDescriptor y.desc).map (fun d => d.parameters.length) = some n) (hR : rm.frames + 1 ≤ R.frames ∧ 8 + (maxL + 11) + rm.locals ≤ R.locals) :
    vx_CVW R s args own C index y bytes maxL ret hh ws rm mc ms n := by
  obtain ⟨hC, hd⟩ := hd
  subst hC
  have ok : ∀ w ∈ wsV own index y.cls y ws, w.before args s = true := fun w h => ht w (hT w h).1
  have hG : GoodIn Ts ws := fun w h => hT w (by unfold wsV; exact List.mem_append_right _ h)
  have hc : Cond.codeWith y bytes maxL ret hh ∈ ws := by rw [hw]; exact List.mem_cons_self
  refine ⟨⟨hrc, hrs, hR.1, hR.2, pay_in ht hG, hc⟩, ht _ (hG _ hc).1, ok _ (by simp [wsV]), ⟨hd.1, hd.2.1⟩, fun sig h => ?_, ok _ (by simp [wsV]), ok _ (by simp [wsV]), ok _ (by simp [wsV])⟩
  have h2 := hd.2.2
  rw [h] at h2
  exact (Option.some.inj h2).symm
theorem vx_runVW {y : MethodName} {bytes cc : ByteArray} {maxL nL mc ms n index : Nat} {ret : Option FieldType} {hh : List (Nat × Nat × Nat × Nat)} {ws : List Cond} {rm : Room} {Pc : Array Value → State → Prop} {Qc : Array Value → State → Outcome → State → Prop} {free : Addr → Prop} {Ts : List Cond} {own C : String} {b : Addr} {As rest : List Value} {g : JFrame}
    (S : CallFix p m c cc nL s args Ts own) (hM : Met l y ws rm Pc Qc mc ms free) (cw : vx_CVW R s args own C index y bytes maxL ret hh ws rm mc ms n) (hp : PreV s H C b Pc As)
    (hg : g.method = m) (hn : As.length = n) (hsize : g.locals.size = nL) (hstack : g.stack = As.reverse ++ .ref b :: rest) (hW : 2 * g.monitorRoom + (rest.map fun v => v.category).sum ≤ 8) (hdg : decode cc g.pc = .ok (.invokevirtual index, 3)) (hf : cells + mc ≤ R.cells ∧ slots + ms ≤ R.slots) :
    va_Run p l e R s m args below meth c H locs cells slots mc ms g rest (Qc (Value.ref b :: As).toArray) free := by
  obtain ⟨⟨hrc, hrs, hfr, hlo, hws, hcw⟩, hcode, hini, hy, hlen, hl, hin, hse⟩ := cw
  have hK : Back l R p e below s args y 3 8 (PreOf R mc ms Pc) (PostOf Qc mc ms free) := va_backW (hh := hh) (bytes := bytes) (maxL := maxL) (ret := ret) hM hp.1 hrc hrs hfr hlo hws hcw (fun a' U hW => word_at hW (Or.inl (by first | rfl | simp [Cond.onTables, Cond.keeps, Cond.steady])) hini)
  obtain ⟨hx, hb, hml, ho, -⟩ := S
  obtain ⟨-, ⟨cellB, hcB, hoB, hclB⟩, hPc⟩ := hp
  intro T hT X
  obtain ⟨v, vm₁, ⟨U', l2, c2, s2⟩, hW₁, X', ⟨g', mk, t, L, e1, e2, hq, h1, hL, h2, h3⟩, st⟩ := vx_callVW X hx (C := C) (hh := hh) (bytes := bytes) (maxL := maxL) (ret := ret) ho hl hin hse hcode hy hK (by rw [hT]; exact hcB) hoB hclB hg (hsize.trans hml.symm) (argsL := As) (rest := rest) (fun sig h => hn.trans (hlen sig h)) hstack hW (by rw [hb]; exact hdg)
    (fun vm₁ hW₁ => ⟨hf.1, hf.2, hPc (T.setVm vm₁) hT hW₁⟩)
  dsimp only [Pt.U, Pt.locs, Pt.cells, Pt.slots] at X' e1 e2 h1 h2 h3 st
  subst h1; subst h2; subst h3
  exact ⟨v, (T.setVm vm₁).calling g' mk (Value.ref b :: As).toArray, t, U', L, hT, X', hL, e1, e2, hq, st⟩
section
variable {y : MethodName} {bytes cc : ByteArray} {maxL nL mc ms n index : Nat} {ret : Option FieldType} {ws : List Cond} {rm : Room} {Pc : Array Value → State → Prop} {Qc : Array Value → State → Outcome → State → Prop} {XC : String → State → State → Prop} {free : Addr → Prop} {Ts : List Cond} {own C : String} {b : Addr} {As rest : List Value} {g : JFrame}
theorem vx_runVX {hh : List (Nat × Nat × Nat × Nat)} (S : CallFix p m c cc nL s args Ts own) (hM : vx_Met l y ws rm Pc Qc XC mc ms free) (cw : vx_CVW R s args own C index y bytes maxL ret hh ws rm mc ms n) (hp : PreV s H C b Pc As)
    (hg : g.method = m) (hn : As.length = n) (hsize : g.locals.size = nL) (hstack : g.stack = As.reverse ++ .ref b :: rest) (hW : 2 * g.monitorRoom + (rest.map fun v => v.category).sum ≤ 8) (hdg : decode cc g.pc = .ok (.invokevirtual index, 3)) (hf : cells + mc ≤ R.cells ∧ slots + ms ≤ R.slots) :
    vx_Run p l e R s m args below meth c H locs cells slots mc ms g rest (Qc (Value.ref b :: As).toArray) XC free := by
  obtain ⟨⟨hrc, hrs, hfr, hlo, hws, hcw⟩, hcode, hini, hy, hlen, hl, hin, hse⟩ := cw
  have hK : vx_Back l R p e below s args y 3 8 (PreOf R mc ms Pc) (PostOf Qc mc ms free) (vx_Post XC mc ms free) := vx_backW (hh := hh) (bytes := bytes) (maxL := maxL) (ret := ret) hM hp.1 hrc hrs hfr hlo hws hcw (fun a' U hW => word_at hW (Or.inl (by first | rfl | simp [Cond.onTables, Cond.keeps, Cond.steady])) hini)
  obtain ⟨hx, hb, hml, ho, -⟩ := S
  obtain ⟨-, ⟨cellB, hcB, hoB, hclB⟩, hPc⟩ := hp
  intro T hT X
  rcases vx_callVX X hx (C := C) (hh := hh) (bytes := bytes) (maxL := maxL) (ret := ret) ho hl hin hse hcode hy hK (by rw [hT]; exact hcB) hoB hclB hg (hsize.trans hml.symm) (argsL := As) (rest := rest) (fun sig h => hn.trans (hlen sig h)) hstack hW (by rw [hb]; exact hdg)
    (fun vm₁ hW₁ => ⟨hf.1, hf.2, hPc (T.setVm vm₁) hT hW₁⟩) with ⟨v, vm₁, ⟨U', l2, c2, s2⟩, hW₁, X', ⟨g', mk, t, L, e1, e2, hq, h1, hL, h2, h3⟩, st⟩ | ⟨q, vm₁, ⟨U', l2, c2, s2⟩, hW₁, X', ⟨g', mk, t, L, E, ce, e1, e2, hq, hce, hcv, hcl, h1, hL, h2, h3⟩, st⟩
  · dsimp only [Pt.U, Pt.locs, Pt.cells, Pt.slots] at X' e1 e2 h1 h2 h3 st
    subst h1; subst h2; subst h3
    exact Or.inl ⟨v, (T.setVm vm₁).calling g' mk (Value.ref b :: As).toArray, t, U', L, hT, X', hL, e1, e2, hq, st⟩
  · dsimp only [Pt.U, Pt.locs, Pt.cells, Pt.slots] at X' e1 e2 h1 h2 h3 st hcl
    subst h1; subst h2; subst h3
    exact Or.inr ⟨q, (T.setVm vm₁).calling g' mk (Value.ref b :: As).toArray, t, U', L, E, ce, hT, X', hL, e1, e2, hq, hce, hcv, vx_cls hW₁ hcl, st⟩
theorem vx_runSX {hh : List (Nat × Nat × Nat × Nat)} (S : CallFix p m c cc nL s args Ts own) (hM : vx_Met l y ws rm Pc Qc XC mc ms free) (cw : vx_CSW R s args own index y bytes maxL ret hh ws rm mc ms n) (hp : PreS s H Pc As)
    (hg : g.method = m) (hn : As.length = n) (hsize : g.locals.size = nL) (hstack : g.stack = As.reverse ++ rest) (hW : 2 * g.monitorRoom + (rest.map fun v => v.category).sum ≤ 8) (hdg : decode cc g.pc = .ok (.invokestatic index, 3)) (hf : cells + mc ≤ R.cells ∧ slots + ms ≤ R.slots) :
    vx_Run p l e R s m args below meth c H locs cells slots mc ms g rest (Qc As.toArray) XC free := by
  obtain ⟨⟨hrc, hrs, hfr, hlo, hws, hcw⟩, hcode, hini, hy, hlen, hl, hstt⟩ := cw
  have hK : vx_Back l R p e below s args y 3 8 (PreOf R mc ms Pc) (PostOf Qc mc ms free) (vx_Post XC mc ms free) := vx_backW (hh := hh) (bytes := bytes) (maxL := maxL) (ret := ret) hM hp.1 hrc hrs hfr hlo hws hcw (fun a' U hW => word_at hW (Or.inl (by first | rfl | simp [Cond.onTables, Cond.keeps, Cond.steady])) hini)
  obtain ⟨hx, hb, hml, ho, -⟩ := S
  intro T hT X
  rcases vx_callSX X hx (hh := hh) (bytes := bytes) (maxL := maxL) (ret := ret) ho hl hstt hini hcode hy hK hg (hsize.trans hml.symm) (argsL := As) (rest := rest) (fun sig h => hn.trans (hlen sig h)) hstack hW (by rw [hb]; exact hdg)
    (fun vm₁ hW₁ => ⟨hf.1, hf.2, hp.2 (T.setVm vm₁) hT hW₁⟩) with ⟨v, vm₁, ⟨U', l2, c2, s2⟩, hW₁, X', ⟨g', mk, t, L, e1, e2, hq, h1, hL, h2, h3⟩, st⟩ | ⟨q, vm₁, ⟨U', l2, c2, s2⟩, hW₁, X', ⟨g', mk, t, L, E, ce, e1, e2, hq, hce, hcv, hcl, h1, hL, h2, h3⟩, st⟩
  · dsimp only [Pt.U, Pt.locs, Pt.cells, Pt.slots] at X' e1 e2 h1 h2 h3 st
    subst h1; subst h2; subst h3
    exact Or.inl ⟨v, (T.setVm vm₁).calling g' mk As.toArray, t, U', L, hT, X', hL, e1, e2, hq, st⟩
  · dsimp only [Pt.U, Pt.locs, Pt.cells, Pt.slots] at X' e1 e2 h1 h2 h3 st hcl
    subst h1; subst h2; subst h3
    exact Or.inr ⟨q, (T.setVm vm₁).calling g' mk As.toArray, t, U', L, E, ce, hT, X', hL, e1, e2, hq, hce, hcv, vx_cls hW₁ hcl, st⟩
end
end VXH
theorem vx_ofWH {l : Launch} {y : MethodName} {ws ws' : List Cond} {rm : Room} {Pc : Array Value → State → Prop} {Qc : Array Value → State → Outcome → State → Prop} {XC : String → State → State → Prop} {mc ms : Nat} {free : Addr → Prop} {cc : ByteArray} {maxL : Nat} {ret : Option FieldType} {hh : List (Nat × Nat × Nat × Nat)}
    (hy : plainName y.cls = true) (hw : ws = Cond.codeWith y cc maxL ret hh :: ws')
    (body : ∀ p e s m args below meth c s₁, BodyLoose p l y (headSpec ws rm) cc maxL ret e s m args below meth c s₁ → c.maxLocals = maxL → Pc args s →
      W p l e (headSpec ws rm).room s m args below meth c s.heap [] 0 0 (vx_MQ below Qc XC args s mc ms free) (entryFrame m args maxL)) : vx_Met l y ws rm Pc Qc XC mc ms free := by
  refine MetFree.of_bodyS (code := cc) (maxLocals := maxL) (ret := ret) hy ?_ ?_
  · intro args s m h hn
    obtain ⟨m9, meth, c, hn9, h1, h2, h3, h4, -, h5, h6, -⟩ := Cond.codeWith_spec (atoms_spec (ws := ws) h _ (by rw [hw]; exact List.mem_cons_self))
    cases hn.symm.trans hn9
    exact ⟨meth, c, h1, h2, h3, h4, h5, h6⟩
  · intro p e s m args below meth c s₁ B hml hP _
    have hh0 : s₁.heap = s.heap := by rw [B.state]; rfl
    obtain ⟨t, a1, o, b1, b2, b3⟩ := body p e s m args below meth c s₁ B hml hP s₁ hh0 (Stand.of_body B)
    exact ⟨t, o, a1, b1, b2, b3⟩
/-! ===== END ===== -/
end
section
/-! ===== BEGIN printed: names, fields, word lists, decode rows ===== -/
def RX0 : String := "TaperOffice$Household"
def TX0 : u_T := fun k => match k with
  | 0 => ("TaperOffice$Household", "values", "[[I", true)
  | 1 => ("TaperOffice$Household", "since", "[[I", true)
  | 2 => ("TaperOffice$Household", "changes", "I", false)
  | 3 => ("TaperOffice$Household", "firstMonth", "I", true)
  | 4 => ("TaperOffice$Household", "assessments", "[I", true)
  | 5 => ("TaperOffice$Household", "payments", "[I", true)
  | 6 => ("TaperOffice$Household", "debt", "I", false)
  | 7 => ("TaperOffice$Household", "takenBack", "I", false)
  | _ => ("TaperOffice$Household", "disputes", "Z", false)
def tyX0 : Nat → FieldType := fun k => match k with
  | 0 => .array (.array .int)
  | 1 => .array (.array .int)
  | 2 => .int
  | 3 => .int
  | 4 => .array .int
  | 5 => .array .int
  | 6 => .int
  | 7 => .int
  | _ => .boolean
abbrev wsX00 : List Cond := u_ws RX0 TX0 9
theorem nmX0 : ∀ a, a < 9 → ∀ b, b < 9 → a ≠ b → (TX0 a).2.1 ≠ (TX0 b).2.1 := by decide +kernel
theorem tyX0_ok : ∀ k, k < 9 → parseFieldDescriptor (TX0 k).2.2.1 = some (tyX0 k) := by decide +kernel
abbrev cX0_init : ByteArray := prog_2_method_1_code
def yX0_init : MethodName := ⟨RX0, "<init>", "(I)V"⟩
abbrev cX0_change : ByteArray := prog_2_method_2_code
def yX0_change : MethodName := ⟨RX0, "change", "(III)V"⟩
abbrev cX0_needIn : ByteArray := prog_2_method_3_code
def yX0_needIn : MethodName := ⟨RX0, "needIn", "(I)I"⟩
abbrev cX0_taperIn : ByteArray := prog_2_method_4_code
def yX0_taperIn : MethodName := ⟨RX0, "taperIn", "(I)I"⟩
abbrev cX0_tariffIn : ByteArray := prog_2_method_5_code
def yX0_tariffIn : MethodName := ⟨RX0, "tariffIn", "(I)I"⟩
abbrev cX0_dueIn : ByteArray := prog_2_method_6_code
def yX0_dueIn : MethodName := ⟨RX0, "dueIn", "(I)I"⟩
abbrev cX0_unassessedBefore : ByteArray := prog_2_method_7_code
def yX0_unassessedBefore : MethodName := ⟨RX0, "unassessedBefore", "(I)I"⟩
abbrev cX0_owedAfter : ByteArray := prog_2_method_8_code
def yX0_owedAfter : MethodName := ⟨RX0, "owedAfter", "(I)I"⟩
abbrev cX0_arrearsOf : ByteArray := prog_2_method_9_code
def yX0_arrearsOf : MethodName := ⟨RX0, "arrearsOf", "(I)I"⟩
abbrev cX0_recoverableIn : ByteArray := prog_2_method_10_code
def yX0_recoverableIn : MethodName := ⟨RX0, "recoverableIn", "(II)I"⟩
abbrev cX0_paymentIn : ByteArray := prog_2_method_11_code
def yX0_paymentIn : MethodName := ⟨RX0, "paymentIn", "(I)I"⟩
abbrev cX0_settle : ByteArray := prog_2_method_12_code
def yX0_settle : MethodName := ⟨RX0, "settle", "(I)I"⟩
abbrev cX0_lowerDebt : ByteArray := prog_2_method_13_code
def yX0_lowerDebt : MethodName := ⟨RX0, "lowerDebt", "(I)V"⟩
def RX1 : String := "TaperOffice"
def TX1 : u_T := fun k => match k with
  | 0 => ("TaperOffice", "rows", "[LTaperOffice$Household;", true)
  | 1 => ("TaperOffice", "added", "I", false)
  | _ => ("TaperOffice", "current", "I", false)
def tyX1 : Nat → FieldType := fun k => match k with
  | 0 => .array (.object "TaperOffice$Household")
  | 1 => .int
  | _ => .int
abbrev wsX10 : List Cond := u_ws RX1 TX1 3
theorem nmX1 : ∀ a, a < 3 → ∀ b, b < 3 → a ≠ b → (TX1 a).2.1 ≠ (TX1 b).2.1 := by decide +kernel
theorem tyX1_ok : ∀ k, k < 3 → parseFieldDescriptor (TX1 k).2.2.1 = some (tyX1 k) := by decide +kernel
abbrev cX1_init : ByteArray := prog_1_method_1_code
def yX1_init : MethodName := ⟨RX1, "<init>", "()V"⟩
abbrev cX1_add : ByteArray := prog_1_method_2_code
def yX1_add : MethodName := ⟨RX1, "add", "()I"⟩
abbrev cX1_tell : ByteArray := prog_1_method_3_code
def yX1_tell : MethodName := ⟨RX1, "tell", "(IIII)I"⟩
abbrev cX1_dispute : ByteArray := prog_1_method_4_code
def yX1_dispute : MethodName := ⟨RX1, "dispute", "(IZ)Z"⟩
abbrev cX1_payBack : ByteArray := prog_1_method_5_code
def yX1_payBack : MethodName := ⟨RX1, "payBack", "(II)I"⟩
abbrev cX1_households : ByteArray := prog_1_method_6_code
def yX1_households : MethodName := ⟨RX1, "households", "()I"⟩
abbrev cX1_close : ByteArray := prog_1_method_7_code
def yX1_close : MethodName := ⟨RX1, "close", "()I"⟩
abbrev cX1_month : ByteArray := prog_1_method_8_code
def yX1_month : MethodName := ⟨RX1, "month", "()I"⟩
abbrev cX1_fact : ByteArray := prog_1_method_9_code
def yX1_fact : MethodName := ⟨RX1, "fact", "(III)I"⟩
abbrev cX1_need : ByteArray := prog_1_method_10_code
def yX1_need : MethodName := ⟨RX1, "need", "(II)I"⟩
abbrev cX1_taper : ByteArray := prog_1_method_11_code
def yX1_taper : MethodName := ⟨RX1, "taper", "(II)I"⟩
abbrev cX1_tariff : ByteArray := prog_1_method_12_code
def yX1_tariff : MethodName := ⟨RX1, "tariff", "(II)I"⟩
abbrev cX1_due : ByteArray := prog_1_method_13_code
def yX1_due : MethodName := ⟨RX1, "due", "(II)I"⟩
abbrev cX1_unassessed : ByteArray := prog_1_method_14_code
def yX1_unassessed : MethodName := ⟨RX1, "unassessed", "(I)I"⟩
abbrev cX1_wouldPay : ByteArray := prog_1_method_15_code
def yX1_wouldPay : MethodName := ⟨RX1, "wouldPay", "(I)I"⟩
abbrev cX1_assessed : ByteArray := prog_1_method_16_code
def yX1_assessed : MethodName := ⟨RX1, "assessed", "(II)I"⟩
abbrev cX1_paid : ByteArray := prog_1_method_17_code
def yX1_paid : MethodName := ⟨RX1, "paid", "(II)I"⟩
abbrev cX1_debt : ByteArray := prog_1_method_18_code
def yX1_debt : MethodName := ⟨RX1, "debt", "(I)I"⟩
abbrev cX1_recovered : ByteArray := prog_1_method_19_code
def yX1_recovered : MethodName := ⟨RX1, "recovered", "(I)I"⟩
abbrev cX1_existing : ByteArray := prog_1_method_20_code
def yX1_existing : MethodName := ⟨RX1, "existing", "(I)LTaperOffice$Household;"⟩
abbrev cX1_checkMonth : ByteArray := prog_1_method_21_code
def yX1_checkMonth : MethodName := ⟨RX1, "checkMonth", "(I)V"⟩
abbrev cX1_checkFact : ByteArray := prog_1_method_22_code
def yX1_checkFact : MethodName := ⟨RX1, "checkFact", "(I)V"⟩
abbrev cX1_monthCountedFrom : ByteArray := prog_1_method_23_code
def yX1_monthCountedFrom : MethodName := ⟨RX1, "monthCountedFrom", "(I)I"⟩
def RX2 : String := "TaperOfficeModel"
def TX2 : u_T := fun k => match k with
  | _ => ("", "", "", false)
def tyX2 : Nat → FieldType := fun k => match k with
  | _ => .int
abbrev wsX20 : List Cond := u_ws RX2 TX2 0
theorem nmX2 : ∀ a, a < 0 → ∀ b, b < 0 → a ≠ b → (TX2 a).2.1 ≠ (TX2 b).2.1 := by decide +kernel
theorem tyX2_ok : ∀ k, k < 0 → parseFieldDescriptor (TX2 k).2.2.1 = some (tyX2 k) := by decide +kernel
def RJ9 : String := "java/lang/Math"
def TJ9 : u_T := fun k => match k with
  | _ => ("", "", "", false)
def tyJ9 : Nat → FieldType := fun k => match k with
  | _ => .int
abbrev wsJ90 : List Cond := u_ws RJ9 TJ9 0
theorem nmJ9 : ∀ a, a < 0 → ∀ b, b < 0 → a ≠ b → (TJ9 a).2.1 ≠ (TJ9 b).2.1 := by decide +kernel
theorem tyJ9_ok : ∀ k, k < 0 → parseFieldDescriptor (TJ9 k).2.2.1 = some (tyJ9 k) := by decide +kernel
abbrev cJ9_max_7cf53 : ByteArray := prog_9_method_65_code
def yJ9_max_7cf53 : MethodName := ⟨RJ9, "max", "(II)I"⟩
abbrev cJ9_min_7cf53 : ByteArray := prog_9_method_69_code
def yJ9_min_7cf53 : MethodName := ⟨RJ9, "min", "(II)I"⟩
def RJ0 : String := "java/lang/String"
def TJ0 : u_T := fun k => match k with
  | _ => ("", "", "", false)
def tyJ0 : Nat → FieldType := fun k => match k with
  | _ => .int
abbrev wsJ00 : List Cond := u_ws RJ0 TJ0 0
theorem nmJ0 : ∀ a, a < 0 → ∀ b, b < 0 → a ≠ b → (TJ0 a).2.1 ≠ (TJ0 b).2.1 := by decide +kernel
theorem tyJ0_ok : ∀ k, k < 0 → parseFieldDescriptor (TJ0 k).2.2.1 = some (tyJ0 k) := by decide +kernel
def RL : String := "TaperOfficeLaw"
abbrev cL_cell : ByteArray := method_2_code
def yL_cell : MethodName := ⟨RL, "cell", "([II)I"⟩
abbrev cL_low : ByteArray := method_3_code
def yL_low : MethodName := ⟨RL, "low", "(II)I"⟩
abbrev cL_calls : ByteArray := method_4_code
def yL_calls : MethodName := ⟨RL, "calls", "(LTaperOffice;IIIII)I"⟩
abbrev cL_fact : ByteArray := method_5_code
def yL_fact : MethodName := ⟨RL, "fact", "(III[I[I[I)I"⟩
abbrev cL_need : ByteArray := method_6_code
def yL_need : MethodName := ⟨RL, "need", "(II[I[I[I)I"⟩
abbrev cL_taper : ByteArray := method_7_code
def yL_taper : MethodName := ⟨RL, "taper", "(II[I[I[I)I"⟩
abbrev cL_tariff : ByteArray := method_8_code
def yL_tariff : MethodName := ⟨RL, "tariff", "(II[I[I[I)I"⟩
abbrev cL_due : ByteArray := method_9_code
def yL_due : MethodName := ⟨RL, "due", "(II[I[I[I)I"⟩
abbrev cL_open : ByteArray := method_10_code
def yL_open : MethodName := ⟨RL, "open", "(I[I[I[I[I)I"⟩
abbrev cL_recovers : ByteArray := method_11_code
def yL_recovers : MethodName := ⟨RL, "recovers", "(III[I[I[I)I"⟩
abbrev cL_debtThen : ByteArray := method_12_code
def yL_debtThen : MethodName := ⟨RL, "debtThen", "(II[I)I"⟩
abbrev cL_pays : ByteArray := method_13_code
def yL_pays : MethodName := ⟨RL, "pays", "(I[I[I[I[I)I"⟩
abbrev cL_closes : ByteArray := method_14_code
def yL_closes : MethodName := ⟨RL, "closes", "(I[I[I[I[I[I)I"⟩
abbrev cL_isHome : ByteArray := method_15_code
def yL_isHome : MethodName := ⟨RL, "isHome", "(LTaperOffice;II[I[I[I[I[I)Z"⟩
abbrev cL_tells : ByteArray := method_16_code
def yL_tells : MethodName := ⟨RL, "tells", "(LTaperOffice;I[I[I[I)Z"⟩
abbrev cL_law : ByteArray := code
def yL_law : MethodName := ⟨RL, "law", "([I)Z"⟩
def wsX0_init : List Cond := .code yX0_init cX0_init 3 none :: ([.methodLink RX0 3 objectInit, .instanceMethod objectInit, .code objectInit ⟨#[0xb1]⟩ 1 none, .fieldLink RX0 9 "TaperOffice$Household" "firstMonth" "I", .classLink RX0 15 "[[I", .arrayClass .int, .fieldLink RX0 17 "TaperOffice$Household" "values" "[[I", .fieldLink RX0 20 "TaperOffice$Household" "since" "[[I", .fieldLink RX0 23 "TaperOffice$Household" "assessments" "[I", .fieldLink RX0 27 "TaperOffice$Household" "payments" "[I"] ++ wsX00)
def wsX0_change : List Cond := .code yX0_change cX0_change 5 none :: ([.fieldLink RX0 30 "TaperOffice$Household" "changes" "I", .fieldLink RX0 20 "TaperOffice$Household" "since" "[[I", .fieldLink RX0 17 "TaperOffice$Household" "values" "[[I"] ++ wsX00)
def wsX0_needIn : List Cond := .code yX0_needIn cX0_needIn 3 (some .int) :: ([.fieldLink RX0 17 "TaperOffice$Household" "values" "[[I", .constant RX0 33 (60000), .methodLink RX0 34 Lib.Math.min.name, .static Lib.Math.min.name, .initialized "java/lang/Math", .code Lib.Math.min.name Lib.Math.min.code 2 (some .int)] ++ wsX00)
def wsX0_taperIn : List Cond := .code yX0_taperIn cX0_taperIn 3 (some .int) :: ([.fieldLink RX0 17 "TaperOffice$Household" "values" "[[I", .methodLink RX0 40 Lib.Math.max.name, .static Lib.Math.max.name, .initialized "java/lang/Math", .code Lib.Math.max.name Lib.Math.max.code 2 (some .int)] ++ wsX00)
def wsX0_tariffIn : List Cond := .code yX0_tariffIn cX0_tariffIn 4 (some .int) :: ([.fieldLink RX0 17 "TaperOffice$Household" "values" "[[I", .constant RX0 43 (600000), .methodLink RX0 40 Lib.Math.max.name, .static Lib.Math.max.name, .initialized "java/lang/Math", .code Lib.Math.max.name Lib.Math.max.code 2 (some .int)] ++ wsX00)
def wsX0_dueIn : List Cond := .code yX0_dueIn cX0_dueIn 3 (some .int) :: ([.fieldLink RX0 17 "TaperOffice$Household" "values" "[[I", .constant RX0 44 (1600000), .methodLink RX0 45 yX0_needIn, .instanceMethod yX0_needIn, .selects RX0 yX0_needIn yX0_needIn, .initialized RX0, .code yX0_needIn cX0_needIn 3 (some .int), .constant RX0 33 (60000), .methodLink RX0 34 Lib.Math.min.name, .static Lib.Math.min.name, .initialized "java/lang/Math", .code Lib.Math.min.name Lib.Math.min.code 2 (some .int), .methodLink RX0 49 yX0_taperIn, .instanceMethod yX0_taperIn, .selects RX0 yX0_taperIn yX0_taperIn, .code yX0_taperIn cX0_taperIn 3 (some .int), .methodLink RX0 40 Lib.Math.max.name, .static Lib.Math.max.name, .code Lib.Math.max.name Lib.Math.max.code 2 (some .int), .methodLink RX0 52 yX0_tariffIn, .instanceMethod yX0_tariffIn, .selects RX0 yX0_tariffIn yX0_tariffIn, .code yX0_tariffIn cX0_tariffIn 4 (some .int), .constant RX0 43 (600000)] ++ wsX00)
def wsX0_unassessedBefore_r1 : List Cond := [Cond.fieldLink RX0 9 "TaperOffice$Household" "firstMonth" "I", Cond.fieldLink RX0 23 "TaperOffice$Household" "assessments" "[I", Cond.methodLink RX0 55 yX0_dueIn, Cond.instanceMethod yX0_dueIn, Cond.selects RX0 yX0_dueIn yX0_dueIn, Cond.initialized RX0, Cond.code yX0_dueIn cX0_dueIn 3 (some .int), Cond.fieldLink RX0 17 "TaperOffice$Household" "values" "[[I", Cond.constant RX0 44 (1600000), Cond.methodLink RX0 45 yX0_needIn, Cond.instanceMethod yX0_needIn, Cond.selects RX0 yX0_needIn yX0_needIn, Cond.code yX0_needIn cX0_needIn 3 (some .int), Cond.constant RX0 33 (60000), Cond.methodLink RX0 34 Lib.Math.min.name, Cond.static Lib.Math.min.name, Cond.initialized "java/lang/Math", Cond.code Lib.Math.min.name Lib.Math.min.code 2 (some .int), Cond.methodLink RX0 49 yX0_taperIn, Cond.instanceMethod yX0_taperIn, Cond.selects RX0 yX0_taperIn yX0_taperIn, Cond.code yX0_taperIn cX0_taperIn 3 (some .int), Cond.methodLink RX0 40 Lib.Math.max.name, Cond.static Lib.Math.max.name]
def wsX0_unassessedBefore_r2 : List Cond := [Cond.code Lib.Math.max.name Lib.Math.max.code 2 (some .int), Cond.methodLink RX0 52 yX0_tariffIn, Cond.instanceMethod yX0_tariffIn, Cond.selects RX0 yX0_tariffIn yX0_tariffIn, Cond.code yX0_tariffIn cX0_tariffIn 4 (some .int), Cond.constant RX0 43 (600000)]
def wsX0_unassessedBefore : List Cond := .code yX0_unassessedBefore cX0_unassessedBefore 4 (some .int) :: ((wsX0_unassessedBefore_r1 ++ wsX0_unassessedBefore_r2) ++ wsX00)
def wsX0_owedAfter : List Cond := .code yX0_owedAfter cX0_owedAfter 2 (some .int) :: ([.fieldLink RX0 58 "TaperOffice$Household" "debt" "I", .methodLink RX0 40 Lib.Math.max.name, .static Lib.Math.max.name, .initialized "java/lang/Math", .code Lib.Math.max.name Lib.Math.max.code 2 (some .int)] ++ wsX00)
def wsX0_arrearsOf : List Cond := .code yX0_arrearsOf cX0_arrearsOf 2 (some .int) :: ([.fieldLink RX0 58 "TaperOffice$Household" "debt" "I", .methodLink RX0 40 Lib.Math.max.name, .static Lib.Math.max.name, .initialized "java/lang/Math", .code Lib.Math.max.name Lib.Math.max.code 2 (some .int)] ++ wsX00)
def wsX0_recoverableIn_r1 : List Cond := [Cond.fieldLink RX0 61 "TaperOffice$Household" "disputes" "Z", Cond.fieldLink RX0 17 "TaperOffice$Household" "values" "[[I", Cond.methodLink RX0 40 Lib.Math.max.name, Cond.static Lib.Math.max.name, Cond.initialized "java/lang/Math", Cond.code Lib.Math.max.name Lib.Math.max.code 2 (some .int), Cond.methodLink RX0 34 Lib.Math.min.name, Cond.static Lib.Math.min.name, Cond.code Lib.Math.min.name Lib.Math.min.code 2 (some .int), Cond.methodLink RX0 55 yX0_dueIn, Cond.instanceMethod yX0_dueIn, Cond.selects RX0 yX0_dueIn yX0_dueIn, Cond.initialized RX0, Cond.code yX0_dueIn cX0_dueIn 3 (some .int), Cond.constant RX0 44 (1600000), Cond.methodLink RX0 45 yX0_needIn, Cond.instanceMethod yX0_needIn, Cond.selects RX0 yX0_needIn yX0_needIn, Cond.code yX0_needIn cX0_needIn 3 (some .int), Cond.constant RX0 33 (60000), Cond.methodLink RX0 49 yX0_taperIn, Cond.instanceMethod yX0_taperIn, Cond.selects RX0 yX0_taperIn yX0_taperIn, Cond.code yX0_taperIn cX0_taperIn 3 (some .int)]
def wsX0_recoverableIn_r2 : List Cond := [Cond.methodLink RX0 52 yX0_tariffIn, Cond.instanceMethod yX0_tariffIn, Cond.selects RX0 yX0_tariffIn yX0_tariffIn, Cond.code yX0_tariffIn cX0_tariffIn 4 (some .int), Cond.constant RX0 43 (600000)]
def wsX0_recoverableIn : List Cond := .code yX0_recoverableIn cX0_recoverableIn 6 (some .int) :: ((wsX0_recoverableIn_r1 ++ wsX0_recoverableIn_r2) ++ wsX00)
def wsX0_paymentIn_r1 : List Cond := [Cond.methodLink RX0 65 yX0_unassessedBefore, Cond.instanceMethod yX0_unassessedBefore, Cond.selects RX0 yX0_unassessedBefore yX0_unassessedBefore, Cond.initialized RX0, Cond.code yX0_unassessedBefore cX0_unassessedBefore 4 (some .int), Cond.fieldLink RX0 9 "TaperOffice$Household" "firstMonth" "I", Cond.fieldLink RX0 23 "TaperOffice$Household" "assessments" "[I", Cond.methodLink RX0 55 yX0_dueIn, Cond.instanceMethod yX0_dueIn, Cond.selects RX0 yX0_dueIn yX0_dueIn, Cond.code yX0_dueIn cX0_dueIn 3 (some .int), Cond.fieldLink RX0 17 "TaperOffice$Household" "values" "[[I", Cond.constant RX0 44 (1600000), Cond.methodLink RX0 45 yX0_needIn, Cond.instanceMethod yX0_needIn, Cond.selects RX0 yX0_needIn yX0_needIn, Cond.code yX0_needIn cX0_needIn 3 (some .int), Cond.constant RX0 33 (60000), Cond.methodLink RX0 34 Lib.Math.min.name, Cond.static Lib.Math.min.name, Cond.initialized "java/lang/Math", Cond.code Lib.Math.min.name Lib.Math.min.code 2 (some .int), Cond.methodLink RX0 49 yX0_taperIn, Cond.instanceMethod yX0_taperIn]
def wsX0_paymentIn_r2 : List Cond := [Cond.selects RX0 yX0_taperIn yX0_taperIn, Cond.code yX0_taperIn cX0_taperIn 3 (some .int), Cond.methodLink RX0 40 Lib.Math.max.name, Cond.static Lib.Math.max.name, Cond.code Lib.Math.max.name Lib.Math.max.code 2 (some .int), Cond.methodLink RX0 52 yX0_tariffIn, Cond.instanceMethod yX0_tariffIn, Cond.selects RX0 yX0_tariffIn yX0_tariffIn, Cond.code yX0_tariffIn cX0_tariffIn 4 (some .int), Cond.constant RX0 43 (600000), Cond.methodLink RX0 68 yX0_owedAfter, Cond.instanceMethod yX0_owedAfter, Cond.selects RX0 yX0_owedAfter yX0_owedAfter, Cond.code yX0_owedAfter cX0_owedAfter 2 (some .int), Cond.fieldLink RX0 58 "TaperOffice$Household" "debt" "I", Cond.methodLink RX0 71 yX0_recoverableIn, Cond.instanceMethod yX0_recoverableIn, Cond.selects RX0 yX0_recoverableIn yX0_recoverableIn, Cond.code yX0_recoverableIn cX0_recoverableIn 6 (some .int), Cond.fieldLink RX0 61 "TaperOffice$Household" "disputes" "Z", Cond.methodLink RX0 74 yX0_arrearsOf, Cond.instanceMethod yX0_arrearsOf, Cond.selects RX0 yX0_arrearsOf yX0_arrearsOf, Cond.code yX0_arrearsOf cX0_arrearsOf 2 (some .int)]
def wsX0_paymentIn : List Cond := .code yX0_paymentIn cX0_paymentIn 4 (some .int) :: ((wsX0_paymentIn_r1 ++ wsX0_paymentIn_r2) ++ wsX00)
def wsX0_lowerDebt : List Cond := .code yX0_lowerDebt cX0_lowerDebt 2 none :: ([.fieldLink RX0 58 "TaperOffice$Household" "debt" "I", .fieldLink RX0 84 "TaperOffice$Household" "takenBack" "I"] ++ wsX00)
def wsX0_settle_r1 : List Cond := [Cond.fieldLink RX0 58 "TaperOffice$Household" "debt" "I", Cond.fieldLink RX0 9 "TaperOffice$Household" "firstMonth" "I", Cond.fieldLink RX0 23 "TaperOffice$Household" "assessments" "[I", Cond.fieldLink RX0 27 "TaperOffice$Household" "payments" "[I", Cond.methodLink RX0 77 yX0_paymentIn, Cond.instanceMethod yX0_paymentIn, Cond.selects RX0 yX0_paymentIn yX0_paymentIn, Cond.initialized RX0, Cond.code yX0_paymentIn cX0_paymentIn 4 (some .int), Cond.methodLink RX0 65 yX0_unassessedBefore, Cond.instanceMethod yX0_unassessedBefore, Cond.selects RX0 yX0_unassessedBefore yX0_unassessedBefore, Cond.code yX0_unassessedBefore cX0_unassessedBefore 4 (some .int), Cond.methodLink RX0 55 yX0_dueIn, Cond.instanceMethod yX0_dueIn, Cond.selects RX0 yX0_dueIn yX0_dueIn, Cond.code yX0_dueIn cX0_dueIn 3 (some .int), Cond.fieldLink RX0 17 "TaperOffice$Household" "values" "[[I", Cond.constant RX0 44 (1600000), Cond.methodLink RX0 45 yX0_needIn, Cond.instanceMethod yX0_needIn, Cond.selects RX0 yX0_needIn yX0_needIn, Cond.code yX0_needIn cX0_needIn 3 (some .int), Cond.constant RX0 33 (60000)]
def wsX0_settle_r2 : List Cond := [Cond.methodLink RX0 34 Lib.Math.min.name, Cond.static Lib.Math.min.name, Cond.initialized "java/lang/Math", Cond.code Lib.Math.min.name Lib.Math.min.code 2 (some .int), Cond.methodLink RX0 49 yX0_taperIn, Cond.instanceMethod yX0_taperIn, Cond.selects RX0 yX0_taperIn yX0_taperIn, Cond.code yX0_taperIn cX0_taperIn 3 (some .int), Cond.methodLink RX0 40 Lib.Math.max.name, Cond.static Lib.Math.max.name, Cond.code Lib.Math.max.name Lib.Math.max.code 2 (some .int), Cond.methodLink RX0 52 yX0_tariffIn, Cond.instanceMethod yX0_tariffIn, Cond.selects RX0 yX0_tariffIn yX0_tariffIn, Cond.code yX0_tariffIn cX0_tariffIn 4 (some .int), Cond.constant RX0 43 (600000), Cond.methodLink RX0 68 yX0_owedAfter, Cond.instanceMethod yX0_owedAfter, Cond.selects RX0 yX0_owedAfter yX0_owedAfter, Cond.code yX0_owedAfter cX0_owedAfter 2 (some .int), Cond.methodLink RX0 71 yX0_recoverableIn, Cond.instanceMethod yX0_recoverableIn, Cond.selects RX0 yX0_recoverableIn yX0_recoverableIn, Cond.code yX0_recoverableIn cX0_recoverableIn 6 (some .int)]
def wsX0_settle_r3 : List Cond := [Cond.fieldLink RX0 61 "TaperOffice$Household" "disputes" "Z", Cond.methodLink RX0 74 yX0_arrearsOf, Cond.instanceMethod yX0_arrearsOf, Cond.selects RX0 yX0_arrearsOf yX0_arrearsOf, Cond.code yX0_arrearsOf cX0_arrearsOf 2 (some .int), Cond.methodLink RX0 80 yX0_lowerDebt, Cond.instanceMethod yX0_lowerDebt, Cond.selects RX0 yX0_lowerDebt yX0_lowerDebt, Cond.code yX0_lowerDebt cX0_lowerDebt 2 none, Cond.fieldLink RX0 84 "TaperOffice$Household" "takenBack" "I"]
def wsX0_settle : List Cond := .code yX0_settle cX0_settle 4 (some .int) :: ((wsX0_settle_r1 ++ (wsX0_settle_r2 ++ wsX0_settle_r3)) ++ wsX00)
def wsX1_init : List Cond := .code yX1_init cX1_init 1 none :: ([.methodLink RX1 1 objectInit, .instanceMethod objectInit, .code objectInit ⟨#[0xb1]⟩ 1 none, .classLink RX1 9 RX0, .fieldLink RX1 11 "TaperOffice" "rows" "[LTaperOffice$Household;", .fieldLink RX1 15 "TaperOffice" "added" "I", .fieldLink RX1 19 "TaperOffice" "current" "I"] ++ wsX10)
def wsX1_add : List Cond := .code yX1_add cX1_add 2 (some .int) :: ([.classLink RX1 22 "java/lang/IllegalStateException", .initialized "java/lang/IllegalStateException", .fieldLink RX1 15 "TaperOffice" "added" "I", .fieldLink RX1 11 "TaperOffice" "rows" "[LTaperOffice$Household;", .fieldLink RX1 19 "TaperOffice" "current" "I", .classLink RX1 9 RX0, .instantiable RX0 9, .initialized RX0, .instanceMethod yX0_init, .code yX0_init cX0_init 3 none, .methodLink RX0 3 objectInit, .instanceMethod objectInit, .code objectInit ⟨#[0xb1]⟩ 1 none, .fieldLink RX0 9 "TaperOffice$Household" "firstMonth" "I", .classLink RX0 15 "[[I", .arrayClass .int, .fieldLink RX0 17 "TaperOffice$Household" "values" "[[I", .fieldLink RX0 20 "TaperOffice$Household" "since" "[[I", .fieldLink RX0 23 "TaperOffice$Household" "assessments" "[I", .fieldLink RX0 27 "TaperOffice$Household" "payments" "[I"] ++ wsX10 ++ wsX00 ++ (vx_atS RX1 26 "java/lang/IllegalStateException" ["java/lang/RuntimeException", "java/lang/Exception"]).filter goodWord)
def wsX1_existing : List Cond := .code yX1_existing cX1_existing 3 (some (.object "TaperOffice$Household")) :: ([.classLink RX1 120 "java/lang/IndexOutOfBoundsException", .initialized "java/lang/IndexOutOfBoundsException", .fieldLink RX1 11 "TaperOffice" "rows" "[LTaperOffice$Household;"] ++ wsX10 ++ (vx_atS RX1 124 "java/lang/IndexOutOfBoundsException" ["java/lang/RuntimeException", "java/lang/Exception"]).filter goodWord)
def wsX1_checkFact : List Cond := .code yX1_checkFact cX1_checkFact 1 none :: ([.classLink RX1 41 "java/lang/IllegalArgumentException", .initialized "java/lang/IllegalArgumentException"] ++ (vx_atS RX1 45 "java/lang/IllegalArgumentException" ["java/lang/RuntimeException", "java/lang/Exception"]).filter goodWord)
def wsX1_monthCountedFrom : List Cond := .code yX1_monthCountedFrom cX1_monthCountedFrom 2 (some .int) :: ([])
def wsX1_tell_r1 : List Cond := [Cond.classLink RX1 41 "java/lang/IllegalArgumentException", Cond.initialized "java/lang/IllegalArgumentException", Cond.classLink RX1 22 "java/lang/IllegalStateException", Cond.initialized "java/lang/IllegalStateException", Cond.fieldLink RX1 46 "TaperOffice" "LEAST_VALUES" "[I", Cond.fieldLink RX1 50 "TaperOffice" "MOST_VALUES" "[I", Cond.methodLink RX1 34 yX1_existing, Cond.instanceMethod yX1_existing, Cond.selects RX1 yX1_existing yX1_existing, Cond.initialized RX1, Cond.code yX1_existing cX1_existing 3 (some (.object "TaperOffice$Household")), Cond.classLink RX1 120 "java/lang/IndexOutOfBoundsException", Cond.initialized "java/lang/IndexOutOfBoundsException", Cond.fieldLink RX1 11 "TaperOffice" "rows" "[LTaperOffice$Household;", Cond.methodLink RX1 38 yX1_checkFact, Cond.static yX1_checkFact, Cond.code yX1_checkFact cX1_checkFact 1 none, Cond.methodLink RX1 60 yX1_monthCountedFrom, Cond.static yX1_monthCountedFrom, Cond.code yX1_monthCountedFrom cX1_monthCountedFrom 2 (some .int), Cond.instanceMethod yX0_change, Cond.initialized RX0, Cond.selects RX0 yX0_change yX0_change, Cond.code yX0_change cX0_change 5 none]
def wsX1_tell_r2 : List Cond := [Cond.fieldLink RX0 30 "TaperOffice$Household" "changes" "I", Cond.fieldLink RX0 20 "TaperOffice$Household" "since" "[[I", Cond.fieldLink RX0 17 "TaperOffice$Household" "values" "[[I"]
def wsX1_tell : List Cond := .code yX1_tell cX1_tell 7 (some .int) :: ((wsX1_tell_r1 ++ wsX1_tell_r2) ++ wsX00 ++ wsX10 ++ (vx_atS RX1 45 "java/lang/IllegalArgumentException" ["java/lang/RuntimeException", "java/lang/Exception"]).filter goodWord ++ (vx_atS RX1 26 "java/lang/IllegalStateException" ["java/lang/RuntimeException", "java/lang/Exception"]).filter goodWord ++ (vx_atS RX1 124 "java/lang/IndexOutOfBoundsException" ["java/lang/RuntimeException", "java/lang/Exception"]).filter goodWord)
def wsX1_dispute : List Cond := .code yX1_dispute cX1_dispute 5 (some .boolean) :: ([.methodLink RX1 34 yX1_existing, .instanceMethod yX1_existing, .selects RX1 yX1_existing yX1_existing, .initialized RX1, .code yX1_existing cX1_existing 3 (some (.object "TaperOffice$Household")), .classLink RX1 120 "java/lang/IndexOutOfBoundsException", .initialized "java/lang/IndexOutOfBoundsException", .fieldLink RX1 11 "TaperOffice" "rows" "[LTaperOffice$Household;"] ++ wsX00 ++ wsX10 ++ (vx_atS RX1 124 "java/lang/IndexOutOfBoundsException" ["java/lang/RuntimeException", "java/lang/Exception"]).filter goodWord)
def wsX1_payBack : List Cond := .code yX1_payBack cX1_payBack 4 (some .int) :: ([.classLink RX1 41 "java/lang/IllegalArgumentException", .initialized "java/lang/IllegalArgumentException", .classLink RX1 22 "java/lang/IllegalStateException", .initialized "java/lang/IllegalStateException", .constant RX1 72 (1000000), .methodLink RX1 34 yX1_existing, .instanceMethod yX1_existing, .selects RX1 yX1_existing yX1_existing, .initialized RX1, .code yX1_existing cX1_existing 3 (some (.object "TaperOffice$Household")), .classLink RX1 120 "java/lang/IndexOutOfBoundsException", .initialized "java/lang/IndexOutOfBoundsException", .fieldLink RX1 11 "TaperOffice" "rows" "[LTaperOffice$Household;", .instanceMethod yX0_lowerDebt, .initialized RX0, .selects RX0 yX0_lowerDebt yX0_lowerDebt, .code yX0_lowerDebt cX0_lowerDebt 2 none, .fieldLink RX0 58 "TaperOffice$Household" "debt" "I", .fieldLink RX0 84 "TaperOffice$Household" "takenBack" "I"] ++ wsX00 ++ wsX10 ++ (vx_atS RX1 45 "java/lang/IllegalArgumentException" ["java/lang/RuntimeException", "java/lang/Exception"]).filter goodWord ++ (vx_atS RX1 26 "java/lang/IllegalStateException" ["java/lang/RuntimeException", "java/lang/Exception"]).filter goodWord ++ (vx_atS RX1 124 "java/lang/IndexOutOfBoundsException" ["java/lang/RuntimeException", "java/lang/Exception"]).filter goodWord)
def wsX1_households : List Cond := .code yX1_households cX1_households 1 (some .int) :: ([.fieldLink RX1 15 "TaperOffice" "added" "I"] ++ wsX10)
def wsX1_close_r1 : List Cond := [Cond.classLink RX1 22 "java/lang/IllegalStateException", Cond.initialized "java/lang/IllegalStateException", Cond.fieldLink RX1 19 "TaperOffice" "current" "I", Cond.fieldLink RX1 11 "TaperOffice" "rows" "[LTaperOffice$Household;", Cond.instanceMethod yX0_settle, Cond.initialized RX0, Cond.selects RX0 yX0_settle yX0_settle, Cond.code yX0_settle cX0_settle 4 (some .int), Cond.fieldLink RX0 58 "TaperOffice$Household" "debt" "I", Cond.fieldLink RX0 9 "TaperOffice$Household" "firstMonth" "I", Cond.fieldLink RX0 23 "TaperOffice$Household" "assessments" "[I", Cond.fieldLink RX0 27 "TaperOffice$Household" "payments" "[I", Cond.methodLink RX0 77 yX0_paymentIn, Cond.instanceMethod yX0_paymentIn, Cond.selects RX0 yX0_paymentIn yX0_paymentIn, Cond.code yX0_paymentIn cX0_paymentIn 4 (some .int), Cond.methodLink RX0 65 yX0_unassessedBefore, Cond.instanceMethod yX0_unassessedBefore, Cond.selects RX0 yX0_unassessedBefore yX0_unassessedBefore, Cond.code yX0_unassessedBefore cX0_unassessedBefore 4 (some .int), Cond.methodLink RX0 55 yX0_dueIn, Cond.instanceMethod yX0_dueIn, Cond.selects RX0 yX0_dueIn yX0_dueIn, Cond.code yX0_dueIn cX0_dueIn 3 (some .int)]
def wsX1_close_r2 : List Cond := [Cond.fieldLink RX0 17 "TaperOffice$Household" "values" "[[I", Cond.constant RX0 44 (1600000), Cond.methodLink RX0 45 yX0_needIn, Cond.instanceMethod yX0_needIn, Cond.selects RX0 yX0_needIn yX0_needIn, Cond.code yX0_needIn cX0_needIn 3 (some .int), Cond.constant RX0 33 (60000), Cond.methodLink RX0 34 Lib.Math.min.name, Cond.static Lib.Math.min.name, Cond.initialized "java/lang/Math", Cond.code Lib.Math.min.name Lib.Math.min.code 2 (some .int), Cond.methodLink RX0 49 yX0_taperIn, Cond.instanceMethod yX0_taperIn, Cond.selects RX0 yX0_taperIn yX0_taperIn, Cond.code yX0_taperIn cX0_taperIn 3 (some .int), Cond.methodLink RX0 40 Lib.Math.max.name, Cond.static Lib.Math.max.name, Cond.code Lib.Math.max.name Lib.Math.max.code 2 (some .int), Cond.methodLink RX0 52 yX0_tariffIn, Cond.instanceMethod yX0_tariffIn, Cond.selects RX0 yX0_tariffIn yX0_tariffIn, Cond.code yX0_tariffIn cX0_tariffIn 4 (some .int), Cond.constant RX0 43 (600000), Cond.methodLink RX0 68 yX0_owedAfter]
def wsX1_close_r3 : List Cond := [Cond.instanceMethod yX0_owedAfter, Cond.selects RX0 yX0_owedAfter yX0_owedAfter, Cond.code yX0_owedAfter cX0_owedAfter 2 (some .int), Cond.methodLink RX0 71 yX0_recoverableIn, Cond.instanceMethod yX0_recoverableIn, Cond.selects RX0 yX0_recoverableIn yX0_recoverableIn, Cond.code yX0_recoverableIn cX0_recoverableIn 6 (some .int), Cond.fieldLink RX0 61 "TaperOffice$Household" "disputes" "Z", Cond.methodLink RX0 74 yX0_arrearsOf, Cond.instanceMethod yX0_arrearsOf, Cond.selects RX0 yX0_arrearsOf yX0_arrearsOf, Cond.code yX0_arrearsOf cX0_arrearsOf 2 (some .int), Cond.methodLink RX0 80 yX0_lowerDebt, Cond.instanceMethod yX0_lowerDebt, Cond.selects RX0 yX0_lowerDebt yX0_lowerDebt, Cond.code yX0_lowerDebt cX0_lowerDebt 2 none, Cond.fieldLink RX0 84 "TaperOffice$Household" "takenBack" "I"]
def wsX1_close : List Cond := .code yX1_close cX1_close 6 (some .int) :: ((wsX1_close_r1 ++ (wsX1_close_r2 ++ wsX1_close_r3)) ++ wsX10 ++ wsX00 ++ (vx_atS RX1 26 "java/lang/IllegalStateException" ["java/lang/RuntimeException", "java/lang/Exception"]).filter goodWord)
def wsX1_month : List Cond := .code yX1_month cX1_month 1 (some .int) :: ([.fieldLink RX1 19 "TaperOffice" "current" "I"] ++ wsX10)
def wsX1_checkMonth : List Cond := .code yX1_checkMonth cX1_checkMonth 1 none :: ([.classLink RX1 120 "java/lang/IndexOutOfBoundsException", .initialized "java/lang/IndexOutOfBoundsException"] ++ (vx_atS RX1 124 "java/lang/IndexOutOfBoundsException" ["java/lang/RuntimeException", "java/lang/Exception"]).filter goodWord)
def wsX1_fact : List Cond := .code yX1_fact cX1_fact 5 (some .int) :: ([.methodLink RX1 34 yX1_existing, .instanceMethod yX1_existing, .selects RX1 yX1_existing yX1_existing, .initialized RX1, .code yX1_existing cX1_existing 3 (some (.object "TaperOffice$Household")), .classLink RX1 120 "java/lang/IndexOutOfBoundsException", .initialized "java/lang/IndexOutOfBoundsException", .fieldLink RX1 11 "TaperOffice" "rows" "[LTaperOffice$Household;", .methodLink RX1 86 yX1_checkMonth, .static yX1_checkMonth, .code yX1_checkMonth cX1_checkMonth 1 none, .methodLink RX1 38 yX1_checkFact, .static yX1_checkFact, .code yX1_checkFact cX1_checkFact 1 none, .classLink RX1 41 "java/lang/IllegalArgumentException", .initialized "java/lang/IllegalArgumentException"] ++ wsX00 ++ wsX10 ++ (vx_atS RX1 124 "java/lang/IndexOutOfBoundsException" ["java/lang/RuntimeException", "java/lang/Exception"]).filter goodWord ++ (vx_atS RX1 45 "java/lang/IllegalArgumentException" ["java/lang/RuntimeException", "java/lang/Exception"]).filter goodWord)
def wsX1_need : List Cond := .code yX1_need cX1_need 4 (some .int) :: ([.methodLink RX1 34 yX1_existing, .instanceMethod yX1_existing, .selects RX1 yX1_existing yX1_existing, .initialized RX1, .code yX1_existing cX1_existing 3 (some (.object "TaperOffice$Household")), .classLink RX1 120 "java/lang/IndexOutOfBoundsException", .initialized "java/lang/IndexOutOfBoundsException", .fieldLink RX1 11 "TaperOffice" "rows" "[LTaperOffice$Household;", .methodLink RX1 86 yX1_checkMonth, .static yX1_checkMonth, .code yX1_checkMonth cX1_checkMonth 1 none, .instanceMethod yX0_needIn, .initialized RX0, .selects RX0 yX0_needIn yX0_needIn, .code yX0_needIn cX0_needIn 3 (some .int), .fieldLink RX0 17 "TaperOffice$Household" "values" "[[I", .constant RX0 33 (60000), .methodLink RX0 34 Lib.Math.min.name, .static Lib.Math.min.name, .initialized "java/lang/Math", .code Lib.Math.min.name Lib.Math.min.code 2 (some .int)] ++ wsX10 ++ wsX00 ++ (vx_atS RX1 124 "java/lang/IndexOutOfBoundsException" ["java/lang/RuntimeException", "java/lang/Exception"]).filter goodWord)
def wsX1_taper : List Cond := .code yX1_taper cX1_taper 4 (some .int) :: ([.methodLink RX1 34 yX1_existing, .instanceMethod yX1_existing, .selects RX1 yX1_existing yX1_existing, .initialized RX1, .code yX1_existing cX1_existing 3 (some (.object "TaperOffice$Household")), .classLink RX1 120 "java/lang/IndexOutOfBoundsException", .initialized "java/lang/IndexOutOfBoundsException", .fieldLink RX1 11 "TaperOffice" "rows" "[LTaperOffice$Household;", .methodLink RX1 86 yX1_checkMonth, .static yX1_checkMonth, .code yX1_checkMonth cX1_checkMonth 1 none, .instanceMethod yX0_taperIn, .initialized RX0, .selects RX0 yX0_taperIn yX0_taperIn, .code yX0_taperIn cX0_taperIn 3 (some .int), .fieldLink RX0 17 "TaperOffice$Household" "values" "[[I", .methodLink RX0 40 Lib.Math.max.name, .static Lib.Math.max.name, .initialized "java/lang/Math", .code Lib.Math.max.name Lib.Math.max.code 2 (some .int)] ++ wsX10 ++ wsX00 ++ (vx_atS RX1 124 "java/lang/IndexOutOfBoundsException" ["java/lang/RuntimeException", "java/lang/Exception"]).filter goodWord)
def wsX1_tariff : List Cond := .code yX1_tariff cX1_tariff 4 (some .int) :: ([.methodLink RX1 34 yX1_existing, .instanceMethod yX1_existing, .selects RX1 yX1_existing yX1_existing, .initialized RX1, .code yX1_existing cX1_existing 3 (some (.object "TaperOffice$Household")), .classLink RX1 120 "java/lang/IndexOutOfBoundsException", .initialized "java/lang/IndexOutOfBoundsException", .fieldLink RX1 11 "TaperOffice" "rows" "[LTaperOffice$Household;", .methodLink RX1 86 yX1_checkMonth, .static yX1_checkMonth, .code yX1_checkMonth cX1_checkMonth 1 none, .instanceMethod yX0_tariffIn, .initialized RX0, .selects RX0 yX0_tariffIn yX0_tariffIn, .code yX0_tariffIn cX0_tariffIn 4 (some .int), .fieldLink RX0 17 "TaperOffice$Household" "values" "[[I", .constant RX0 43 (600000), .methodLink RX0 40 Lib.Math.max.name, .static Lib.Math.max.name, .initialized "java/lang/Math", .code Lib.Math.max.name Lib.Math.max.code 2 (some .int)] ++ wsX10 ++ wsX00 ++ (vx_atS RX1 124 "java/lang/IndexOutOfBoundsException" ["java/lang/RuntimeException", "java/lang/Exception"]).filter goodWord)
def wsX1_due_r1 : List Cond := [Cond.methodLink RX1 34 yX1_existing, Cond.instanceMethod yX1_existing, Cond.selects RX1 yX1_existing yX1_existing, Cond.initialized RX1, Cond.code yX1_existing cX1_existing 3 (some (.object "TaperOffice$Household")), Cond.classLink RX1 120 "java/lang/IndexOutOfBoundsException", Cond.initialized "java/lang/IndexOutOfBoundsException", Cond.fieldLink RX1 11 "TaperOffice" "rows" "[LTaperOffice$Household;", Cond.methodLink RX1 86 yX1_checkMonth, Cond.static yX1_checkMonth, Cond.code yX1_checkMonth cX1_checkMonth 1 none, Cond.instanceMethod yX0_dueIn, Cond.initialized RX0, Cond.selects RX0 yX0_dueIn yX0_dueIn, Cond.code yX0_dueIn cX0_dueIn 3 (some .int), Cond.fieldLink RX0 17 "TaperOffice$Household" "values" "[[I", Cond.constant RX0 44 (1600000), Cond.methodLink RX0 45 yX0_needIn, Cond.instanceMethod yX0_needIn, Cond.selects RX0 yX0_needIn yX0_needIn, Cond.code yX0_needIn cX0_needIn 3 (some .int), Cond.constant RX0 33 (60000), Cond.methodLink RX0 34 Lib.Math.min.name, Cond.static Lib.Math.min.name]
def wsX1_due_r2 : List Cond := [Cond.initialized "java/lang/Math", Cond.code Lib.Math.min.name Lib.Math.min.code 2 (some .int), Cond.methodLink RX0 49 yX0_taperIn, Cond.instanceMethod yX0_taperIn, Cond.selects RX0 yX0_taperIn yX0_taperIn, Cond.code yX0_taperIn cX0_taperIn 3 (some .int), Cond.methodLink RX0 40 Lib.Math.max.name, Cond.static Lib.Math.max.name, Cond.code Lib.Math.max.name Lib.Math.max.code 2 (some .int), Cond.methodLink RX0 52 yX0_tariffIn, Cond.instanceMethod yX0_tariffIn, Cond.selects RX0 yX0_tariffIn yX0_tariffIn, Cond.code yX0_tariffIn cX0_tariffIn 4 (some .int), Cond.constant RX0 43 (600000)]
def wsX1_due : List Cond := .code yX1_due cX1_due 4 (some .int) :: ((wsX1_due_r1 ++ wsX1_due_r2) ++ wsX10 ++ wsX00 ++ (vx_atS RX1 124 "java/lang/IndexOutOfBoundsException" ["java/lang/RuntimeException", "java/lang/Exception"]).filter goodWord)
def wsX1_unassessed_r1 : List Cond := [Cond.fieldLink RX1 19 "TaperOffice" "current" "I", Cond.methodLink RX1 34 yX1_existing, Cond.instanceMethod yX1_existing, Cond.selects RX1 yX1_existing yX1_existing, Cond.initialized RX1, Cond.code yX1_existing cX1_existing 3 (some (.object "TaperOffice$Household")), Cond.classLink RX1 120 "java/lang/IndexOutOfBoundsException", Cond.initialized "java/lang/IndexOutOfBoundsException", Cond.fieldLink RX1 11 "TaperOffice" "rows" "[LTaperOffice$Household;", Cond.instanceMethod yX0_unassessedBefore, Cond.initialized RX0, Cond.selects RX0 yX0_unassessedBefore yX0_unassessedBefore, Cond.code yX0_unassessedBefore cX0_unassessedBefore 4 (some .int), Cond.fieldLink RX0 9 "TaperOffice$Household" "firstMonth" "I", Cond.fieldLink RX0 23 "TaperOffice$Household" "assessments" "[I", Cond.methodLink RX0 55 yX0_dueIn, Cond.instanceMethod yX0_dueIn, Cond.selects RX0 yX0_dueIn yX0_dueIn, Cond.code yX0_dueIn cX0_dueIn 3 (some .int), Cond.fieldLink RX0 17 "TaperOffice$Household" "values" "[[I", Cond.constant RX0 44 (1600000), Cond.methodLink RX0 45 yX0_needIn, Cond.instanceMethod yX0_needIn, Cond.selects RX0 yX0_needIn yX0_needIn]
def wsX1_unassessed_r2 : List Cond := [Cond.code yX0_needIn cX0_needIn 3 (some .int), Cond.constant RX0 33 (60000), Cond.methodLink RX0 34 Lib.Math.min.name, Cond.static Lib.Math.min.name, Cond.initialized "java/lang/Math", Cond.code Lib.Math.min.name Lib.Math.min.code 2 (some .int), Cond.methodLink RX0 49 yX0_taperIn, Cond.instanceMethod yX0_taperIn, Cond.selects RX0 yX0_taperIn yX0_taperIn, Cond.code yX0_taperIn cX0_taperIn 3 (some .int), Cond.methodLink RX0 40 Lib.Math.max.name, Cond.static Lib.Math.max.name, Cond.code Lib.Math.max.name Lib.Math.max.code 2 (some .int), Cond.methodLink RX0 52 yX0_tariffIn, Cond.instanceMethod yX0_tariffIn, Cond.selects RX0 yX0_tariffIn yX0_tariffIn, Cond.code yX0_tariffIn cX0_tariffIn 4 (some .int), Cond.constant RX0 43 (600000)]
def wsX1_unassessed : List Cond := .code yX1_unassessed cX1_unassessed 2 (some .int) :: ((wsX1_unassessed_r1 ++ wsX1_unassessed_r2) ++ wsX10 ++ wsX00 ++ (vx_atS RX1 124 "java/lang/IndexOutOfBoundsException" ["java/lang/RuntimeException", "java/lang/Exception"]).filter goodWord)
def wsX1_wouldPay_r1 : List Cond := [Cond.fieldLink RX1 19 "TaperOffice" "current" "I", Cond.methodLink RX1 34 yX1_existing, Cond.instanceMethod yX1_existing, Cond.selects RX1 yX1_existing yX1_existing, Cond.initialized RX1, Cond.code yX1_existing cX1_existing 3 (some (.object "TaperOffice$Household")), Cond.classLink RX1 120 "java/lang/IndexOutOfBoundsException", Cond.initialized "java/lang/IndexOutOfBoundsException", Cond.fieldLink RX1 11 "TaperOffice" "rows" "[LTaperOffice$Household;", Cond.instanceMethod yX0_paymentIn, Cond.initialized RX0, Cond.selects RX0 yX0_paymentIn yX0_paymentIn, Cond.code yX0_paymentIn cX0_paymentIn 4 (some .int), Cond.methodLink RX0 65 yX0_unassessedBefore, Cond.instanceMethod yX0_unassessedBefore, Cond.selects RX0 yX0_unassessedBefore yX0_unassessedBefore, Cond.code yX0_unassessedBefore cX0_unassessedBefore 4 (some .int), Cond.fieldLink RX0 9 "TaperOffice$Household" "firstMonth" "I", Cond.fieldLink RX0 23 "TaperOffice$Household" "assessments" "[I", Cond.methodLink RX0 55 yX0_dueIn, Cond.instanceMethod yX0_dueIn, Cond.selects RX0 yX0_dueIn yX0_dueIn, Cond.code yX0_dueIn cX0_dueIn 3 (some .int), Cond.fieldLink RX0 17 "TaperOffice$Household" "values" "[[I"]
def wsX1_wouldPay_r2 : List Cond := [Cond.constant RX0 44 (1600000), Cond.methodLink RX0 45 yX0_needIn, Cond.instanceMethod yX0_needIn, Cond.selects RX0 yX0_needIn yX0_needIn, Cond.code yX0_needIn cX0_needIn 3 (some .int), Cond.constant RX0 33 (60000), Cond.methodLink RX0 34 Lib.Math.min.name, Cond.static Lib.Math.min.name, Cond.initialized "java/lang/Math", Cond.code Lib.Math.min.name Lib.Math.min.code 2 (some .int), Cond.methodLink RX0 49 yX0_taperIn, Cond.instanceMethod yX0_taperIn, Cond.selects RX0 yX0_taperIn yX0_taperIn, Cond.code yX0_taperIn cX0_taperIn 3 (some .int), Cond.methodLink RX0 40 Lib.Math.max.name, Cond.static Lib.Math.max.name, Cond.code Lib.Math.max.name Lib.Math.max.code 2 (some .int), Cond.methodLink RX0 52 yX0_tariffIn, Cond.instanceMethod yX0_tariffIn, Cond.selects RX0 yX0_tariffIn yX0_tariffIn, Cond.code yX0_tariffIn cX0_tariffIn 4 (some .int), Cond.constant RX0 43 (600000), Cond.methodLink RX0 68 yX0_owedAfter, Cond.instanceMethod yX0_owedAfter]
def wsX1_wouldPay_r3 : List Cond := [Cond.selects RX0 yX0_owedAfter yX0_owedAfter, Cond.code yX0_owedAfter cX0_owedAfter 2 (some .int), Cond.fieldLink RX0 58 "TaperOffice$Household" "debt" "I", Cond.methodLink RX0 71 yX0_recoverableIn, Cond.instanceMethod yX0_recoverableIn, Cond.selects RX0 yX0_recoverableIn yX0_recoverableIn, Cond.code yX0_recoverableIn cX0_recoverableIn 6 (some .int), Cond.fieldLink RX0 61 "TaperOffice$Household" "disputes" "Z", Cond.methodLink RX0 74 yX0_arrearsOf, Cond.instanceMethod yX0_arrearsOf, Cond.selects RX0 yX0_arrearsOf yX0_arrearsOf, Cond.code yX0_arrearsOf cX0_arrearsOf 2 (some .int)]
def wsX1_wouldPay : List Cond := .code yX1_wouldPay cX1_wouldPay 3 (some .int) :: ((wsX1_wouldPay_r1 ++ (wsX1_wouldPay_r2 ++ wsX1_wouldPay_r3)) ++ wsX10 ++ wsX00 ++ (vx_atS RX1 124 "java/lang/IndexOutOfBoundsException" ["java/lang/RuntimeException", "java/lang/Exception"]).filter goodWord)
def wsX1_assessed : List Cond := .code yX1_assessed cX1_assessed 4 (some .int) :: ([.methodLink RX1 34 yX1_existing, .instanceMethod yX1_existing, .selects RX1 yX1_existing yX1_existing, .initialized RX1, .code yX1_existing cX1_existing 3 (some (.object "TaperOffice$Household")), .classLink RX1 120 "java/lang/IndexOutOfBoundsException", .initialized "java/lang/IndexOutOfBoundsException", .fieldLink RX1 11 "TaperOffice" "rows" "[LTaperOffice$Household;", .methodLink RX1 86 yX1_checkMonth, .static yX1_checkMonth, .code yX1_checkMonth cX1_checkMonth 1 none] ++ wsX00 ++ wsX10 ++ (vx_atS RX1 124 "java/lang/IndexOutOfBoundsException" ["java/lang/RuntimeException", "java/lang/Exception"]).filter goodWord)
def wsX1_paid : List Cond := .code yX1_paid cX1_paid 4 (some .int) :: ([.methodLink RX1 34 yX1_existing, .instanceMethod yX1_existing, .selects RX1 yX1_existing yX1_existing, .initialized RX1, .code yX1_existing cX1_existing 3 (some (.object "TaperOffice$Household")), .classLink RX1 120 "java/lang/IndexOutOfBoundsException", .initialized "java/lang/IndexOutOfBoundsException", .fieldLink RX1 11 "TaperOffice" "rows" "[LTaperOffice$Household;", .methodLink RX1 86 yX1_checkMonth, .static yX1_checkMonth, .code yX1_checkMonth cX1_checkMonth 1 none] ++ wsX00 ++ wsX10 ++ (vx_atS RX1 124 "java/lang/IndexOutOfBoundsException" ["java/lang/RuntimeException", "java/lang/Exception"]).filter goodWord)
def wsX1_debt : List Cond := .code yX1_debt cX1_debt 2 (some .int) :: ([.methodLink RX1 34 yX1_existing, .instanceMethod yX1_existing, .selects RX1 yX1_existing yX1_existing, .initialized RX1, .code yX1_existing cX1_existing 3 (some (.object "TaperOffice$Household")), .classLink RX1 120 "java/lang/IndexOutOfBoundsException", .initialized "java/lang/IndexOutOfBoundsException", .fieldLink RX1 11 "TaperOffice" "rows" "[LTaperOffice$Household;"] ++ wsX00 ++ wsX10 ++ (vx_atS RX1 124 "java/lang/IndexOutOfBoundsException" ["java/lang/RuntimeException", "java/lang/Exception"]).filter goodWord)
def wsX1_recovered : List Cond := .code yX1_recovered cX1_recovered 2 (some .int) :: ([.methodLink RX1 34 yX1_existing, .instanceMethod yX1_existing, .selects RX1 yX1_existing yX1_existing, .initialized RX1, .code yX1_existing cX1_existing 3 (some (.object "TaperOffice$Household")), .classLink RX1 120 "java/lang/IndexOutOfBoundsException", .initialized "java/lang/IndexOutOfBoundsException", .fieldLink RX1 11 "TaperOffice" "rows" "[LTaperOffice$Household;"] ++ wsX00 ++ wsX10 ++ (vx_atS RX1 124 "java/lang/IndexOutOfBoundsException" ["java/lang/RuntimeException", "java/lang/Exception"]).filter goodWord)
def wsJ9_max_7cf53 : List Cond := .code yJ9_max_7cf53 cJ9_max_7cf53 2 (some .int) :: ([])
def wsJ9_min_7cf53 : List Cond := .code yJ9_min_7cf53 cJ9_min_7cf53 2 (some .int) :: ([])
def wsL_cell : List Cond := .code yL_cell cL_cell 2 (some .int) :: ([.constant RL 7 (47123), .constant RL 8 (1993463)])
def wsL_low : List Cond := .code yL_low cL_low 2 (some .int) :: ([.constant RL 9 (2147483647)])
def wsL_calls_r1 : List Cond := [Cond.classLink RL 27 "java/lang/IllegalStateException", Cond.methodLink RL 10 yX1_add, Cond.instanceMethod yX1_add, Cond.selects RX1 yX1_add yX1_add, Cond.initialized RX1, Cond.code yX1_add cX1_add 2 (some .int), Cond.classLink RX1 22 "java/lang/IllegalStateException", Cond.initialized "java/lang/IllegalStateException", Cond.fieldLink RX1 15 "TaperOffice" "added" "I", Cond.fieldLink RX1 11 "TaperOffice" "rows" "[LTaperOffice$Household;", Cond.fieldLink RX1 19 "TaperOffice" "current" "I", Cond.classLink RX1 9 RX0, Cond.instantiable RX0 9, Cond.initialized RX0, Cond.instanceMethod yX0_init, Cond.code yX0_init cX0_init 3 none, Cond.methodLink RX0 3 objectInit, Cond.instanceMethod objectInit, Cond.code objectInit ⟨#[0xb1]⟩ 1 none, Cond.fieldLink RX0 9 "TaperOffice$Household" "firstMonth" "I", Cond.classLink RX0 15 "[[I", Cond.arrayClass .int, Cond.fieldLink RX0 17 "TaperOffice$Household" "values" "[[I", Cond.fieldLink RX0 20 "TaperOffice$Household" "since" "[[I"]
def wsL_calls_r2 : List Cond := [Cond.fieldLink RX0 23 "TaperOffice$Household" "assessments" "[I", Cond.fieldLink RX0 27 "TaperOffice$Household" "payments" "[I", Cond.methodLink RL 16 yX1_tell, Cond.instanceMethod yX1_tell, Cond.selects RX1 yX1_tell yX1_tell, Cond.code yX1_tell cX1_tell 7 (some .int), Cond.classLink RX1 41 "java/lang/IllegalArgumentException", Cond.initialized "java/lang/IllegalArgumentException", Cond.fieldLink RX1 46 "TaperOffice" "LEAST_VALUES" "[I", Cond.fieldLink RX1 50 "TaperOffice" "MOST_VALUES" "[I", Cond.methodLink RX1 34 yX1_existing, Cond.instanceMethod yX1_existing, Cond.selects RX1 yX1_existing yX1_existing, Cond.code yX1_existing cX1_existing 3 (some (.object "TaperOffice$Household")), Cond.classLink RX1 120 "java/lang/IndexOutOfBoundsException", Cond.initialized "java/lang/IndexOutOfBoundsException", Cond.methodLink RX1 38 yX1_checkFact, Cond.static yX1_checkFact, Cond.code yX1_checkFact cX1_checkFact 1 none, Cond.methodLink RX1 60 yX1_monthCountedFrom, Cond.static yX1_monthCountedFrom, Cond.code yX1_monthCountedFrom cX1_monthCountedFrom 2 (some .int), Cond.instanceMethod yX0_change, Cond.selects RX0 yX0_change yX0_change]
def wsL_calls_r3 : List Cond := [Cond.code yX0_change cX0_change 5 none, Cond.fieldLink RX0 30 "TaperOffice$Household" "changes" "I", Cond.methodLink RL 20 yX1_payBack, Cond.instanceMethod yX1_payBack, Cond.selects RX1 yX1_payBack yX1_payBack, Cond.code yX1_payBack cX1_payBack 4 (some .int), Cond.constant RX1 72 (1000000), Cond.instanceMethod yX0_lowerDebt, Cond.selects RX0 yX0_lowerDebt yX0_lowerDebt, Cond.code yX0_lowerDebt cX0_lowerDebt 2 none, Cond.fieldLink RX0 58 "TaperOffice$Household" "debt" "I", Cond.fieldLink RX0 84 "TaperOffice$Household" "takenBack" "I", Cond.methodLink RL 24 yX1_close, Cond.instanceMethod yX1_close, Cond.selects RX1 yX1_close yX1_close, Cond.code yX1_close cX1_close 6 (some .int), Cond.instanceMethod yX0_settle, Cond.selects RX0 yX0_settle yX0_settle, Cond.code yX0_settle cX0_settle 4 (some .int), Cond.methodLink RX0 77 yX0_paymentIn, Cond.instanceMethod yX0_paymentIn, Cond.selects RX0 yX0_paymentIn yX0_paymentIn, Cond.code yX0_paymentIn cX0_paymentIn 4 (some .int), Cond.methodLink RX0 65 yX0_unassessedBefore]
def wsL_calls_r4 : List Cond := [Cond.instanceMethod yX0_unassessedBefore, Cond.selects RX0 yX0_unassessedBefore yX0_unassessedBefore, Cond.code yX0_unassessedBefore cX0_unassessedBefore 4 (some .int), Cond.methodLink RX0 55 yX0_dueIn, Cond.instanceMethod yX0_dueIn, Cond.selects RX0 yX0_dueIn yX0_dueIn, Cond.code yX0_dueIn cX0_dueIn 3 (some .int), Cond.constant RX0 44 (1600000), Cond.methodLink RX0 45 yX0_needIn, Cond.instanceMethod yX0_needIn, Cond.selects RX0 yX0_needIn yX0_needIn, Cond.code yX0_needIn cX0_needIn 3 (some .int), Cond.constant RX0 33 (60000), Cond.methodLink RX0 34 Lib.Math.min.name, Cond.static Lib.Math.min.name, Cond.initialized "java/lang/Math", Cond.code Lib.Math.min.name Lib.Math.min.code 2 (some .int), Cond.methodLink RX0 49 yX0_taperIn, Cond.instanceMethod yX0_taperIn, Cond.selects RX0 yX0_taperIn yX0_taperIn, Cond.code yX0_taperIn cX0_taperIn 3 (some .int), Cond.methodLink RX0 40 Lib.Math.max.name, Cond.static Lib.Math.max.name, Cond.code Lib.Math.max.name Lib.Math.max.code 2 (some .int)]
def wsL_calls_r5 : List Cond := [Cond.methodLink RX0 52 yX0_tariffIn, Cond.instanceMethod yX0_tariffIn, Cond.selects RX0 yX0_tariffIn yX0_tariffIn, Cond.code yX0_tariffIn cX0_tariffIn 4 (some .int), Cond.constant RX0 43 (600000), Cond.methodLink RX0 68 yX0_owedAfter, Cond.instanceMethod yX0_owedAfter, Cond.selects RX0 yX0_owedAfter yX0_owedAfter, Cond.code yX0_owedAfter cX0_owedAfter 2 (some .int), Cond.methodLink RX0 71 yX0_recoverableIn, Cond.instanceMethod yX0_recoverableIn, Cond.selects RX0 yX0_recoverableIn yX0_recoverableIn, Cond.code yX0_recoverableIn cX0_recoverableIn 6 (some .int), Cond.fieldLink RX0 61 "TaperOffice$Household" "disputes" "Z", Cond.methodLink RX0 74 yX0_arrearsOf, Cond.instanceMethod yX0_arrearsOf, Cond.selects RX0 yX0_arrearsOf yX0_arrearsOf, Cond.code yX0_arrearsOf cX0_arrearsOf 2 (some .int), Cond.methodLink RX0 80 yX0_lowerDebt]
def wsL_calls : List Cond := .codeWith yL_calls cL_calls 7 (some .int) [(0, 47, 48, 27)] :: ((wsL_calls_r1 ++ (wsL_calls_r2 ++ (wsL_calls_r3 ++ (wsL_calls_r4 ++ wsL_calls_r5)))) ++ wsX10 ++ wsX00 ++ (vx_atS RX1 26 "java/lang/IllegalStateException" ["java/lang/RuntimeException", "java/lang/Exception"]).filter goodWord ++ (vx_atS RX1 45 "java/lang/IllegalArgumentException" ["java/lang/RuntimeException", "java/lang/Exception"]).filter goodWord ++ (vx_atS RX1 124 "java/lang/IndexOutOfBoundsException" ["java/lang/RuntimeException", "java/lang/Exception"]).filter goodWord)
def wsL_fact : List Cond := .code yL_fact cL_fact 11 (some .int) :: ([])
def wsL_need : List Cond := .code yL_need cL_need 6 (some .int) :: ([.constant RL 35 (60000), .methodLink RL 29 yL_fact, .static yL_fact, .initialized RL, .code yL_fact cL_fact 11 (some .int)])
def wsL_taper : List Cond := .code yL_taper cL_taper 6 (some .int) :: ([.constantLong RL 36 (20000), .constantLong RL 38 (3), .constantLong RL 40 (5), .methodLink RL 29 yL_fact, .static yL_fact, .initialized RL, .code yL_fact cL_fact 11 (some .int)])
def wsL_tariff : List Cond := .code yL_tariff cL_tariff 7 (some .int) :: ([.constant RL 42 (600000), .methodLink RL 29 yL_fact, .static yL_fact, .initialized RL, .code yL_fact cL_fact 11 (some .int)])
def wsL_due : List Cond := .code yL_due cL_due 6 (some .int) :: ([.constant RL 53 (1600000), .methodLink RL 43 yL_need, .static yL_need, .initialized RL, .code yL_need cL_need 6 (some .int), .constant RL 35 (60000), .methodLink RL 29 yL_fact, .static yL_fact, .code yL_fact cL_fact 11 (some .int), .methodLink RL 47 yL_taper, .static yL_taper, .code yL_taper cL_taper 6 (some .int), .constantLong RL 36 (20000), .constantLong RL 38 (3), .constantLong RL 40 (5), .methodLink RL 50 yL_tariff, .static yL_tariff, .code yL_tariff cL_tariff 7 (some .int), .constant RL 42 (600000)])
def wsL_open : List Cond := .code yL_open cL_open 7 (some .int) :: ([.methodLink RL 54 yL_due, .static yL_due, .initialized RL, .code yL_due cL_due 6 (some .int), .constant RL 53 (1600000), .methodLink RL 43 yL_need, .static yL_need, .code yL_need cL_need 6 (some .int), .constant RL 35 (60000), .methodLink RL 29 yL_fact, .static yL_fact, .code yL_fact cL_fact 11 (some .int), .methodLink RL 47 yL_taper, .static yL_taper, .code yL_taper cL_taper 6 (some .int), .constantLong RL 36 (20000), .constantLong RL 38 (3), .constantLong RL 40 (5), .methodLink RL 50 yL_tariff, .static yL_tariff, .code yL_tariff cL_tariff 7 (some .int), .constant RL 42 (600000)])
def wsL_recovers : List Cond := .code yL_recovers cL_recovers 9 (some .int) :: ([.methodLink RL 29 yL_fact, .static yL_fact, .initialized RL, .code yL_fact cL_fact 11 (some .int)])
def wsL_debtThen : List Cond := .code yL_debtThen cL_debtThen 4 (some .int) :: ([])
def wsL_pays_r1 : List Cond := [Cond.methodLink RL 57 yL_open, Cond.static yL_open, Cond.initialized RL, Cond.code yL_open cL_open 7 (some .int), Cond.methodLink RL 54 yL_due, Cond.static yL_due, Cond.code yL_due cL_due 6 (some .int), Cond.constant RL 53 (1600000), Cond.methodLink RL 43 yL_need, Cond.static yL_need, Cond.code yL_need cL_need 6 (some .int), Cond.constant RL 35 (60000), Cond.methodLink RL 29 yL_fact, Cond.static yL_fact, Cond.code yL_fact cL_fact 11 (some .int), Cond.methodLink RL 47 yL_taper, Cond.static yL_taper, Cond.code yL_taper cL_taper 6 (some .int), Cond.constantLong RL 36 (20000), Cond.constantLong RL 38 (3), Cond.constantLong RL 40 (5), Cond.methodLink RL 50 yL_tariff, Cond.static yL_tariff, Cond.code yL_tariff cL_tariff 7 (some .int)]
def wsL_pays_r2 : List Cond := [Cond.constant RL 42 (600000), Cond.methodLink RL 61 yL_debtThen, Cond.static yL_debtThen, Cond.code yL_debtThen cL_debtThen 4 (some .int), Cond.methodLink RL 65 yL_recovers, Cond.static yL_recovers, Cond.code yL_recovers cL_recovers 9 (some .int)]
def wsL_pays : List Cond := .code yL_pays cL_pays 9 (some .int) :: ((wsL_pays_r1 ++ wsL_pays_r2))
def wsL_closes_r1 : List Cond := [Cond.methodLink RL 68 yL_pays, Cond.static yL_pays, Cond.initialized RL, Cond.code yL_pays cL_pays 9 (some .int), Cond.methodLink RL 57 yL_open, Cond.static yL_open, Cond.code yL_open cL_open 7 (some .int), Cond.methodLink RL 54 yL_due, Cond.static yL_due, Cond.code yL_due cL_due 6 (some .int), Cond.constant RL 53 (1600000), Cond.methodLink RL 43 yL_need, Cond.static yL_need, Cond.code yL_need cL_need 6 (some .int), Cond.constant RL 35 (60000), Cond.methodLink RL 29 yL_fact, Cond.static yL_fact, Cond.code yL_fact cL_fact 11 (some .int), Cond.methodLink RL 47 yL_taper, Cond.static yL_taper, Cond.code yL_taper cL_taper 6 (some .int), Cond.constantLong RL 36 (20000), Cond.constantLong RL 38 (3), Cond.constantLong RL 40 (5)]
def wsL_closes_r2 : List Cond := [Cond.methodLink RL 50 yL_tariff, Cond.static yL_tariff, Cond.code yL_tariff cL_tariff 7 (some .int), Cond.constant RL 42 (600000), Cond.methodLink RL 61 yL_debtThen, Cond.static yL_debtThen, Cond.code yL_debtThen cL_debtThen 4 (some .int), Cond.methodLink RL 65 yL_recovers, Cond.static yL_recovers, Cond.code yL_recovers cL_recovers 9 (some .int)]
def wsL_closes : List Cond := .code yL_closes cL_closes 10 (some .int) :: ((wsL_closes_r1 ++ wsL_closes_r2))
def wsL_isHome_r1 : List Cond := [Cond.methodLink RL 71 yX1_debt, Cond.instanceMethod yX1_debt, Cond.selects RX1 yX1_debt yX1_debt, Cond.initialized RX1, Cond.code yX1_debt cX1_debt 2 (some .int), Cond.methodLink RX1 34 yX1_existing, Cond.instanceMethod yX1_existing, Cond.selects RX1 yX1_existing yX1_existing, Cond.code yX1_existing cX1_existing 3 (some (.object "TaperOffice$Household")), Cond.classLink RX1 120 "java/lang/IndexOutOfBoundsException", Cond.initialized "java/lang/IndexOutOfBoundsException", Cond.fieldLink RX1 11 "TaperOffice" "rows" "[LTaperOffice$Household;", Cond.methodLink RL 75 yX1_recovered, Cond.instanceMethod yX1_recovered, Cond.selects RX1 yX1_recovered yX1_recovered, Cond.code yX1_recovered cX1_recovered 2 (some .int), Cond.methodLink RL 78 yX1_unassessed, Cond.instanceMethod yX1_unassessed, Cond.selects RX1 yX1_unassessed yX1_unassessed, Cond.code yX1_unassessed cX1_unassessed 2 (some .int), Cond.fieldLink RX1 19 "TaperOffice" "current" "I", Cond.instanceMethod yX0_unassessedBefore, Cond.initialized RX0, Cond.selects RX0 yX0_unassessedBefore yX0_unassessedBefore]
def wsL_isHome_r2 : List Cond := [Cond.code yX0_unassessedBefore cX0_unassessedBefore 4 (some .int), Cond.fieldLink RX0 9 "TaperOffice$Household" "firstMonth" "I", Cond.fieldLink RX0 23 "TaperOffice$Household" "assessments" "[I", Cond.methodLink RX0 55 yX0_dueIn, Cond.instanceMethod yX0_dueIn, Cond.selects RX0 yX0_dueIn yX0_dueIn, Cond.code yX0_dueIn cX0_dueIn 3 (some .int), Cond.fieldLink RX0 17 "TaperOffice$Household" "values" "[[I", Cond.constant RX0 44 (1600000), Cond.methodLink RX0 45 yX0_needIn, Cond.instanceMethod yX0_needIn, Cond.selects RX0 yX0_needIn yX0_needIn, Cond.code yX0_needIn cX0_needIn 3 (some .int), Cond.constant RX0 33 (60000), Cond.methodLink RX0 34 Lib.Math.min.name, Cond.static Lib.Math.min.name, Cond.initialized "java/lang/Math", Cond.code Lib.Math.min.name Lib.Math.min.code 2 (some .int), Cond.methodLink RX0 49 yX0_taperIn, Cond.instanceMethod yX0_taperIn, Cond.selects RX0 yX0_taperIn yX0_taperIn, Cond.code yX0_taperIn cX0_taperIn 3 (some .int), Cond.methodLink RX0 40 Lib.Math.max.name, Cond.static Lib.Math.max.name]
def wsL_isHome_r3 : List Cond := [Cond.code Lib.Math.max.name Lib.Math.max.code 2 (some .int), Cond.methodLink RX0 52 yX0_tariffIn, Cond.instanceMethod yX0_tariffIn, Cond.selects RX0 yX0_tariffIn yX0_tariffIn, Cond.code yX0_tariffIn cX0_tariffIn 4 (some .int), Cond.constant RX0 43 (600000), Cond.methodLink RL 57 yL_open, Cond.static yL_open, Cond.initialized RL, Cond.code yL_open cL_open 7 (some .int), Cond.methodLink RL 54 yL_due, Cond.static yL_due, Cond.code yL_due cL_due 6 (some .int), Cond.constant RL 53 (1600000), Cond.methodLink RL 43 yL_need, Cond.static yL_need, Cond.code yL_need cL_need 6 (some .int), Cond.constant RL 35 (60000), Cond.methodLink RL 29 yL_fact, Cond.static yL_fact, Cond.code yL_fact cL_fact 11 (some .int), Cond.methodLink RL 47 yL_taper, Cond.static yL_taper, Cond.code yL_taper cL_taper 6 (some .int)]
def wsL_isHome_r4 : List Cond := [Cond.constantLong RL 36 (20000), Cond.constantLong RL 38 (3), Cond.constantLong RL 40 (5), Cond.methodLink RL 50 yL_tariff, Cond.static yL_tariff, Cond.code yL_tariff cL_tariff 7 (some .int), Cond.constant RL 42 (600000), Cond.methodLink RL 81 yX1_wouldPay, Cond.instanceMethod yX1_wouldPay, Cond.selects RX1 yX1_wouldPay yX1_wouldPay, Cond.code yX1_wouldPay cX1_wouldPay 3 (some .int), Cond.instanceMethod yX0_paymentIn, Cond.selects RX0 yX0_paymentIn yX0_paymentIn, Cond.code yX0_paymentIn cX0_paymentIn 4 (some .int), Cond.methodLink RX0 65 yX0_unassessedBefore, Cond.methodLink RX0 68 yX0_owedAfter, Cond.instanceMethod yX0_owedAfter, Cond.selects RX0 yX0_owedAfter yX0_owedAfter, Cond.code yX0_owedAfter cX0_owedAfter 2 (some .int), Cond.fieldLink RX0 58 "TaperOffice$Household" "debt" "I", Cond.methodLink RX0 71 yX0_recoverableIn, Cond.instanceMethod yX0_recoverableIn, Cond.selects RX0 yX0_recoverableIn yX0_recoverableIn, Cond.code yX0_recoverableIn cX0_recoverableIn 6 (some .int)]
def wsL_isHome_r5 : List Cond := [Cond.fieldLink RX0 61 "TaperOffice$Household" "disputes" "Z", Cond.methodLink RX0 74 yX0_arrearsOf, Cond.instanceMethod yX0_arrearsOf, Cond.selects RX0 yX0_arrearsOf yX0_arrearsOf, Cond.code yX0_arrearsOf cX0_arrearsOf 2 (some .int), Cond.methodLink RL 68 yL_pays, Cond.static yL_pays, Cond.code yL_pays cL_pays 9 (some .int), Cond.methodLink RL 61 yL_debtThen, Cond.static yL_debtThen, Cond.code yL_debtThen cL_debtThen 4 (some .int), Cond.methodLink RL 65 yL_recovers, Cond.static yL_recovers, Cond.code yL_recovers cL_recovers 9 (some .int), Cond.methodLink RL 84 yX1_assessed, Cond.instanceMethod yX1_assessed, Cond.selects RX1 yX1_assessed yX1_assessed, Cond.code yX1_assessed cX1_assessed 4 (some .int), Cond.methodLink RX1 86 yX1_checkMonth, Cond.static yX1_checkMonth, Cond.code yX1_checkMonth cX1_checkMonth 1 none, Cond.methodLink RL 87 yX1_paid, Cond.instanceMethod yX1_paid, Cond.selects RX1 yX1_paid yX1_paid]
def wsL_isHome_r6 : List Cond := [Cond.code yX1_paid cX1_paid 4 (some .int), Cond.methodLink RL 90 yL_low, Cond.static yL_low, Cond.code yL_low cL_low 2 (some .int), Cond.constant RL 9 (2147483647), Cond.methodLink RL 93 yX1_need, Cond.instanceMethod yX1_need, Cond.selects RX1 yX1_need yX1_need, Cond.code yX1_need cX1_need 4 (some .int), Cond.methodLink RL 95 yX1_taper, Cond.instanceMethod yX1_taper, Cond.selects RX1 yX1_taper yX1_taper, Cond.code yX1_taper cX1_taper 4 (some .int), Cond.methodLink RL 97 yX1_tariff, Cond.instanceMethod yX1_tariff, Cond.selects RX1 yX1_tariff yX1_tariff, Cond.code yX1_tariff cX1_tariff 4 (some .int), Cond.methodLink RL 99 yX1_due, Cond.instanceMethod yX1_due, Cond.selects RX1 yX1_due yX1_due, Cond.code yX1_due cX1_due 4 (some .int), Cond.methodLink RL 101 yX1_fact, Cond.instanceMethod yX1_fact, Cond.selects RX1 yX1_fact yX1_fact]
def wsL_isHome_r7 : List Cond := [Cond.code yX1_fact cX1_fact 5 (some .int), Cond.methodLink RX1 38 yX1_checkFact, Cond.static yX1_checkFact, Cond.code yX1_checkFact cX1_checkFact 1 none, Cond.classLink RX1 41 "java/lang/IllegalArgumentException", Cond.initialized "java/lang/IllegalArgumentException"]
def wsL_isHome : List Cond := .code yL_isHome cL_isHome 12 (some .boolean) :: ((wsL_isHome_r1 ++ (wsL_isHome_r2 ++ (wsL_isHome_r3 ++ (wsL_isHome_r4 ++ (wsL_isHome_r5 ++ (wsL_isHome_r6 ++ wsL_isHome_r7)))))) ++ wsX00 ++ wsX10 ++ (vx_atS RX1 124 "java/lang/IndexOutOfBoundsException" ["java/lang/RuntimeException", "java/lang/Exception"]).filter goodWord ++ (vx_atS RX1 45 "java/lang/IllegalArgumentException" ["java/lang/RuntimeException", "java/lang/Exception"]).filter goodWord)
def wsL_tells_r1 : List Cond := [Cond.constant RL 104 (1000001), Cond.constant RL 105 (70000), Cond.constant RL 106 (90000), Cond.constant RL 107 (10000001), Cond.constant RL 108 (1700000), Cond.methodLink RL 90 yL_low, Cond.static yL_low, Cond.initialized RL, Cond.code yL_low cL_low 2 (some .int), Cond.constant RL 9 (2147483647), Cond.methodLink RL 109 yL_calls, Cond.static yL_calls, Cond.codeWith yL_calls cL_calls 7 (some .int) [(0, 47, 48, 27)], Cond.classLink RL 27 "java/lang/IllegalStateException", Cond.methodLink RL 10 yX1_add, Cond.instanceMethod yX1_add, Cond.selects RX1 yX1_add yX1_add, Cond.initialized RX1, Cond.code yX1_add cX1_add 2 (some .int), Cond.classLink RX1 22 "java/lang/IllegalStateException", Cond.initialized "java/lang/IllegalStateException", Cond.fieldLink RX1 15 "TaperOffice" "added" "I", Cond.fieldLink RX1 11 "TaperOffice" "rows" "[LTaperOffice$Household;", Cond.fieldLink RX1 19 "TaperOffice" "current" "I"]
def wsL_tells_r2 : List Cond := [Cond.classLink RX1 9 RX0, Cond.instantiable RX0 9, Cond.initialized RX0, Cond.instanceMethod yX0_init, Cond.code yX0_init cX0_init 3 none, Cond.methodLink RX0 3 objectInit, Cond.instanceMethod objectInit, Cond.code objectInit ⟨#[0xb1]⟩ 1 none, Cond.fieldLink RX0 9 "TaperOffice$Household" "firstMonth" "I", Cond.classLink RX0 15 "[[I", Cond.arrayClass .int, Cond.fieldLink RX0 17 "TaperOffice$Household" "values" "[[I", Cond.fieldLink RX0 20 "TaperOffice$Household" "since" "[[I", Cond.fieldLink RX0 23 "TaperOffice$Household" "assessments" "[I", Cond.fieldLink RX0 27 "TaperOffice$Household" "payments" "[I", Cond.methodLink RL 16 yX1_tell, Cond.instanceMethod yX1_tell, Cond.selects RX1 yX1_tell yX1_tell, Cond.code yX1_tell cX1_tell 7 (some .int), Cond.classLink RX1 41 "java/lang/IllegalArgumentException", Cond.initialized "java/lang/IllegalArgumentException", Cond.fieldLink RX1 46 "TaperOffice" "LEAST_VALUES" "[I", Cond.fieldLink RX1 50 "TaperOffice" "MOST_VALUES" "[I", Cond.methodLink RX1 34 yX1_existing]
def wsL_tells_r3 : List Cond := [Cond.instanceMethod yX1_existing, Cond.selects RX1 yX1_existing yX1_existing, Cond.code yX1_existing cX1_existing 3 (some (.object "TaperOffice$Household")), Cond.classLink RX1 120 "java/lang/IndexOutOfBoundsException", Cond.initialized "java/lang/IndexOutOfBoundsException", Cond.methodLink RX1 38 yX1_checkFact, Cond.static yX1_checkFact, Cond.code yX1_checkFact cX1_checkFact 1 none, Cond.methodLink RX1 60 yX1_monthCountedFrom, Cond.static yX1_monthCountedFrom, Cond.code yX1_monthCountedFrom cX1_monthCountedFrom 2 (some .int), Cond.instanceMethod yX0_change, Cond.selects RX0 yX0_change yX0_change, Cond.code yX0_change cX0_change 5 none, Cond.fieldLink RX0 30 "TaperOffice$Household" "changes" "I", Cond.methodLink RL 20 yX1_payBack, Cond.instanceMethod yX1_payBack, Cond.selects RX1 yX1_payBack yX1_payBack, Cond.code yX1_payBack cX1_payBack 4 (some .int), Cond.constant RX1 72 (1000000), Cond.instanceMethod yX0_lowerDebt, Cond.selects RX0 yX0_lowerDebt yX0_lowerDebt, Cond.code yX0_lowerDebt cX0_lowerDebt 2 none, Cond.fieldLink RX0 58 "TaperOffice$Household" "debt" "I"]
def wsL_tells_r4 : List Cond := [Cond.fieldLink RX0 84 "TaperOffice$Household" "takenBack" "I", Cond.methodLink RL 24 yX1_close, Cond.instanceMethod yX1_close, Cond.selects RX1 yX1_close yX1_close, Cond.code yX1_close cX1_close 6 (some .int), Cond.instanceMethod yX0_settle, Cond.selects RX0 yX0_settle yX0_settle, Cond.code yX0_settle cX0_settle 4 (some .int), Cond.methodLink RX0 77 yX0_paymentIn, Cond.instanceMethod yX0_paymentIn, Cond.selects RX0 yX0_paymentIn yX0_paymentIn, Cond.code yX0_paymentIn cX0_paymentIn 4 (some .int), Cond.methodLink RX0 65 yX0_unassessedBefore, Cond.instanceMethod yX0_unassessedBefore, Cond.selects RX0 yX0_unassessedBefore yX0_unassessedBefore, Cond.code yX0_unassessedBefore cX0_unassessedBefore 4 (some .int), Cond.methodLink RX0 55 yX0_dueIn, Cond.instanceMethod yX0_dueIn, Cond.selects RX0 yX0_dueIn yX0_dueIn, Cond.code yX0_dueIn cX0_dueIn 3 (some .int), Cond.constant RX0 44 (1600000), Cond.methodLink RX0 45 yX0_needIn, Cond.instanceMethod yX0_needIn, Cond.selects RX0 yX0_needIn yX0_needIn]
def wsL_tells_r5 : List Cond := [Cond.code yX0_needIn cX0_needIn 3 (some .int), Cond.constant RX0 33 (60000), Cond.methodLink RX0 34 Lib.Math.min.name, Cond.static Lib.Math.min.name, Cond.initialized "java/lang/Math", Cond.code Lib.Math.min.name Lib.Math.min.code 2 (some .int), Cond.methodLink RX0 49 yX0_taperIn, Cond.instanceMethod yX0_taperIn, Cond.selects RX0 yX0_taperIn yX0_taperIn, Cond.code yX0_taperIn cX0_taperIn 3 (some .int), Cond.methodLink RX0 40 Lib.Math.max.name, Cond.static Lib.Math.max.name, Cond.code Lib.Math.max.name Lib.Math.max.code 2 (some .int), Cond.methodLink RX0 52 yX0_tariffIn, Cond.instanceMethod yX0_tariffIn, Cond.selects RX0 yX0_tariffIn yX0_tariffIn, Cond.code yX0_tariffIn cX0_tariffIn 4 (some .int), Cond.constant RX0 43 (600000), Cond.methodLink RX0 68 yX0_owedAfter, Cond.instanceMethod yX0_owedAfter, Cond.selects RX0 yX0_owedAfter yX0_owedAfter, Cond.code yX0_owedAfter cX0_owedAfter 2 (some .int), Cond.methodLink RX0 71 yX0_recoverableIn, Cond.instanceMethod yX0_recoverableIn]
def wsL_tells_r6 : List Cond := [Cond.selects RX0 yX0_recoverableIn yX0_recoverableIn, Cond.code yX0_recoverableIn cX0_recoverableIn 6 (some .int), Cond.fieldLink RX0 61 "TaperOffice$Household" "disputes" "Z", Cond.methodLink RX0 74 yX0_arrearsOf, Cond.instanceMethod yX0_arrearsOf, Cond.selects RX0 yX0_arrearsOf yX0_arrearsOf, Cond.code yX0_arrearsOf cX0_arrearsOf 2 (some .int), Cond.methodLink RX0 80 yX0_lowerDebt]
def wsL_tells : List Cond := .code yL_tells cL_tells 10 (some .boolean) :: ((wsL_tells_r1 ++ (wsL_tells_r2 ++ (wsL_tells_r3 ++ (wsL_tells_r4 ++ (wsL_tells_r5 ++ wsL_tells_r6))))) ++ wsX10 ++ wsX00 ++ (vx_atS RX1 26 "java/lang/IllegalStateException" ["java/lang/RuntimeException", "java/lang/Exception"]).filter goodWord ++ (vx_atS RX1 45 "java/lang/IllegalArgumentException" ["java/lang/RuntimeException", "java/lang/Exception"]).filter goodWord ++ (vx_atS RX1 124 "java/lang/IndexOutOfBoundsException" ["java/lang/RuntimeException", "java/lang/Exception"]).filter goodWord)
def wsL_law0_r1 : List Cond := [Cond.classLink RL 11 RX1, Cond.instantiable RX1 3, Cond.initialized RX1, Cond.arrayClass .int, Cond.constant RL 126 (1000000), Cond.methodLink RL 113 yX1_init, Cond.instanceMethod yX1_init, Cond.code yX1_init cX1_init 1 none, Cond.methodLink RX1 1 objectInit, Cond.instanceMethod objectInit, Cond.code objectInit ⟨#[0xb1]⟩ 1 none, Cond.classLink RX1 9 RX0, Cond.fieldLink RX1 11 "TaperOffice" "rows" "[LTaperOffice$Household;", Cond.fieldLink RX1 15 "TaperOffice" "added" "I", Cond.fieldLink RX1 19 "TaperOffice" "current" "I", Cond.methodLink RL 114 yL_cell, Cond.static yL_cell, Cond.initialized RL, Cond.code yL_cell cL_cell 2 (some .int), Cond.constant RL 7 (47123), Cond.constant RL 8 (1993463), Cond.methodLink RL 90 yL_low, Cond.static yL_low, Cond.code yL_low cL_low 2 (some .int)]
def wsL_law0_r2 : List Cond := [Cond.constant RL 9 (2147483647), Cond.methodLink RL 109 yL_calls, Cond.static yL_calls, Cond.codeWith yL_calls cL_calls 7 (some .int) [(0, 47, 48, 27)], Cond.classLink RL 27 "java/lang/IllegalStateException", Cond.methodLink RL 10 yX1_add, Cond.instanceMethod yX1_add, Cond.selects RX1 yX1_add yX1_add, Cond.code yX1_add cX1_add 2 (some .int), Cond.classLink RX1 22 "java/lang/IllegalStateException", Cond.initialized "java/lang/IllegalStateException", Cond.instantiable RX0 9, Cond.initialized RX0, Cond.instanceMethod yX0_init, Cond.code yX0_init cX0_init 3 none, Cond.methodLink RX0 3 objectInit, Cond.fieldLink RX0 9 "TaperOffice$Household" "firstMonth" "I", Cond.classLink RX0 15 "[[I", Cond.fieldLink RX0 17 "TaperOffice$Household" "values" "[[I", Cond.fieldLink RX0 20 "TaperOffice$Household" "since" "[[I", Cond.fieldLink RX0 23 "TaperOffice$Household" "assessments" "[I", Cond.fieldLink RX0 27 "TaperOffice$Household" "payments" "[I", Cond.methodLink RL 16 yX1_tell, Cond.instanceMethod yX1_tell]
def wsL_law0_r3 : List Cond := [Cond.selects RX1 yX1_tell yX1_tell, Cond.code yX1_tell cX1_tell 7 (some .int), Cond.classLink RX1 41 "java/lang/IllegalArgumentException", Cond.initialized "java/lang/IllegalArgumentException", Cond.fieldLink RX1 46 "TaperOffice" "LEAST_VALUES" "[I", Cond.fieldLink RX1 50 "TaperOffice" "MOST_VALUES" "[I", Cond.methodLink RX1 34 yX1_existing, Cond.instanceMethod yX1_existing, Cond.selects RX1 yX1_existing yX1_existing, Cond.code yX1_existing cX1_existing 3 (some (.object "TaperOffice$Household")), Cond.classLink RX1 120 "java/lang/IndexOutOfBoundsException", Cond.initialized "java/lang/IndexOutOfBoundsException", Cond.methodLink RX1 38 yX1_checkFact, Cond.static yX1_checkFact, Cond.code yX1_checkFact cX1_checkFact 1 none, Cond.methodLink RX1 60 yX1_monthCountedFrom, Cond.static yX1_monthCountedFrom, Cond.code yX1_monthCountedFrom cX1_monthCountedFrom 2 (some .int), Cond.instanceMethod yX0_change, Cond.selects RX0 yX0_change yX0_change, Cond.code yX0_change cX0_change 5 none, Cond.fieldLink RX0 30 "TaperOffice$Household" "changes" "I", Cond.methodLink RL 20 yX1_payBack, Cond.instanceMethod yX1_payBack]
def wsL_law0_r4 : List Cond := [Cond.selects RX1 yX1_payBack yX1_payBack, Cond.code yX1_payBack cX1_payBack 4 (some .int), Cond.constant RX1 72 (1000000), Cond.instanceMethod yX0_lowerDebt, Cond.selects RX0 yX0_lowerDebt yX0_lowerDebt, Cond.code yX0_lowerDebt cX0_lowerDebt 2 none, Cond.fieldLink RX0 58 "TaperOffice$Household" "debt" "I", Cond.fieldLink RX0 84 "TaperOffice$Household" "takenBack" "I", Cond.methodLink RL 24 yX1_close, Cond.instanceMethod yX1_close, Cond.selects RX1 yX1_close yX1_close, Cond.code yX1_close cX1_close 6 (some .int), Cond.instanceMethod yX0_settle, Cond.selects RX0 yX0_settle yX0_settle, Cond.code yX0_settle cX0_settle 4 (some .int), Cond.methodLink RX0 77 yX0_paymentIn, Cond.instanceMethod yX0_paymentIn, Cond.selects RX0 yX0_paymentIn yX0_paymentIn, Cond.code yX0_paymentIn cX0_paymentIn 4 (some .int), Cond.methodLink RX0 65 yX0_unassessedBefore, Cond.instanceMethod yX0_unassessedBefore, Cond.selects RX0 yX0_unassessedBefore yX0_unassessedBefore, Cond.code yX0_unassessedBefore cX0_unassessedBefore 4 (some .int), Cond.methodLink RX0 55 yX0_dueIn]
def wsL_law0_r5 : List Cond := [Cond.instanceMethod yX0_dueIn, Cond.selects RX0 yX0_dueIn yX0_dueIn, Cond.code yX0_dueIn cX0_dueIn 3 (some .int), Cond.constant RX0 44 (1600000), Cond.methodLink RX0 45 yX0_needIn, Cond.instanceMethod yX0_needIn, Cond.selects RX0 yX0_needIn yX0_needIn, Cond.code yX0_needIn cX0_needIn 3 (some .int), Cond.constant RX0 33 (60000), Cond.methodLink RX0 34 Lib.Math.min.name, Cond.static Lib.Math.min.name, Cond.initialized "java/lang/Math", Cond.code Lib.Math.min.name Lib.Math.min.code 2 (some .int), Cond.methodLink RX0 49 yX0_taperIn, Cond.instanceMethod yX0_taperIn, Cond.selects RX0 yX0_taperIn yX0_taperIn, Cond.code yX0_taperIn cX0_taperIn 3 (some .int), Cond.methodLink RX0 40 Lib.Math.max.name, Cond.static Lib.Math.max.name, Cond.code Lib.Math.max.name Lib.Math.max.code 2 (some .int), Cond.methodLink RX0 52 yX0_tariffIn, Cond.instanceMethod yX0_tariffIn, Cond.selects RX0 yX0_tariffIn yX0_tariffIn, Cond.code yX0_tariffIn cX0_tariffIn 4 (some .int)]
def wsL_law0_r6 : List Cond := [Cond.constant RX0 43 (600000), Cond.methodLink RX0 68 yX0_owedAfter, Cond.instanceMethod yX0_owedAfter, Cond.selects RX0 yX0_owedAfter yX0_owedAfter, Cond.code yX0_owedAfter cX0_owedAfter 2 (some .int), Cond.methodLink RX0 71 yX0_recoverableIn, Cond.instanceMethod yX0_recoverableIn, Cond.selects RX0 yX0_recoverableIn yX0_recoverableIn, Cond.code yX0_recoverableIn cX0_recoverableIn 6 (some .int), Cond.fieldLink RX0 61 "TaperOffice$Household" "disputes" "Z", Cond.methodLink RX0 74 yX0_arrearsOf, Cond.instanceMethod yX0_arrearsOf, Cond.selects RX0 yX0_arrearsOf yX0_arrearsOf, Cond.code yX0_arrearsOf cX0_arrearsOf 2 (some .int), Cond.methodLink RX0 80 yX0_lowerDebt, Cond.methodLink RL 118 yL_tells, Cond.static yL_tells, Cond.code yL_tells cL_tells 10 (some .boolean), Cond.constant RL 104 (1000001), Cond.constant RL 105 (70000), Cond.constant RL 106 (90000), Cond.constant RL 107 (10000001), Cond.constant RL 108 (1700000), Cond.methodLink RL 122 yX1_dispute]
def wsL_law0_r7 : List Cond := [Cond.instanceMethod yX1_dispute, Cond.selects RX1 yX1_dispute yX1_dispute, Cond.code yX1_dispute cX1_dispute 5 (some .boolean), Cond.methodLink RL 127 yL_closes, Cond.static yL_closes, Cond.code yL_closes cL_closes 10 (some .int), Cond.methodLink RL 68 yL_pays, Cond.static yL_pays, Cond.code yL_pays cL_pays 9 (some .int), Cond.methodLink RL 57 yL_open, Cond.static yL_open, Cond.code yL_open cL_open 7 (some .int), Cond.methodLink RL 54 yL_due, Cond.static yL_due, Cond.code yL_due cL_due 6 (some .int), Cond.constant RL 53 (1600000), Cond.methodLink RL 43 yL_need, Cond.static yL_need, Cond.code yL_need cL_need 6 (some .int), Cond.constant RL 35 (60000), Cond.methodLink RL 29 yL_fact, Cond.static yL_fact, Cond.code yL_fact cL_fact 11 (some .int), Cond.methodLink RL 47 yL_taper]
def wsL_law0_r8 : List Cond := [Cond.static yL_taper, Cond.code yL_taper cL_taper 6 (some .int), Cond.constantLong RL 36 (20000), Cond.constantLong RL 38 (3), Cond.constantLong RL 40 (5), Cond.methodLink RL 50 yL_tariff, Cond.static yL_tariff, Cond.code yL_tariff cL_tariff 7 (some .int), Cond.constant RL 42 (600000), Cond.methodLink RL 61 yL_debtThen, Cond.static yL_debtThen, Cond.code yL_debtThen cL_debtThen 4 (some .int), Cond.methodLink RL 65 yL_recovers, Cond.static yL_recovers, Cond.code yL_recovers cL_recovers 9 (some .int), Cond.methodLink RL 131 yX1_month, Cond.instanceMethod yX1_month, Cond.selects RX1 yX1_month yX1_month, Cond.code yX1_month cX1_month 1 (some .int), Cond.methodLink RL 134 yX1_households, Cond.instanceMethod yX1_households, Cond.selects RX1 yX1_households yX1_households, Cond.code yX1_households cX1_households 1 (some .int), Cond.methodLink RL 137 yL_isHome]
def wsL_law0_r9 : List Cond := [Cond.static yL_isHome, Cond.code yL_isHome cL_isHome 12 (some .boolean), Cond.methodLink RL 71 yX1_debt, Cond.instanceMethod yX1_debt, Cond.selects RX1 yX1_debt yX1_debt, Cond.code yX1_debt cX1_debt 2 (some .int), Cond.methodLink RL 75 yX1_recovered, Cond.instanceMethod yX1_recovered, Cond.selects RX1 yX1_recovered yX1_recovered, Cond.code yX1_recovered cX1_recovered 2 (some .int), Cond.methodLink RL 78 yX1_unassessed, Cond.instanceMethod yX1_unassessed, Cond.selects RX1 yX1_unassessed yX1_unassessed, Cond.code yX1_unassessed cX1_unassessed 2 (some .int), Cond.methodLink RL 81 yX1_wouldPay, Cond.instanceMethod yX1_wouldPay, Cond.selects RX1 yX1_wouldPay yX1_wouldPay, Cond.code yX1_wouldPay cX1_wouldPay 3 (some .int), Cond.methodLink RL 84 yX1_assessed, Cond.instanceMethod yX1_assessed, Cond.selects RX1 yX1_assessed yX1_assessed, Cond.code yX1_assessed cX1_assessed 4 (some .int), Cond.methodLink RX1 86 yX1_checkMonth, Cond.static yX1_checkMonth]
def wsL_law0_r10 : List Cond := [Cond.code yX1_checkMonth cX1_checkMonth 1 none, Cond.methodLink RL 87 yX1_paid, Cond.instanceMethod yX1_paid, Cond.selects RX1 yX1_paid yX1_paid, Cond.code yX1_paid cX1_paid 4 (some .int), Cond.methodLink RL 93 yX1_need, Cond.instanceMethod yX1_need, Cond.selects RX1 yX1_need yX1_need, Cond.code yX1_need cX1_need 4 (some .int), Cond.methodLink RL 95 yX1_taper, Cond.instanceMethod yX1_taper, Cond.selects RX1 yX1_taper yX1_taper, Cond.code yX1_taper cX1_taper 4 (some .int), Cond.methodLink RL 97 yX1_tariff, Cond.instanceMethod yX1_tariff, Cond.selects RX1 yX1_tariff yX1_tariff, Cond.code yX1_tariff cX1_tariff 4 (some .int), Cond.methodLink RL 99 yX1_due, Cond.instanceMethod yX1_due, Cond.selects RX1 yX1_due yX1_due, Cond.code yX1_due cX1_due 4 (some .int), Cond.methodLink RL 101 yX1_fact, Cond.instanceMethod yX1_fact, Cond.selects RX1 yX1_fact yX1_fact]
def wsL_law0_r11 : List Cond := [Cond.code yX1_fact cX1_fact 5 (some .int)]
def wsL_law0 : List Cond := (wsL_law0_r1 ++ (wsL_law0_r2 ++ (wsL_law0_r3 ++ (wsL_law0_r4 ++ (wsL_law0_r5 ++ (wsL_law0_r6 ++ (wsL_law0_r7 ++ (wsL_law0_r8 ++ (wsL_law0_r9 ++ (wsL_law0_r10 ++ wsL_law0_r11)))))))))) ++ wsX10 ++ wsX00 ++ ([] : List Cond)
def wsL_law : List Cond := wsL_law0 ++ (vx_atS RX1 26 "java/lang/IllegalStateException" ["java/lang/RuntimeException", "java/lang/Exception"]).filter goodWord ++ (vx_atS RX1 45 "java/lang/IllegalArgumentException" ["java/lang/RuntimeException", "java/lang/Exception"]).filter goodWord ++ (vx_atS RX1 124 "java/lang/IndexOutOfBoundsException" ["java/lang/RuntimeException", "java/lang/Exception"]).filter goodWord
abbrev vwCl : List vw_C := [(RX0, TX0, 9), (RX1, TX1, 3)]
end
section
set_option maxRecDepth 20000 in
theorem wsL_law_in0 : ∀ w ∈ wsL_law0, w ∈ lw_tbl := fun w h => (goodIn_p wsL_law0 [28, 31, 130, 135, 144, 165, 208, 51, 211, 237, 241, 245, 252, 256, 260, 264, 268, 272, 277, 281, 285, 288, 292, 297, 301, 305, 402, 47, 309, 312, 315, 318, 321, 324, 328, 334, 339, 342, 127, 123, 345, 349, 353, 357, 362, 367, 370, 375, 379, 384, 389, 394, 399] (by decide +kernel) (by decide +kernel) w h).1
theorem wsL_law_x0 : ∀ w ∈ (vx_atS RX1 26 "java/lang/IllegalStateException" ["java/lang/RuntimeException", "java/lang/Exception"]).filter goodWord, w ∈ lw_tbl := by decide +kernel
theorem wsL_law_x1 : ∀ w ∈ (vx_atS RX1 45 "java/lang/IllegalArgumentException" ["java/lang/RuntimeException", "java/lang/Exception"]).filter goodWord, w ∈ lw_tbl := by decide +kernel
theorem wsL_law_x2 : ∀ w ∈ (vx_atS RX1 124 "java/lang/IndexOutOfBoundsException" ["java/lang/RuntimeException", "java/lang/Exception"]).filter goodWord, w ∈ lw_tbl := by decide +kernel
theorem wsL_law_in : ∀ w ∈ wsL_law, w ∈ lw_tbl := fun w h => (List.mem_append.mp h).elim (fun h => (List.mem_append.mp h).elim (fun h => (List.mem_append.mp h).elim (fun h => wsL_law_in0 w h) (fun h => wsL_law_x0 w h)) (fun h => wsL_law_x1 w h)) (fun h => wsL_law_x2 w h)
theorem inlX0 : ∀ w ∈ wsX00, w ∈ wsL_law := fun _ h => List.mem_append_left _ (List.mem_append_left _ (List.mem_append_left _ (List.mem_append_left _ (List.mem_append_right _ h))))
theorem inX0 : ∀ w ∈ wsX00, w ∈ lw_tbl := fun w h => wsL_law_in w (inlX0 w h)
theorem inlX1 : ∀ w ∈ wsX10, w ∈ wsL_law := fun _ h => List.mem_append_left _ (List.mem_append_left _ (List.mem_append_left _ (List.mem_append_left _ (List.mem_append_left _ (List.mem_append_right _ h)))))
theorem inX1 : ∀ w ∈ wsX10, w ∈ lw_tbl := fun w h => wsL_law_in w (inlX1 w h)
theorem inX2 : ∀ w ∈ wsX20, w ∈ lw_tbl := by decide +kernel
theorem inJ9 : ∀ w ∈ wsJ90, w ∈ lw_tbl := by decide +kernel
theorem inJ0 : ∀ w ∈ wsJ00, w ∈ lw_tbl := by decide +kernel
end
section
theorem dX0_init_0 : decode cX0_init 0 = .ok (.aload_n 0, 1) := by decide +kernel
theorem dX0_init_1 : decode cX0_init 1 = .ok (.invokespecial 3, 3) := by decide +kernel
theorem dX0_init_4 : decode cX0_init 4 = .ok (.aload_n 0, 1) := by decide +kernel
theorem dX0_init_5 : decode cX0_init 5 = .ok (.iload_n 1, 1) := by decide +kernel
theorem dX0_init_6 : decode cX0_init 6 = .ok (.putfield 9, 3) := by decide +kernel
theorem dX0_init_9 : decode cX0_init 9 = .ok (.aload_n 0, 1) := by decide +kernel
theorem dX0_init_10 : decode cX0_init 10 = .ok (.iconst 5, 1) := by decide +kernel
theorem dX0_init_11 : decode cX0_init 11 = .ok (.bipush 48, 2) := by decide +kernel
theorem dX0_init_13 : decode cX0_init 13 = .ok (.multianewarray 15 2, 4) := by decide +kernel
theorem dX0_init_17 : decode cX0_init 17 = .ok (.putfield 17, 3) := by decide +kernel
theorem dX0_init_20 : decode cX0_init 20 = .ok (.aload_n 0, 1) := by decide +kernel
theorem dX0_init_21 : decode cX0_init 21 = .ok (.iconst 5, 1) := by decide +kernel
theorem dX0_init_22 : decode cX0_init 22 = .ok (.bipush 48, 2) := by decide +kernel
theorem dX0_init_24 : decode cX0_init 24 = .ok (.multianewarray 15 2, 4) := by decide +kernel
theorem dX0_init_28 : decode cX0_init 28 = .ok (.putfield 20, 3) := by decide +kernel
theorem dX0_init_31 : decode cX0_init 31 = .ok (.aload_n 0, 1) := by decide +kernel
theorem dX0_init_32 : decode cX0_init 32 = .ok (.bipush 48, 2) := by decide +kernel
theorem dX0_init_34 : decode cX0_init 34 = .ok (.newarray .int, 2) := by decide +kernel
theorem dX0_init_36 : decode cX0_init 36 = .ok (.putfield 23, 3) := by decide +kernel
theorem dX0_init_39 : decode cX0_init 39 = .ok (.aload_n 0, 1) := by decide +kernel
theorem dX0_init_40 : decode cX0_init 40 = .ok (.bipush 48, 2) := by decide +kernel
theorem dX0_init_42 : decode cX0_init 42 = .ok (.newarray .int, 2) := by decide +kernel
theorem dX0_init_44 : decode cX0_init 44 = .ok (.putfield 27, 3) := by decide +kernel
theorem dX0_init_47 : decode cX0_init 47 = .ok (.iconst 0, 1) := by decide +kernel
theorem dX0_init_48 : decode cX0_init 48 = .ok (.istore_n 2, 1) := by decide +kernel
theorem dX0_init_49 : decode cX0_init 49 = .ok (.iload_n 2, 1) := by decide +kernel
theorem dX0_init_50 : decode cX0_init 50 = .ok (.bipush 48, 2) := by decide +kernel
theorem dX0_init_52 : decode cX0_init 52 = .ok (.if_icmp .ge 18, 3) := by decide +kernel
theorem dX0_init_55 : decode cX0_init 55 = .ok (.aload_n 0, 1) := by decide +kernel
theorem dX0_init_56 : decode cX0_init 56 = .ok (.getfield 17, 3) := by decide +kernel
theorem dX0_init_59 : decode cX0_init 59 = .ok (.iconst 0, 1) := by decide +kernel
theorem dX0_init_60 : decode cX0_init 60 = .ok (.aaload, 1) := by decide +kernel
theorem dX0_init_61 : decode cX0_init 61 = .ok (.iload_n 2, 1) := by decide +kernel
theorem dX0_init_62 : decode cX0_init 62 = .ok (.iconst 1, 1) := by decide +kernel
theorem dX0_init_63 : decode cX0_init 63 = .ok (.iastore, 1) := by decide +kernel
theorem dX0_init_64 : decode cX0_init 64 = .ok (.iinc 2 1, 3) := by decide +kernel
theorem dX0_init_67 : decode cX0_init 67 = .ok (.goto (-18), 3) := by decide +kernel
theorem dX0_init_70 : decode cX0_init 70 = .ok (.return_, 1) := by decide +kernel
theorem dX0_change_0 : decode cX0_change 0 = .ok (.aload_n 0, 1) := by decide +kernel
theorem dX0_change_1 : decode cX0_change 1 = .ok (.dup, 1) := by decide +kernel
theorem dX0_change_2 : decode cX0_change 2 = .ok (.getfield 30, 3) := by decide +kernel
theorem dX0_change_5 : decode cX0_change 5 = .ok (.iconst 1, 1) := by decide +kernel
theorem dX0_change_6 : decode cX0_change 6 = .ok (.iadd, 1) := by decide +kernel
theorem dX0_change_7 : decode cX0_change 7 = .ok (.putfield 30, 3) := by decide +kernel
theorem dX0_change_10 : decode cX0_change 10 = .ok (.iload_n 2, 1) := by decide +kernel
theorem dX0_change_11 : decode cX0_change 11 = .ok (.istore 4, 2) := by decide +kernel
theorem dX0_change_13 : decode cX0_change 13 = .ok (.iload 4, 2) := by decide +kernel
theorem dX0_change_15 : decode cX0_change 15 = .ok (.bipush 48, 2) := by decide +kernel
theorem dX0_change_17 : decode cX0_change 17 = .ok (.if_icmp .ge 42, 3) := by decide +kernel
theorem dX0_change_20 : decode cX0_change 20 = .ok (.aload_n 0, 1) := by decide +kernel
theorem dX0_change_21 : decode cX0_change 21 = .ok (.getfield 20, 3) := by decide +kernel
theorem dX0_change_24 : decode cX0_change 24 = .ok (.iload_n 1, 1) := by decide +kernel
theorem dX0_change_25 : decode cX0_change 25 = .ok (.aaload, 1) := by decide +kernel
theorem dX0_change_26 : decode cX0_change 26 = .ok (.iload 4, 2) := by decide +kernel
theorem dX0_change_28 : decode cX0_change 28 = .ok (.iaload, 1) := by decide +kernel
theorem dX0_change_29 : decode cX0_change 29 = .ok (.iload_n 2, 1) := by decide +kernel
theorem dX0_change_30 : decode cX0_change 30 = .ok (.if_icmp .gt 29, 3) := by decide +kernel
theorem dX0_change_33 : decode cX0_change 33 = .ok (.aload_n 0, 1) := by decide +kernel
theorem dX0_change_34 : decode cX0_change 34 = .ok (.getfield 17, 3) := by decide +kernel
theorem dX0_change_37 : decode cX0_change 37 = .ok (.iload_n 1, 1) := by decide +kernel
theorem dX0_change_38 : decode cX0_change 38 = .ok (.aaload, 1) := by decide +kernel
theorem dX0_change_39 : decode cX0_change 39 = .ok (.iload 4, 2) := by decide +kernel
theorem dX0_change_41 : decode cX0_change 41 = .ok (.iload_n 3, 1) := by decide +kernel
theorem dX0_change_42 : decode cX0_change 42 = .ok (.iastore, 1) := by decide +kernel
theorem dX0_change_43 : decode cX0_change 43 = .ok (.aload_n 0, 1) := by decide +kernel
theorem dX0_change_44 : decode cX0_change 44 = .ok (.getfield 20, 3) := by decide +kernel
theorem dX0_change_47 : decode cX0_change 47 = .ok (.iload_n 1, 1) := by decide +kernel
theorem dX0_change_48 : decode cX0_change 48 = .ok (.aaload, 1) := by decide +kernel
theorem dX0_change_49 : decode cX0_change 49 = .ok (.iload 4, 2) := by decide +kernel
theorem dX0_change_51 : decode cX0_change 51 = .ok (.iload_n 2, 1) := by decide +kernel
theorem dX0_change_52 : decode cX0_change 52 = .ok (.iastore, 1) := by decide +kernel
theorem dX0_change_53 : decode cX0_change 53 = .ok (.iinc 4 1, 3) := by decide +kernel
theorem dX0_change_56 : decode cX0_change 56 = .ok (.goto (-43), 3) := by decide +kernel
theorem dX0_change_59 : decode cX0_change 59 = .ok (.return_, 1) := by decide +kernel
theorem dX0_needIn_0 : decode cX0_needIn 0 = .ok (.sipush 30000, 3) := by decide +kernel
theorem dX0_needIn_3 : decode cX0_needIn 3 = .ok (.aload_n 0, 1) := by decide +kernel
theorem dX0_needIn_4 : decode cX0_needIn 4 = .ok (.getfield 17, 3) := by decide +kernel
theorem dX0_needIn_7 : decode cX0_needIn 7 = .ok (.iconst 1, 1) := by decide +kernel
theorem dX0_needIn_8 : decode cX0_needIn 8 = .ok (.aaload, 1) := by decide +kernel
theorem dX0_needIn_9 : decode cX0_needIn 9 = .ok (.iload_n 1, 1) := by decide +kernel
theorem dX0_needIn_10 : decode cX0_needIn 10 = .ok (.iaload, 1) := by decide +kernel
theorem dX0_needIn_11 : decode cX0_needIn 11 = .ok (.sipush 8000, 3) := by decide +kernel
theorem dX0_needIn_14 : decode cX0_needIn 14 = .ok (.imul, 1) := by decide +kernel
theorem dX0_needIn_15 : decode cX0_needIn 15 = .ok (.iadd, 1) := by decide +kernel
theorem dX0_needIn_16 : decode cX0_needIn 16 = .ok (.istore_n 2, 1) := by decide +kernel
theorem dX0_needIn_17 : decode cX0_needIn 17 = .ok (.aload_n 0, 1) := by decide +kernel
theorem dX0_needIn_18 : decode cX0_needIn 18 = .ok (.getfield 17, 3) := by decide +kernel
theorem dX0_needIn_21 : decode cX0_needIn 21 = .ok (.iconst 0, 1) := by decide +kernel
theorem dX0_needIn_22 : decode cX0_needIn 22 = .ok (.aaload, 1) := by decide +kernel
theorem dX0_needIn_23 : decode cX0_needIn 23 = .ok (.iload_n 1, 1) := by decide +kernel
theorem dX0_needIn_24 : decode cX0_needIn 24 = .ok (.iaload, 1) := by decide +kernel
theorem dX0_needIn_25 : decode cX0_needIn 25 = .ok (.iconst 1, 1) := by decide +kernel
theorem dX0_needIn_26 : decode cX0_needIn 26 = .ok (.if_icmp .le 9, 3) := by decide +kernel
theorem dX0_needIn_29 : decode cX0_needIn 29 = .ok (.iinc 2 12000, 6) := by decide +kernel
theorem dX0_needIn_35 : decode cX0_needIn 35 = .ok (.iload_n 2, 1) := by decide +kernel
theorem dX0_needIn_36 : decode cX0_needIn 36 = .ok (.aload_n 0, 1) := by decide +kernel
theorem dX0_needIn_37 : decode cX0_needIn 37 = .ok (.getfield 17, 3) := by decide +kernel
theorem dX0_needIn_40 : decode cX0_needIn 40 = .ok (.iconst 2, 1) := by decide +kernel
theorem dX0_needIn_41 : decode cX0_needIn 41 = .ok (.aaload, 1) := by decide +kernel
theorem dX0_needIn_42 : decode cX0_needIn 42 = .ok (.iload_n 1, 1) := by decide +kernel
theorem dX0_needIn_43 : decode cX0_needIn 43 = .ok (.iaload, 1) := by decide +kernel
theorem dX0_needIn_44 : decode cX0_needIn 44 = .ok (.ldc 33, 2) := by decide +kernel
theorem dX0_needIn_46 : decode cX0_needIn 46 = .ok (.invokestatic 34, 3) := by decide +kernel
theorem dX0_needIn_49 : decode cX0_needIn 49 = .ok (.iadd, 1) := by decide +kernel
theorem dX0_needIn_50 : decode cX0_needIn 50 = .ok (.ireturn, 1) := by decide +kernel
theorem dX0_taperIn_0 : decode cX0_taperIn 0 = .ok (.iconst 0, 1) := by decide +kernel
theorem dX0_taperIn_1 : decode cX0_taperIn 1 = .ok (.aload_n 0, 1) := by decide +kernel
theorem dX0_taperIn_2 : decode cX0_taperIn 2 = .ok (.getfield 17, 3) := by decide +kernel
theorem dX0_taperIn_5 : decode cX0_taperIn 5 = .ok (.iconst 3, 1) := by decide +kernel
theorem dX0_taperIn_6 : decode cX0_taperIn 6 = .ok (.aaload, 1) := by decide +kernel
theorem dX0_taperIn_7 : decode cX0_taperIn 7 = .ok (.iload_n 1, 1) := by decide +kernel
theorem dX0_taperIn_8 : decode cX0_taperIn 8 = .ok (.iaload, 1) := by decide +kernel
theorem dX0_taperIn_9 : decode cX0_taperIn 9 = .ok (.sipush 20000, 3) := by decide +kernel
theorem dX0_taperIn_12 : decode cX0_taperIn 12 = .ok (.isub, 1) := by decide +kernel
theorem dX0_taperIn_13 : decode cX0_taperIn 13 = .ok (.invokestatic 40, 3) := by decide +kernel
theorem dX0_taperIn_16 : decode cX0_taperIn 16 = .ok (.istore_n 2, 1) := by decide +kernel
theorem dX0_taperIn_17 : decode cX0_taperIn 17 = .ok (.iload_n 2, 1) := by decide +kernel
theorem dX0_taperIn_18 : decode cX0_taperIn 18 = .ok (.bipush 60, 2) := by decide +kernel
theorem dX0_taperIn_20 : decode cX0_taperIn 20 = .ok (.imul, 1) := by decide +kernel
theorem dX0_taperIn_21 : decode cX0_taperIn 21 = .ok (.bipush 100, 2) := by decide +kernel
theorem dX0_taperIn_23 : decode cX0_taperIn 23 = .ok (.idiv, 1) := by decide +kernel
theorem dX0_taperIn_24 : decode cX0_taperIn 24 = .ok (.ireturn, 1) := by decide +kernel
theorem dX0_tariffIn_0 : decode cX0_tariffIn 0 = .ok (.iconst 0, 1) := by decide +kernel
theorem dX0_tariffIn_1 : decode cX0_tariffIn 1 = .ok (.aload_n 0, 1) := by decide +kernel
theorem dX0_tariffIn_2 : decode cX0_tariffIn 2 = .ok (.getfield 17, 3) := by decide +kernel
theorem dX0_tariffIn_5 : decode cX0_tariffIn 5 = .ok (.iconst 4, 1) := by decide +kernel
theorem dX0_tariffIn_6 : decode cX0_tariffIn 6 = .ok (.aaload, 1) := by decide +kernel
theorem dX0_tariffIn_7 : decode cX0_tariffIn 7 = .ok (.iload_n 1, 1) := by decide +kernel
theorem dX0_tariffIn_8 : decode cX0_tariffIn 8 = .ok (.iaload, 1) := by decide +kernel
theorem dX0_tariffIn_9 : decode cX0_tariffIn 9 = .ok (.ldc 43, 2) := by decide +kernel
theorem dX0_tariffIn_11 : decode cX0_tariffIn 11 = .ok (.isub, 1) := by decide +kernel
theorem dX0_tariffIn_12 : decode cX0_tariffIn 12 = .ok (.invokestatic 40, 3) := by decide +kernel
theorem dX0_tariffIn_15 : decode cX0_tariffIn 15 = .ok (.istore_n 2, 1) := by decide +kernel
theorem dX0_tariffIn_16 : decode cX0_tariffIn 16 = .ok (.iload_n 2, 1) := by decide +kernel
theorem dX0_tariffIn_17 : decode cX0_tariffIn 17 = .ok (.sipush 25000, 3) := by decide +kernel
theorem dX0_tariffIn_20 : decode cX0_tariffIn 20 = .ok (.iadd, 1) := by decide +kernel
theorem dX0_tariffIn_21 : decode cX0_tariffIn 21 = .ok (.iconst 1, 1) := by decide +kernel
theorem dX0_tariffIn_22 : decode cX0_tariffIn 22 = .ok (.isub, 1) := by decide +kernel
theorem dX0_tariffIn_23 : decode cX0_tariffIn 23 = .ok (.sipush 25000, 3) := by decide +kernel
theorem dX0_tariffIn_26 : decode cX0_tariffIn 26 = .ok (.idiv, 1) := by decide +kernel
theorem dX0_tariffIn_27 : decode cX0_tariffIn 27 = .ok (.istore_n 3, 1) := by decide +kernel
theorem dX0_tariffIn_28 : decode cX0_tariffIn 28 = .ok (.iload_n 3, 1) := by decide +kernel
theorem dX0_tariffIn_29 : decode cX0_tariffIn 29 = .ok (.sipush 500, 3) := by decide +kernel
theorem dX0_tariffIn_32 : decode cX0_tariffIn 32 = .ok (.imul, 1) := by decide +kernel
theorem dX0_tariffIn_33 : decode cX0_tariffIn 33 = .ok (.ireturn, 1) := by decide +kernel
set_option maxRecDepth 20000 in
theorem ggX0_dueIn_X0_needIn : GoodIn wsX0_dueIn wsX0_needIn := goodIn_r _ [7, 1, 8, 9, 10, 11, 12, 25, 26, 27, 28, 29, 30, 31, 32, 33] (by decide +kernel) (by decide +kernel)
set_option maxRecDepth 20000 in
theorem gX0_dueIn_X0_needIn : GoodIn wsX0_dueIn (wsV RX0 45 RX0 yX0_needIn wsX0_needIn) := goodIn_app (goodIn_of _ (by decide +kernel)) ggX0_dueIn_X0_needIn
set_option maxRecDepth 20000 in
theorem ggX0_dueIn_X0_taperIn : GoodIn wsX0_dueIn wsX0_taperIn := goodIn_r _ [16, 1, 17, 18, 11, 19, 25, 26, 27, 28, 29, 30, 31, 32, 33] (by decide +kernel) (by decide +kernel)
set_option maxRecDepth 20000 in
theorem gX0_dueIn_X0_taperIn : GoodIn wsX0_dueIn (wsV RX0 49 RX0 yX0_taperIn wsX0_taperIn) := goodIn_app (goodIn_of _ (by decide +kernel)) ggX0_dueIn_X0_taperIn
set_option maxRecDepth 20000 in
theorem ggX0_dueIn_X0_tariffIn : GoodIn wsX0_dueIn wsX0_tariffIn := goodIn_r _ [23, 1, 24, 17, 18, 11, 19, 25, 26, 27, 28, 29, 30, 31, 32, 33] (by decide +kernel) (by decide +kernel)
set_option maxRecDepth 20000 in
theorem gX0_dueIn_X0_tariffIn : GoodIn wsX0_dueIn (wsV RX0 52 RX0 yX0_tariffIn wsX0_tariffIn) := goodIn_app (goodIn_of _ (by decide +kernel)) ggX0_dueIn_X0_tariffIn
theorem dX0_dueIn_0 : decode cX0_dueIn 0 = .ok (.aload_n 0, 1) := by decide +kernel
theorem dX0_dueIn_1 : decode cX0_dueIn 1 = .ok (.getfield 17, 3) := by decide +kernel
theorem dX0_dueIn_4 : decode cX0_dueIn 4 = .ok (.iconst 4, 1) := by decide +kernel
theorem dX0_dueIn_5 : decode cX0_dueIn 5 = .ok (.aaload, 1) := by decide +kernel
theorem dX0_dueIn_6 : decode cX0_dueIn 6 = .ok (.iload_n 1, 1) := by decide +kernel
theorem dX0_dueIn_7 : decode cX0_dueIn 7 = .ok (.iaload, 1) := by decide +kernel
theorem dX0_dueIn_8 : decode cX0_dueIn 8 = .ok (.ldc 44, 2) := by decide +kernel
theorem dX0_dueIn_10 : decode cX0_dueIn 10 = .ok (.if_icmp .le 5, 3) := by decide +kernel
theorem dX0_dueIn_13 : decode cX0_dueIn 13 = .ok (.iconst 0, 1) := by decide +kernel
theorem dX0_dueIn_14 : decode cX0_dueIn 14 = .ok (.ireturn, 1) := by decide +kernel
theorem dX0_dueIn_15 : decode cX0_dueIn 15 = .ok (.aload_n 0, 1) := by decide +kernel
theorem dX0_dueIn_16 : decode cX0_dueIn 16 = .ok (.iload_n 1, 1) := by decide +kernel
theorem dX0_dueIn_17 : decode cX0_dueIn 17 = .ok (.invokevirtual 45, 3) := by decide +kernel
theorem dX0_dueIn_20 : decode cX0_dueIn 20 = .ok (.aload_n 0, 1) := by decide +kernel
theorem dX0_dueIn_21 : decode cX0_dueIn 21 = .ok (.iload_n 1, 1) := by decide +kernel
theorem dX0_dueIn_22 : decode cX0_dueIn 22 = .ok (.invokevirtual 49, 3) := by decide +kernel
theorem dX0_dueIn_25 : decode cX0_dueIn 25 = .ok (.isub, 1) := by decide +kernel
theorem dX0_dueIn_26 : decode cX0_dueIn 26 = .ok (.aload_n 0, 1) := by decide +kernel
theorem dX0_dueIn_27 : decode cX0_dueIn 27 = .ok (.iload_n 1, 1) := by decide +kernel
theorem dX0_dueIn_28 : decode cX0_dueIn 28 = .ok (.invokevirtual 52, 3) := by decide +kernel
theorem dX0_dueIn_31 : decode cX0_dueIn 31 = .ok (.isub, 1) := by decide +kernel
theorem dX0_dueIn_32 : decode cX0_dueIn 32 = .ok (.istore_n 2, 1) := by decide +kernel
theorem dX0_dueIn_33 : decode cX0_dueIn 33 = .ok (.iload_n 2, 1) := by decide +kernel
theorem dX0_dueIn_34 : decode cX0_dueIn 34 = .ok (.sipush 500, 3) := by decide +kernel
theorem dX0_dueIn_37 : decode cX0_dueIn 37 = .ok (.if_icmp .ge 7, 3) := by decide +kernel
theorem dX0_dueIn_40 : decode cX0_dueIn 40 = .ok (.iconst 0, 1) := by decide +kernel
theorem dX0_dueIn_41 : decode cX0_dueIn 41 = .ok (.goto 4, 3) := by decide +kernel
theorem dX0_dueIn_44 : decode cX0_dueIn 44 = .ok (.iload_n 2, 1) := by decide +kernel
theorem dX0_dueIn_45 : decode cX0_dueIn 45 = .ok (.ireturn, 1) := by decide +kernel
set_option maxRecDepth 20000 in
theorem ggX0_unassessedBefore_X0_dueIn : GoodIn wsX0_unassessedBefore wsX0_dueIn := goodIn_r _ [7, 8, 9, 10, 11, 12, 6, 13, 14, 15, 16, 17, 18, 19, 20, 21, 22, 23, 24, 25, 26, 27, 28, 29, 30, 31, 32, 33, 34, 35, 36, 37, 38, 39] (by decide +kernel) (by decide +kernel)
set_option maxRecDepth 20000 in
theorem gX0_unassessedBefore_X0_dueIn : GoodIn wsX0_unassessedBefore (wsV RX0 55 RX0 yX0_dueIn wsX0_dueIn) := goodIn_app (goodIn_of _ (by decide +kernel)) ggX0_unassessedBefore_X0_dueIn
theorem dX0_unassessedBefore_0 : decode cX0_unassessedBefore 0 = .ok (.iconst 0, 1) := by decide +kernel
theorem dX0_unassessedBefore_1 : decode cX0_unassessedBefore 1 = .ok (.istore_n 2, 1) := by decide +kernel
theorem dX0_unassessedBefore_2 : decode cX0_unassessedBefore 2 = .ok (.aload_n 0, 1) := by decide +kernel
theorem dX0_unassessedBefore_3 : decode cX0_unassessedBefore 3 = .ok (.getfield 9, 3) := by decide +kernel
theorem dX0_unassessedBefore_6 : decode cX0_unassessedBefore 6 = .ok (.istore_n 3, 1) := by decide +kernel
theorem dX0_unassessedBefore_7 : decode cX0_unassessedBefore 7 = .ok (.iload_n 3, 1) := by decide +kernel
theorem dX0_unassessedBefore_8 : decode cX0_unassessedBefore 8 = .ok (.iload_n 1, 1) := by decide +kernel
theorem dX0_unassessedBefore_9 : decode cX0_unassessedBefore 9 = .ok (.if_icmp .ge 24, 3) := by decide +kernel
theorem dX0_unassessedBefore_12 : decode cX0_unassessedBefore 12 = .ok (.iload_n 2, 1) := by decide +kernel
theorem dX0_unassessedBefore_13 : decode cX0_unassessedBefore 13 = .ok (.aload_n 0, 1) := by decide +kernel
theorem dX0_unassessedBefore_14 : decode cX0_unassessedBefore 14 = .ok (.iload_n 3, 1) := by decide +kernel
theorem dX0_unassessedBefore_15 : decode cX0_unassessedBefore 15 = .ok (.invokevirtual 55, 3) := by decide +kernel
theorem dX0_unassessedBefore_18 : decode cX0_unassessedBefore 18 = .ok (.aload_n 0, 1) := by decide +kernel
theorem dX0_unassessedBefore_19 : decode cX0_unassessedBefore 19 = .ok (.getfield 23, 3) := by decide +kernel
theorem dX0_unassessedBefore_22 : decode cX0_unassessedBefore 22 = .ok (.iload_n 3, 1) := by decide +kernel
theorem dX0_unassessedBefore_23 : decode cX0_unassessedBefore 23 = .ok (.iaload, 1) := by decide +kernel
theorem dX0_unassessedBefore_24 : decode cX0_unassessedBefore 24 = .ok (.isub, 1) := by decide +kernel
theorem dX0_unassessedBefore_25 : decode cX0_unassessedBefore 25 = .ok (.iadd, 1) := by decide +kernel
theorem dX0_unassessedBefore_26 : decode cX0_unassessedBefore 26 = .ok (.istore_n 2, 1) := by decide +kernel
theorem dX0_unassessedBefore_27 : decode cX0_unassessedBefore 27 = .ok (.iinc 3 1, 3) := by decide +kernel
theorem dX0_unassessedBefore_30 : decode cX0_unassessedBefore 30 = .ok (.goto (-23), 3) := by decide +kernel
theorem dX0_unassessedBefore_33 : decode cX0_unassessedBefore 33 = .ok (.iload_n 2, 1) := by decide +kernel
theorem dX0_unassessedBefore_34 : decode cX0_unassessedBefore 34 = .ok (.ireturn, 1) := by decide +kernel
theorem dX0_owedAfter_0 : decode cX0_owedAfter 0 = .ok (.iconst 0, 1) := by decide +kernel
theorem dX0_owedAfter_1 : decode cX0_owedAfter 1 = .ok (.aload_n 0, 1) := by decide +kernel
theorem dX0_owedAfter_2 : decode cX0_owedAfter 2 = .ok (.getfield 58, 3) := by decide +kernel
theorem dX0_owedAfter_5 : decode cX0_owedAfter 5 = .ok (.iload_n 1, 1) := by decide +kernel
theorem dX0_owedAfter_6 : decode cX0_owedAfter 6 = .ok (.isub, 1) := by decide +kernel
theorem dX0_owedAfter_7 : decode cX0_owedAfter 7 = .ok (.invokestatic 40, 3) := by decide +kernel
theorem dX0_owedAfter_10 : decode cX0_owedAfter 10 = .ok (.ireturn, 1) := by decide +kernel
theorem dX0_arrearsOf_0 : decode cX0_arrearsOf 0 = .ok (.iconst 0, 1) := by decide +kernel
theorem dX0_arrearsOf_1 : decode cX0_arrearsOf 1 = .ok (.iload_n 1, 1) := by decide +kernel
theorem dX0_arrearsOf_2 : decode cX0_arrearsOf 2 = .ok (.aload_n 0, 1) := by decide +kernel
theorem dX0_arrearsOf_3 : decode cX0_arrearsOf 3 = .ok (.getfield 58, 3) := by decide +kernel
theorem dX0_arrearsOf_6 : decode cX0_arrearsOf 6 = .ok (.isub, 1) := by decide +kernel
theorem dX0_arrearsOf_7 : decode cX0_arrearsOf 7 = .ok (.invokestatic 40, 3) := by decide +kernel
theorem dX0_arrearsOf_10 : decode cX0_arrearsOf 10 = .ok (.ireturn, 1) := by decide +kernel
set_option maxRecDepth 20000 in
theorem ggX0_recoverableIn_X0_dueIn : GoodIn wsX0_recoverableIn wsX0_dueIn := goodIn_r _ [14, 2, 15, 16, 17, 18, 13, 19, 20, 7, 8, 5, 9, 21, 22, 23, 24, 3, 4, 6, 25, 26, 27, 28, 29, 30, 31, 32, 33, 34, 35, 36, 37, 38] (by decide +kernel) (by decide +kernel)
set_option maxRecDepth 20000 in
theorem gX0_recoverableIn_X0_dueIn : GoodIn wsX0_recoverableIn (wsV RX0 55 RX0 yX0_dueIn wsX0_dueIn) := goodIn_app (goodIn_of _ (by decide +kernel)) ggX0_recoverableIn_X0_dueIn
theorem dX0_recoverableIn_0 : decode cX0_recoverableIn 0 = .ok (.aload_n 0, 1) := by decide +kernel
theorem dX0_recoverableIn_1 : decode cX0_recoverableIn 1 = .ok (.getfield 61, 3) := by decide +kernel
theorem dX0_recoverableIn_4 : decode cX0_recoverableIn 4 = .ok (.ifCond .eq 5, 3) := by decide +kernel
theorem dX0_recoverableIn_7 : decode cX0_recoverableIn 7 = .ok (.iconst 0, 1) := by decide +kernel
theorem dX0_recoverableIn_8 : decode cX0_recoverableIn 8 = .ok (.ireturn, 1) := by decide +kernel
theorem dX0_recoverableIn_9 : decode cX0_recoverableIn 9 = .ok (.aload_n 0, 1) := by decide +kernel
theorem dX0_recoverableIn_10 : decode cX0_recoverableIn 10 = .ok (.iload_n 1, 1) := by decide +kernel
theorem dX0_recoverableIn_11 : decode cX0_recoverableIn 11 = .ok (.invokevirtual 55, 3) := by decide +kernel
theorem dX0_recoverableIn_14 : decode cX0_recoverableIn 14 = .ok (.istore_n 3, 1) := by decide +kernel
theorem dX0_recoverableIn_15 : decode cX0_recoverableIn 15 = .ok (.iload_n 3, 1) := by decide +kernel
theorem dX0_recoverableIn_16 : decode cX0_recoverableIn 16 = .ok (.bipush 15, 2) := by decide +kernel
theorem dX0_recoverableIn_18 : decode cX0_recoverableIn 18 = .ok (.imul, 1) := by decide +kernel
theorem dX0_recoverableIn_19 : decode cX0_recoverableIn 19 = .ok (.bipush 100, 2) := by decide +kernel
theorem dX0_recoverableIn_21 : decode cX0_recoverableIn 21 = .ok (.idiv, 1) := by decide +kernel
theorem dX0_recoverableIn_22 : decode cX0_recoverableIn 22 = .ok (.istore 4, 2) := by decide +kernel
theorem dX0_recoverableIn_24 : decode cX0_recoverableIn 24 = .ok (.iconst 0, 1) := by decide +kernel
theorem dX0_recoverableIn_25 : decode cX0_recoverableIn 25 = .ok (.iload_n 3, 1) := by decide +kernel
theorem dX0_recoverableIn_26 : decode cX0_recoverableIn 26 = .ok (.aload_n 0, 1) := by decide +kernel
theorem dX0_recoverableIn_27 : decode cX0_recoverableIn 27 = .ok (.getfield 17, 3) := by decide +kernel
theorem dX0_recoverableIn_30 : decode cX0_recoverableIn 30 = .ok (.iconst 3, 1) := by decide +kernel
theorem dX0_recoverableIn_31 : decode cX0_recoverableIn 31 = .ok (.aaload, 1) := by decide +kernel
theorem dX0_recoverableIn_32 : decode cX0_recoverableIn 32 = .ok (.iload_n 1, 1) := by decide +kernel
theorem dX0_recoverableIn_33 : decode cX0_recoverableIn 33 = .ok (.iaload, 1) := by decide +kernel
theorem dX0_recoverableIn_34 : decode cX0_recoverableIn 34 = .ok (.iadd, 1) := by decide +kernel
theorem dX0_recoverableIn_35 : decode cX0_recoverableIn 35 = .ok (.sipush 25000, 3) := by decide +kernel
theorem dX0_recoverableIn_38 : decode cX0_recoverableIn 38 = .ok (.isub, 1) := by decide +kernel
theorem dX0_recoverableIn_39 : decode cX0_recoverableIn 39 = .ok (.invokestatic 40, 3) := by decide +kernel
theorem dX0_recoverableIn_42 : decode cX0_recoverableIn 42 = .ok (.istore 5, 2) := by decide +kernel
theorem dX0_recoverableIn_44 : decode cX0_recoverableIn 44 = .ok (.iload_n 2, 1) := by decide +kernel
theorem dX0_recoverableIn_45 : decode cX0_recoverableIn 45 = .ok (.iload 4, 2) := by decide +kernel
theorem dX0_recoverableIn_47 : decode cX0_recoverableIn 47 = .ok (.iload 5, 2) := by decide +kernel
theorem dX0_recoverableIn_49 : decode cX0_recoverableIn 49 = .ok (.invokestatic 34, 3) := by decide +kernel
theorem dX0_recoverableIn_52 : decode cX0_recoverableIn 52 = .ok (.invokestatic 34, 3) := by decide +kernel
theorem dX0_recoverableIn_55 : decode cX0_recoverableIn 55 = .ok (.ireturn, 1) := by decide +kernel
set_option maxRecDepth 20000 in
theorem ggX0_paymentIn_X0_unassessedBefore : GoodIn wsX0_paymentIn wsX0_unassessedBefore := goodIn_r _ [5, 6, 7, 8, 9, 10, 4, 11, 12, 13, 14, 15, 16, 17, 18, 19, 20, 21, 22, 23, 24, 25, 26, 27, 28, 29, 30, 31, 32, 33, 34, 49, 50, 51, 52, 53, 54, 55, 56, 57] (by decide +kernel) (by decide +kernel)
set_option maxRecDepth 20000 in
theorem gX0_paymentIn_X0_unassessedBefore : GoodIn wsX0_paymentIn (wsV RX0 65 RX0 yX0_unassessedBefore wsX0_unassessedBefore) := goodIn_app (goodIn_of _ (by decide +kernel)) ggX0_paymentIn_X0_unassessedBefore
set_option maxRecDepth 20000 in
theorem ggX0_paymentIn_X0_owedAfter : GoodIn wsX0_paymentIn wsX0_owedAfter := goodIn_r _ [38, 39, 27, 28, 21, 29, 49, 50, 51, 52, 53, 54, 55, 56, 57] (by decide +kernel) (by decide +kernel)
set_option maxRecDepth 20000 in
theorem gX0_paymentIn_X0_owedAfter : GoodIn wsX0_paymentIn (wsV RX0 68 RX0 yX0_owedAfter wsX0_owedAfter) := goodIn_app (goodIn_of _ (by decide +kernel)) ggX0_paymentIn_X0_owedAfter
set_option maxRecDepth 20000 in
theorem ggX0_paymentIn_X0_recoverableIn : GoodIn wsX0_paymentIn wsX0_recoverableIn := goodIn_r _ [43, 44, 12, 27, 28, 21, 29, 19, 20, 22, 8, 9, 10, 4, 11, 13, 14, 15, 16, 17, 18, 23, 24, 25, 26, 30, 31, 32, 33, 34, 49, 50, 51, 52, 53, 54, 55, 56, 57] (by decide +kernel) (by decide +kernel)
set_option maxRecDepth 20000 in
theorem gX0_paymentIn_X0_recoverableIn : GoodIn wsX0_paymentIn (wsV RX0 71 RX0 yX0_recoverableIn wsX0_recoverableIn) := goodIn_app (goodIn_of _ (by decide +kernel)) ggX0_paymentIn_X0_recoverableIn
set_option maxRecDepth 20000 in
theorem ggX0_paymentIn_X0_dueIn : GoodIn wsX0_paymentIn wsX0_dueIn := goodIn_r _ [11, 12, 13, 14, 15, 16, 4, 17, 18, 19, 20, 21, 22, 23, 24, 25, 26, 27, 28, 29, 30, 31, 32, 33, 34, 49, 50, 51, 52, 53, 54, 55, 56, 57] (by decide +kernel) (by decide +kernel)
set_option maxRecDepth 20000 in
theorem gX0_paymentIn_X0_dueIn : GoodIn wsX0_paymentIn (wsV RX0 55 RX0 yX0_dueIn wsX0_dueIn) := goodIn_app (goodIn_of _ (by decide +kernel)) ggX0_paymentIn_X0_dueIn
set_option maxRecDepth 20000 in
theorem ggX0_paymentIn_X0_arrearsOf : GoodIn wsX0_paymentIn wsX0_arrearsOf := goodIn_r _ [48, 39, 27, 28, 21, 29, 49, 50, 51, 52, 53, 54, 55, 56, 57] (by decide +kernel) (by decide +kernel)
set_option maxRecDepth 20000 in
theorem gX0_paymentIn_X0_arrearsOf : GoodIn wsX0_paymentIn (wsV RX0 74 RX0 yX0_arrearsOf wsX0_arrearsOf) := goodIn_app (goodIn_of _ (by decide +kernel)) ggX0_paymentIn_X0_arrearsOf
theorem dX0_paymentIn_0 : decode cX0_paymentIn 0 = .ok (.aload_n 0, 1) := by decide +kernel
theorem dX0_paymentIn_1 : decode cX0_paymentIn 1 = .ok (.iload_n 1, 1) := by decide +kernel
theorem dX0_paymentIn_2 : decode cX0_paymentIn 2 = .ok (.invokevirtual 65, 3) := by decide +kernel
theorem dX0_paymentIn_5 : decode cX0_paymentIn 5 = .ok (.istore_n 2, 1) := by decide +kernel
theorem dX0_paymentIn_6 : decode cX0_paymentIn 6 = .ok (.aload_n 0, 1) := by decide +kernel
theorem dX0_paymentIn_7 : decode cX0_paymentIn 7 = .ok (.iload_n 1, 1) := by decide +kernel
theorem dX0_paymentIn_8 : decode cX0_paymentIn 8 = .ok (.aload_n 0, 1) := by decide +kernel
theorem dX0_paymentIn_9 : decode cX0_paymentIn 9 = .ok (.iload_n 2, 1) := by decide +kernel
theorem dX0_paymentIn_10 : decode cX0_paymentIn 10 = .ok (.invokevirtual 68, 3) := by decide +kernel
theorem dX0_paymentIn_13 : decode cX0_paymentIn 13 = .ok (.invokevirtual 71, 3) := by decide +kernel
theorem dX0_paymentIn_16 : decode cX0_paymentIn 16 = .ok (.istore_n 3, 1) := by decide +kernel
theorem dX0_paymentIn_17 : decode cX0_paymentIn 17 = .ok (.aload_n 0, 1) := by decide +kernel
theorem dX0_paymentIn_18 : decode cX0_paymentIn 18 = .ok (.iload_n 1, 1) := by decide +kernel
theorem dX0_paymentIn_19 : decode cX0_paymentIn 19 = .ok (.invokevirtual 55, 3) := by decide +kernel
theorem dX0_paymentIn_22 : decode cX0_paymentIn 22 = .ok (.iload_n 3, 1) := by decide +kernel
theorem dX0_paymentIn_23 : decode cX0_paymentIn 23 = .ok (.isub, 1) := by decide +kernel
theorem dX0_paymentIn_24 : decode cX0_paymentIn 24 = .ok (.aload_n 0, 1) := by decide +kernel
theorem dX0_paymentIn_25 : decode cX0_paymentIn 25 = .ok (.iload_n 2, 1) := by decide +kernel
theorem dX0_paymentIn_26 : decode cX0_paymentIn 26 = .ok (.invokevirtual 74, 3) := by decide +kernel
theorem dX0_paymentIn_29 : decode cX0_paymentIn 29 = .ok (.iadd, 1) := by decide +kernel
theorem dX0_paymentIn_30 : decode cX0_paymentIn 30 = .ok (.ireturn, 1) := by decide +kernel
set_option maxRecDepth 20000 in
theorem ggX0_settle_X0_paymentIn : GoodIn wsX0_settle wsX0_paymentIn := goodIn_r _ [9, 10, 11, 12, 8, 13, 2, 3, 14, 15, 16, 17, 18, 19, 20, 21, 22, 23, 24, 25, 26, 27, 28, 29, 30, 31, 32, 33, 34, 35, 36, 37, 38, 39, 40, 41, 42, 43, 44, 1, 45, 46, 47, 48, 49, 50, 51, 52, 53, 59, 60, 61, 62, 63, 64, 65, 66, 67] (by decide +kernel) (by decide +kernel)
set_option maxRecDepth 20000 in
theorem gX0_settle_X0_paymentIn : GoodIn wsX0_settle (wsV RX0 77 RX0 yX0_paymentIn wsX0_paymentIn) := goodIn_app (goodIn_of _ (by decide +kernel)) ggX0_settle_X0_paymentIn
set_option maxRecDepth 20000 in
theorem ggX0_settle_X0_unassessedBefore : GoodIn wsX0_settle wsX0_unassessedBefore := goodIn_r _ [13, 2, 3, 14, 15, 16, 8, 17, 18, 19, 20, 21, 22, 23, 24, 25, 26, 27, 28, 29, 30, 31, 32, 33, 34, 35, 36, 37, 38, 39, 40, 59, 60, 61, 62, 63, 64, 65, 66, 67] (by decide +kernel) (by decide +kernel)
set_option maxRecDepth 20000 in
theorem gX0_settle_X0_unassessedBefore : GoodIn wsX0_settle (wsV RX0 65 RX0 yX0_unassessedBefore wsX0_unassessedBefore) := goodIn_app (goodIn_of _ (by decide +kernel)) ggX0_settle_X0_unassessedBefore
set_option maxRecDepth 20000 in
theorem ggX0_settle_X0_owedAfter : GoodIn wsX0_settle wsX0_owedAfter := goodIn_r _ [44, 1, 33, 34, 27, 35, 59, 60, 61, 62, 63, 64, 65, 66, 67] (by decide +kernel) (by decide +kernel)
set_option maxRecDepth 20000 in
theorem gX0_settle_X0_owedAfter : GoodIn wsX0_settle (wsV RX0 68 RX0 yX0_owedAfter wsX0_owedAfter) := goodIn_app (goodIn_of _ (by decide +kernel)) ggX0_settle_X0_owedAfter
set_option maxRecDepth 20000 in
theorem ggX0_settle_X0_recoverableIn : GoodIn wsX0_settle wsX0_recoverableIn := goodIn_r _ [48, 49, 18, 33, 34, 27, 35, 25, 26, 28, 14, 15, 16, 8, 17, 19, 20, 21, 22, 23, 24, 29, 30, 31, 32, 36, 37, 38, 39, 40, 59, 60, 61, 62, 63, 64, 65, 66, 67] (by decide +kernel) (by decide +kernel)
set_option maxRecDepth 20000 in
theorem gX0_settle_X0_recoverableIn : GoodIn wsX0_settle (wsV RX0 71 RX0 yX0_recoverableIn wsX0_recoverableIn) := goodIn_app (goodIn_of _ (by decide +kernel)) ggX0_settle_X0_recoverableIn
set_option maxRecDepth 20000 in
theorem ggX0_settle_X0_lowerDebt : GoodIn wsX0_settle wsX0_lowerDebt := goodIn_r _ [57, 1, 58, 59, 60, 61, 62, 63, 64, 65, 66, 67] (by decide +kernel) (by decide +kernel)
set_option maxRecDepth 20000 in
theorem gX0_settle_X0_lowerDebt : GoodIn wsX0_settle (wsV RX0 80 RX0 yX0_lowerDebt wsX0_lowerDebt) := goodIn_app (goodIn_of _ (by decide +kernel)) ggX0_settle_X0_lowerDebt
set_option maxRecDepth 20000 in
theorem ggX0_settle_X0_dueIn : GoodIn wsX0_settle wsX0_dueIn := goodIn_r _ [17, 18, 19, 20, 21, 22, 8, 23, 24, 25, 26, 27, 28, 29, 30, 31, 32, 33, 34, 35, 36, 37, 38, 39, 40, 59, 60, 61, 62, 63, 64, 65, 66, 67] (by decide +kernel) (by decide +kernel)
set_option maxRecDepth 20000 in
theorem gX0_settle_X0_dueIn : GoodIn wsX0_settle (wsV RX0 55 RX0 yX0_dueIn wsX0_dueIn) := goodIn_app (goodIn_of _ (by decide +kernel)) ggX0_settle_X0_dueIn
theorem dX0_settle_0 : decode cX0_settle 0 = .ok (.aload_n 0, 1) := by decide +kernel
theorem dX0_settle_1 : decode cX0_settle 1 = .ok (.iload_n 1, 1) := by decide +kernel
theorem dX0_settle_2 : decode cX0_settle 2 = .ok (.invokevirtual 77, 3) := by decide +kernel
theorem dX0_settle_5 : decode cX0_settle 5 = .ok (.istore_n 2, 1) := by decide +kernel
theorem dX0_settle_6 : decode cX0_settle 6 = .ok (.aload_n 0, 1) := by decide +kernel
theorem dX0_settle_7 : decode cX0_settle 7 = .ok (.aload_n 0, 1) := by decide +kernel
theorem dX0_settle_8 : decode cX0_settle 8 = .ok (.aload_n 0, 1) := by decide +kernel
theorem dX0_settle_9 : decode cX0_settle 9 = .ok (.iload_n 1, 1) := by decide +kernel
theorem dX0_settle_10 : decode cX0_settle 10 = .ok (.invokevirtual 65, 3) := by decide +kernel
theorem dX0_settle_13 : decode cX0_settle 13 = .ok (.invokevirtual 68, 3) := by decide +kernel
theorem dX0_settle_16 : decode cX0_settle 16 = .ok (.putfield 58, 3) := by decide +kernel
theorem dX0_settle_19 : decode cX0_settle 19 = .ok (.aload_n 0, 1) := by decide +kernel
theorem dX0_settle_20 : decode cX0_settle 20 = .ok (.aload_n 0, 1) := by decide +kernel
theorem dX0_settle_21 : decode cX0_settle 21 = .ok (.iload_n 1, 1) := by decide +kernel
theorem dX0_settle_22 : decode cX0_settle 22 = .ok (.aload_n 0, 1) := by decide +kernel
theorem dX0_settle_23 : decode cX0_settle 23 = .ok (.getfield 58, 3) := by decide +kernel
theorem dX0_settle_26 : decode cX0_settle 26 = .ok (.invokevirtual 71, 3) := by decide +kernel
theorem dX0_settle_29 : decode cX0_settle 29 = .ok (.invokevirtual 80, 3) := by decide +kernel
theorem dX0_settle_32 : decode cX0_settle 32 = .ok (.aload_n 0, 1) := by decide +kernel
theorem dX0_settle_33 : decode cX0_settle 33 = .ok (.getfield 9, 3) := by decide +kernel
theorem dX0_settle_36 : decode cX0_settle 36 = .ok (.istore_n 3, 1) := by decide +kernel
theorem dX0_settle_37 : decode cX0_settle 37 = .ok (.iload_n 3, 1) := by decide +kernel
theorem dX0_settle_38 : decode cX0_settle 38 = .ok (.iload_n 1, 1) := by decide +kernel
theorem dX0_settle_39 : decode cX0_settle 39 = .ok (.if_icmp .gt 20, 3) := by decide +kernel
theorem dX0_settle_42 : decode cX0_settle 42 = .ok (.aload_n 0, 1) := by decide +kernel
theorem dX0_settle_43 : decode cX0_settle 43 = .ok (.getfield 23, 3) := by decide +kernel
theorem dX0_settle_46 : decode cX0_settle 46 = .ok (.iload_n 3, 1) := by decide +kernel
theorem dX0_settle_47 : decode cX0_settle 47 = .ok (.aload_n 0, 1) := by decide +kernel
theorem dX0_settle_48 : decode cX0_settle 48 = .ok (.iload_n 3, 1) := by decide +kernel
theorem dX0_settle_49 : decode cX0_settle 49 = .ok (.invokevirtual 55, 3) := by decide +kernel
theorem dX0_settle_52 : decode cX0_settle 52 = .ok (.iastore, 1) := by decide +kernel
theorem dX0_settle_53 : decode cX0_settle 53 = .ok (.iinc 3 1, 3) := by decide +kernel
theorem dX0_settle_56 : decode cX0_settle 56 = .ok (.goto (-19), 3) := by decide +kernel
theorem dX0_settle_59 : decode cX0_settle 59 = .ok (.aload_n 0, 1) := by decide +kernel
theorem dX0_settle_60 : decode cX0_settle 60 = .ok (.getfield 27, 3) := by decide +kernel
theorem dX0_settle_63 : decode cX0_settle 63 = .ok (.iload_n 1, 1) := by decide +kernel
theorem dX0_settle_64 : decode cX0_settle 64 = .ok (.iload_n 2, 1) := by decide +kernel
theorem dX0_settle_65 : decode cX0_settle 65 = .ok (.iastore, 1) := by decide +kernel
theorem dX0_settle_66 : decode cX0_settle 66 = .ok (.iload_n 2, 1) := by decide +kernel
theorem dX0_settle_67 : decode cX0_settle 67 = .ok (.ireturn, 1) := by decide +kernel
theorem dX0_lowerDebt_0 : decode cX0_lowerDebt 0 = .ok (.aload_n 0, 1) := by decide +kernel
theorem dX0_lowerDebt_1 : decode cX0_lowerDebt 1 = .ok (.dup, 1) := by decide +kernel
theorem dX0_lowerDebt_2 : decode cX0_lowerDebt 2 = .ok (.getfield 58, 3) := by decide +kernel
theorem dX0_lowerDebt_5 : decode cX0_lowerDebt 5 = .ok (.iload_n 1, 1) := by decide +kernel
theorem dX0_lowerDebt_6 : decode cX0_lowerDebt 6 = .ok (.isub, 1) := by decide +kernel
theorem dX0_lowerDebt_7 : decode cX0_lowerDebt 7 = .ok (.putfield 58, 3) := by decide +kernel
theorem dX0_lowerDebt_10 : decode cX0_lowerDebt 10 = .ok (.aload_n 0, 1) := by decide +kernel
theorem dX0_lowerDebt_11 : decode cX0_lowerDebt 11 = .ok (.dup, 1) := by decide +kernel
theorem dX0_lowerDebt_12 : decode cX0_lowerDebt 12 = .ok (.getfield 84, 3) := by decide +kernel
theorem dX0_lowerDebt_15 : decode cX0_lowerDebt 15 = .ok (.iload_n 1, 1) := by decide +kernel
theorem dX0_lowerDebt_16 : decode cX0_lowerDebt 16 = .ok (.iadd, 1) := by decide +kernel
theorem dX0_lowerDebt_17 : decode cX0_lowerDebt 17 = .ok (.putfield 84, 3) := by decide +kernel
end
section
theorem dX0_lowerDebt_20 : decode cX0_lowerDebt 20 = .ok (.return_, 1) := by decide +kernel
theorem dX1_init_0 : decode cX1_init 0 = .ok (.aload_n 0, 1) := by decide +kernel
theorem dX1_init_1 : decode cX1_init 1 = .ok (.invokespecial 1, 3) := by decide +kernel
theorem dX1_init_4 : decode cX1_init 4 = .ok (.aload_n 0, 1) := by decide +kernel
theorem dX1_init_5 : decode cX1_init 5 = .ok (.bipush 6, 2) := by decide +kernel
theorem dX1_init_7 : decode cX1_init 7 = .ok (.anewarray 9, 3) := by decide +kernel
theorem dX1_init_10 : decode cX1_init 10 = .ok (.putfield 11, 3) := by decide +kernel
theorem dX1_init_13 : decode cX1_init 13 = .ok (.aload_n 0, 1) := by decide +kernel
theorem dX1_init_14 : decode cX1_init 14 = .ok (.iconst 0, 1) := by decide +kernel
theorem dX1_init_15 : decode cX1_init 15 = .ok (.putfield 15, 3) := by decide +kernel
theorem dX1_init_18 : decode cX1_init 18 = .ok (.aload_n 0, 1) := by decide +kernel
theorem dX1_init_19 : decode cX1_init 19 = .ok (.iconst 0, 1) := by decide +kernel
theorem dX1_init_20 : decode cX1_init 20 = .ok (.putfield 19, 3) := by decide +kernel
theorem dX1_init_23 : decode cX1_init 23 = .ok (.return_, 1) := by decide +kernel
set_option maxRecDepth 20000 in
theorem ggX1_add_X0_init : GoodIn wsX1_add wsX0_init := goodIn_r _ [10, 11, 12, 13, 14, 15, 16, 17, 18, 19, 20, 24, 25, 26, 27, 28, 29, 30, 31, 32] (by decide +kernel) (by decide +kernel)
set_option maxRecDepth 20000 in
theorem gX1_add_X0_init_n31 : GoodIn wsX1_add (wsX0_init) := ggX1_add_X0_init
theorem dX1_add_0 : decode cX1_add 0 = .ok (.aload_n 0, 1) := by decide +kernel
theorem dX1_add_1 : decode cX1_add 1 = .ok (.getfield 15, 3) := by decide +kernel
theorem dX1_add_4 : decode cX1_add 4 = .ok (.ifCond .lt 15, 3) := by decide +kernel
theorem dX1_add_7 : decode cX1_add 7 = .ok (.aload_n 0, 1) := by decide +kernel
theorem dX1_add_8 : decode cX1_add 8 = .ok (.getfield 15, 3) := by decide +kernel
theorem dX1_add_11 : decode cX1_add 11 = .ok (.aload_n 0, 1) := by decide +kernel
theorem dX1_add_12 : decode cX1_add 12 = .ok (.getfield 11, 3) := by decide +kernel
theorem dX1_add_15 : decode cX1_add 15 = .ok (.arraylength, 1) := by decide +kernel
theorem dX1_add_16 : decode cX1_add 16 = .ok (.if_icmp .lt 13, 3) := by decide +kernel
theorem dX1_add_19 : decode cX1_add 19 = .ok (.new 22, 3) := by decide +kernel
theorem dX1_add_22 : decode cX1_add 22 = .ok (.dup, 1) := by decide +kernel
theorem dX1_add_23 : decode cX1_add 23 = .ok (.ldc 24, 2) := by decide +kernel
theorem dX1_add_25 : decode cX1_add 25 = .ok (.invokespecial 26, 3) := by decide +kernel
theorem dX1_add_28 : decode cX1_add 28 = .ok (.athrow, 1) := by decide +kernel
theorem dX1_add_29 : decode cX1_add 29 = .ok (.aload_n 0, 1) := by decide +kernel
theorem dX1_add_30 : decode cX1_add 30 = .ok (.getfield 19, 3) := by decide +kernel
theorem dX1_add_33 : decode cX1_add 33 = .ok (.bipush 48, 2) := by decide +kernel
theorem dX1_add_35 : decode cX1_add 35 = .ok (.if_icmp .lt 13, 3) := by decide +kernel
theorem dX1_add_38 : decode cX1_add 38 = .ok (.new 22, 3) := by decide +kernel
theorem dX1_add_41 : decode cX1_add 41 = .ok (.dup, 1) := by decide +kernel
theorem dX1_add_42 : decode cX1_add 42 = .ok (.ldc 29, 2) := by decide +kernel
theorem dX1_add_44 : decode cX1_add 44 = .ok (.invokespecial 26, 3) := by decide +kernel
theorem dX1_add_47 : decode cX1_add 47 = .ok (.athrow, 1) := by decide +kernel
theorem dX1_add_48 : decode cX1_add 48 = .ok (.aload_n 0, 1) := by decide +kernel
theorem dX1_add_49 : decode cX1_add 49 = .ok (.getfield 15, 3) := by decide +kernel
theorem dX1_add_52 : decode cX1_add 52 = .ok (.istore_n 1, 1) := by decide +kernel
theorem dX1_add_53 : decode cX1_add 53 = .ok (.aload_n 0, 1) := by decide +kernel
theorem dX1_add_54 : decode cX1_add 54 = .ok (.getfield 11, 3) := by decide +kernel
theorem dX1_add_57 : decode cX1_add 57 = .ok (.iload_n 1, 1) := by decide +kernel
theorem dX1_add_58 : decode cX1_add 58 = .ok (.new 9, 3) := by decide +kernel
theorem dX1_add_61 : decode cX1_add 61 = .ok (.dup, 1) := by decide +kernel
theorem dX1_add_62 : decode cX1_add 62 = .ok (.aload_n 0, 1) := by decide +kernel
theorem dX1_add_63 : decode cX1_add 63 = .ok (.getfield 19, 3) := by decide +kernel
theorem dX1_add_66 : decode cX1_add 66 = .ok (.invokespecial 31, 3) := by decide +kernel
theorem dX1_add_69 : decode cX1_add 69 = .ok (.aastore, 1) := by decide +kernel
theorem dX1_add_70 : decode cX1_add 70 = .ok (.aload_n 0, 1) := by decide +kernel
theorem dX1_add_71 : decode cX1_add 71 = .ok (.iload_n 1, 1) := by decide +kernel
theorem dX1_add_72 : decode cX1_add 72 = .ok (.iconst 1, 1) := by decide +kernel
theorem dX1_add_73 : decode cX1_add 73 = .ok (.iadd, 1) := by decide +kernel
theorem dX1_add_74 : decode cX1_add 74 = .ok (.putfield 15, 3) := by decide +kernel
theorem dX1_add_77 : decode cX1_add 77 = .ok (.iload_n 1, 1) := by decide +kernel
theorem dX1_add_78 : decode cX1_add 78 = .ok (.ireturn, 1) := by decide +kernel
set_option maxRecDepth 20000 in
theorem ggX1_tell_X1_existing : GoodIn wsX1_tell wsX1_existing := goodIn_ca (goodIn_r _ [11, 12, 13, 14, 37, 38, 39] (by decide +kernel) (by decide +kernel)) (goodIn_sub (fun _ h => List.mem_cons_of_mem _ (List.mem_append_right _ h)) (by decide +kernel))
set_option maxRecDepth 20000 in
theorem gX1_tell_X1_existing : GoodIn wsX1_tell (wsV RX1 34 RX1 yX1_existing wsX1_existing) := goodIn_app (goodIn_of _ (by decide +kernel)) ggX1_tell_X1_existing
set_option maxRecDepth 20000 in
theorem ggX1_tell_X1_checkFact : GoodIn wsX1_tell wsX1_checkFact := goodIn_ca (goodIn_r _ [17, 1, 2] (by decide +kernel) (by decide +kernel)) (goodIn_sub (fun _ h => List.mem_cons_of_mem _ (List.mem_append_left _ (List.mem_append_left _ (List.mem_append_right _ h)))) (by decide +kernel))
set_option maxRecDepth 20000 in
theorem gX1_tell_X1_checkFact : GoodIn wsX1_tell (va_wsS RX1 38 yX1_checkFact wsX1_checkFact) := goodIn_app (goodIn_of _ (by decide +kernel)) ggX1_tell_X1_checkFact
set_option maxRecDepth 20000 in
theorem ggX1_tell_X1_monthCountedFrom : GoodIn wsX1_tell wsX1_monthCountedFrom := goodIn_r _ [20] (by decide +kernel) (by decide +kernel)
set_option maxRecDepth 20000 in
theorem gX1_tell_X1_monthCountedFrom : GoodIn wsX1_tell (va_wsS RX1 60 yX1_monthCountedFrom wsX1_monthCountedFrom) := goodIn_app (goodIn_of _ (by decide +kernel)) ggX1_tell_X1_monthCountedFrom
set_option maxRecDepth 20000 in
theorem ggX1_tell_X0_change : GoodIn wsX1_tell wsX0_change := goodIn_r _ [24, 25, 26, 27, 28, 29, 30, 31, 32, 33, 34, 35, 36] (by decide +kernel) (by decide +kernel)
set_option maxRecDepth 20000 in
theorem gX1_tell_X0_change_n64 : GoodIn wsX1_tell (wsX0_change) := ggX1_tell_X0_change
theorem dX1_tell_0 : decode cX1_tell 0 = .ok (.aload_n 0, 1) := by decide +kernel
theorem dX1_tell_1 : decode cX1_tell 1 = .ok (.iload_n 1, 1) := by decide +kernel
theorem dX1_tell_2 : decode cX1_tell 2 = .ok (.invokevirtual 34, 3) := by decide +kernel
theorem dX1_tell_5 : decode cX1_tell 5 = .ok (.astore 5, 2) := by decide +kernel
theorem dX1_tell_7 : decode cX1_tell 7 = .ok (.iload_n 2, 1) := by decide +kernel
theorem dX1_tell_8 : decode cX1_tell 8 = .ok (.invokestatic 38, 3) := by decide +kernel
theorem dX1_tell_11 : decode cX1_tell 11 = .ok (.iload_n 3, 1) := by decide +kernel
theorem dX1_tell_12 : decode cX1_tell 12 = .ok (.ifCond .lt 10, 3) := by decide +kernel
theorem dX1_tell_15 : decode cX1_tell 15 = .ok (.iload_n 3, 1) := by decide +kernel
theorem dX1_tell_16 : decode cX1_tell 16 = .ok (.sipush 1440, 3) := by decide +kernel
theorem dX1_tell_19 : decode cX1_tell 19 = .ok (.if_icmp .lt 13, 3) := by decide +kernel
theorem dX1_tell_22 : decode cX1_tell 22 = .ok (.new 41, 3) := by decide +kernel
theorem dX1_tell_25 : decode cX1_tell 25 = .ok (.dup, 1) := by decide +kernel
theorem dX1_tell_26 : decode cX1_tell 26 = .ok (.ldc 43, 2) := by decide +kernel
theorem dX1_tell_28 : decode cX1_tell 28 = .ok (.invokespecial 45, 3) := by decide +kernel
theorem dX1_tell_31 : decode cX1_tell 31 = .ok (.athrow, 1) := by decide +kernel
theorem dX1_tell_32 : decode cX1_tell 32 = .ok (.iload 4, 2) := by decide +kernel
theorem dX1_tell_34 : decode cX1_tell 34 = .ok (.getstatic 46, 3) := by decide +kernel
theorem dX1_tell_37 : decode cX1_tell 37 = .ok (.iload_n 2, 1) := by decide +kernel
theorem dX1_tell_38 : decode cX1_tell 38 = .ok (.iaload, 1) := by decide +kernel
theorem dX1_tell_39 : decode cX1_tell 39 = .ok (.if_icmp .lt 13, 3) := by decide +kernel
theorem dX1_tell_42 : decode cX1_tell 42 = .ok (.iload 4, 2) := by decide +kernel
theorem dX1_tell_44 : decode cX1_tell 44 = .ok (.getstatic 50, 3) := by decide +kernel
theorem dX1_tell_47 : decode cX1_tell 47 = .ok (.iload_n 2, 1) := by decide +kernel
theorem dX1_tell_48 : decode cX1_tell 48 = .ok (.iaload, 1) := by decide +kernel
theorem dX1_tell_49 : decode cX1_tell 49 = .ok (.if_icmp .le 13, 3) := by decide +kernel
theorem dX1_tell_52 : decode cX1_tell 52 = .ok (.new 41, 3) := by decide +kernel
theorem dX1_tell_55 : decode cX1_tell 55 = .ok (.dup, 1) := by decide +kernel
theorem dX1_tell_56 : decode cX1_tell 56 = .ok (.ldc 53, 2) := by decide +kernel
theorem dX1_tell_58 : decode cX1_tell 58 = .ok (.invokespecial 45, 3) := by decide +kernel
theorem dX1_tell_61 : decode cX1_tell 61 = .ok (.athrow, 1) := by decide +kernel
theorem dX1_tell_62 : decode cX1_tell 62 = .ok (.aload 5, 2) := by decide +kernel
theorem dX1_tell_64 : decode cX1_tell 64 = .ok (.getfield 55, 3) := by decide +kernel
theorem dX1_tell_67 : decode cX1_tell 67 = .ok (.bipush 100, 2) := by decide +kernel
theorem dX1_tell_69 : decode cX1_tell 69 = .ok (.if_icmp .lt 13, 3) := by decide +kernel
theorem dX1_tell_72 : decode cX1_tell 72 = .ok (.new 22, 3) := by decide +kernel
theorem dX1_tell_75 : decode cX1_tell 75 = .ok (.dup, 1) := by decide +kernel
theorem dX1_tell_76 : decode cX1_tell 76 = .ok (.ldc 58, 2) := by decide +kernel
theorem dX1_tell_78 : decode cX1_tell 78 = .ok (.invokespecial 26, 3) := by decide +kernel
theorem dX1_tell_81 : decode cX1_tell 81 = .ok (.athrow, 1) := by decide +kernel
theorem dX1_tell_82 : decode cX1_tell 82 = .ok (.iload_n 3, 1) := by decide +kernel
theorem dX1_tell_83 : decode cX1_tell 83 = .ok (.invokestatic 60, 3) := by decide +kernel
theorem dX1_tell_86 : decode cX1_tell 86 = .ok (.istore 6, 2) := by decide +kernel
theorem dX1_tell_88 : decode cX1_tell 88 = .ok (.aload 5, 2) := by decide +kernel
theorem dX1_tell_90 : decode cX1_tell 90 = .ok (.iload_n 2, 1) := by decide +kernel
theorem dX1_tell_91 : decode cX1_tell 91 = .ok (.iload 6, 2) := by decide +kernel
theorem dX1_tell_93 : decode cX1_tell 93 = .ok (.iload 4, 2) := by decide +kernel
theorem dX1_tell_95 : decode cX1_tell 95 = .ok (.invokevirtual 64, 3) := by decide +kernel
theorem dX1_tell_98 : decode cX1_tell 98 = .ok (.iload 6, 2) := by decide +kernel
theorem dX1_tell_100 : decode cX1_tell 100 = .ok (.ireturn, 1) := by decide +kernel
set_option maxRecDepth 20000 in
theorem ggX1_dispute_X1_existing : GoodIn wsX1_dispute wsX1_existing := goodIn_ca (goodIn_r _ [5, 6, 7, 8, 18, 19, 20] (by decide +kernel) (by decide +kernel)) (goodIn_sub (fun _ h => List.mem_cons_of_mem _ (List.mem_append_right _ h)) (by decide +kernel))
set_option maxRecDepth 20000 in
theorem gX1_dispute_X1_existing : GoodIn wsX1_dispute (wsV RX1 34 RX1 yX1_existing wsX1_existing) := goodIn_app (goodIn_of _ (by decide +kernel)) ggX1_dispute_X1_existing
theorem dX1_dispute_0 : decode cX1_dispute 0 = .ok (.aload_n 0, 1) := by decide +kernel
theorem dX1_dispute_1 : decode cX1_dispute 1 = .ok (.iload_n 1, 1) := by decide +kernel
theorem dX1_dispute_2 : decode cX1_dispute 2 = .ok (.invokevirtual 34, 3) := by decide +kernel
theorem dX1_dispute_5 : decode cX1_dispute 5 = .ok (.astore_n 3, 1) := by decide +kernel
theorem dX1_dispute_6 : decode cX1_dispute 6 = .ok (.aload_n 3, 1) := by decide +kernel
theorem dX1_dispute_7 : decode cX1_dispute 7 = .ok (.getfield 68, 3) := by decide +kernel
theorem dX1_dispute_10 : decode cX1_dispute 10 = .ok (.istore 4, 2) := by decide +kernel
theorem dX1_dispute_12 : decode cX1_dispute 12 = .ok (.aload_n 3, 1) := by decide +kernel
theorem dX1_dispute_13 : decode cX1_dispute 13 = .ok (.iload_n 2, 1) := by decide +kernel
theorem dX1_dispute_14 : decode cX1_dispute 14 = .ok (.putfield 68, 3) := by decide +kernel
theorem dX1_dispute_17 : decode cX1_dispute 17 = .ok (.iload 4, 2) := by decide +kernel
theorem dX1_dispute_19 : decode cX1_dispute 19 = .ok (.ireturn, 1) := by decide +kernel
set_option maxRecDepth 20000 in
theorem ggX1_payBack_X1_existing : GoodIn wsX1_payBack wsX1_existing := goodIn_ca (goodIn_r _ [10, 11, 12, 13, 29, 30, 31] (by decide +kernel) (by decide +kernel)) (goodIn_sub (fun _ h => List.mem_cons_of_mem _ (List.mem_append_right _ h)) (by decide +kernel))
set_option maxRecDepth 20000 in
theorem gX1_payBack_X1_existing : GoodIn wsX1_payBack (wsV RX1 34 RX1 yX1_existing wsX1_existing) := goodIn_app (goodIn_of _ (by decide +kernel)) ggX1_payBack_X1_existing
set_option maxRecDepth 20000 in
theorem ggX1_payBack_X0_lowerDebt : GoodIn wsX1_payBack wsX0_lowerDebt := goodIn_r _ [17, 18, 19, 20, 21, 22, 23, 24, 25, 26, 27, 28] (by decide +kernel) (by decide +kernel)
set_option maxRecDepth 20000 in
theorem gX1_payBack_X0_lowerDebt_n80 : GoodIn wsX1_payBack (wsX0_lowerDebt) := ggX1_payBack_X0_lowerDebt
theorem dX1_payBack_0 : decode cX1_payBack 0 = .ok (.aload_n 0, 1) := by decide +kernel
theorem dX1_payBack_1 : decode cX1_payBack 1 = .ok (.iload_n 1, 1) := by decide +kernel
theorem dX1_payBack_2 : decode cX1_payBack 2 = .ok (.invokevirtual 34, 3) := by decide +kernel
theorem dX1_payBack_5 : decode cX1_payBack 5 = .ok (.astore_n 3, 1) := by decide +kernel
theorem dX1_payBack_6 : decode cX1_payBack 6 = .ok (.iload_n 2, 1) := by decide +kernel
theorem dX1_payBack_7 : decode cX1_payBack 7 = .ok (.iconst 1, 1) := by decide +kernel
theorem dX1_payBack_8 : decode cX1_payBack 8 = .ok (.if_icmp .lt 9, 3) := by decide +kernel
theorem dX1_payBack_11 : decode cX1_payBack 11 = .ok (.iload_n 2, 1) := by decide +kernel
theorem dX1_payBack_12 : decode cX1_payBack 12 = .ok (.ldc 72, 2) := by decide +kernel
theorem dX1_payBack_14 : decode cX1_payBack 14 = .ok (.if_icmp .le 13, 3) := by decide +kernel
theorem dX1_payBack_17 : decode cX1_payBack 17 = .ok (.new 41, 3) := by decide +kernel
theorem dX1_payBack_20 : decode cX1_payBack 20 = .ok (.dup, 1) := by decide +kernel
theorem dX1_payBack_21 : decode cX1_payBack 21 = .ok (.ldc 73, 2) := by decide +kernel
theorem dX1_payBack_23 : decode cX1_payBack 23 = .ok (.invokespecial 45, 3) := by decide +kernel
theorem dX1_payBack_26 : decode cX1_payBack 26 = .ok (.athrow, 1) := by decide +kernel
theorem dX1_payBack_27 : decode cX1_payBack 27 = .ok (.aload_n 3, 1) := by decide +kernel
theorem dX1_payBack_28 : decode cX1_payBack 28 = .ok (.getfield 75, 3) := by decide +kernel
theorem dX1_payBack_31 : decode cX1_payBack 31 = .ok (.iload_n 2, 1) := by decide +kernel
theorem dX1_payBack_32 : decode cX1_payBack 32 = .ok (.if_icmp .ge 13, 3) := by decide +kernel
theorem dX1_payBack_35 : decode cX1_payBack 35 = .ok (.new 22, 3) := by decide +kernel
theorem dX1_payBack_38 : decode cX1_payBack 38 = .ok (.dup, 1) := by decide +kernel
theorem dX1_payBack_39 : decode cX1_payBack 39 = .ok (.ldc 78, 2) := by decide +kernel
theorem dX1_payBack_41 : decode cX1_payBack 41 = .ok (.invokespecial 26, 3) := by decide +kernel
theorem dX1_payBack_44 : decode cX1_payBack 44 = .ok (.athrow, 1) := by decide +kernel
theorem dX1_payBack_45 : decode cX1_payBack 45 = .ok (.aload_n 3, 1) := by decide +kernel
theorem dX1_payBack_46 : decode cX1_payBack 46 = .ok (.iload_n 2, 1) := by decide +kernel
theorem dX1_payBack_47 : decode cX1_payBack 47 = .ok (.invokevirtual 80, 3) := by decide +kernel
theorem dX1_payBack_50 : decode cX1_payBack 50 = .ok (.aload_n 3, 1) := by decide +kernel
theorem dX1_payBack_51 : decode cX1_payBack 51 = .ok (.getfield 75, 3) := by decide +kernel
theorem dX1_payBack_54 : decode cX1_payBack 54 = .ok (.ireturn, 1) := by decide +kernel
theorem dX1_households_0 : decode cX1_households 0 = .ok (.aload_n 0, 1) := by decide +kernel
theorem dX1_households_1 : decode cX1_households 1 = .ok (.getfield 15, 3) := by decide +kernel
theorem dX1_households_4 : decode cX1_households 4 = .ok (.ireturn, 1) := by decide +kernel
set_option maxRecDepth 20000 in
theorem ggX1_close_X0_settle : GoodIn wsX1_close wsX0_settle := goodIn_r _ [8, 9, 10, 11, 12, 13, 14, 15, 6, 16, 17, 18, 19, 20, 21, 22, 23, 24, 25, 26, 27, 28, 29, 30, 31, 32, 33, 34, 35, 36, 37, 38, 39, 40, 41, 42, 43, 44, 45, 46, 47, 48, 49, 50, 51, 52, 53, 54, 55, 56, 57, 58, 59, 60, 61, 62, 63, 64, 65, 69, 70, 71, 72, 73, 74, 75, 76, 77] (by decide +kernel) (by decide +kernel)
set_option maxRecDepth 20000 in
theorem gX1_close_X0_settle_n83 : GoodIn wsX1_close (wsX0_settle) := ggX1_close_X0_settle
theorem dX1_close_0 : decode cX1_close 0 = .ok (.aload_n 0, 1) := by decide +kernel
theorem dX1_close_1 : decode cX1_close 1 = .ok (.getfield 19, 3) := by decide +kernel
theorem dX1_close_4 : decode cX1_close 4 = .ok (.bipush 48, 2) := by decide +kernel
theorem dX1_close_6 : decode cX1_close 6 = .ok (.if_icmp .lt 13, 3) := by decide +kernel
theorem dX1_close_9 : decode cX1_close 9 = .ok (.new 22, 3) := by decide +kernel
theorem dX1_close_12 : decode cX1_close 12 = .ok (.dup, 1) := by decide +kernel
theorem dX1_close_13 : decode cX1_close 13 = .ok (.ldc 29, 2) := by decide +kernel
theorem dX1_close_15 : decode cX1_close 15 = .ok (.invokespecial 26, 3) := by decide +kernel
theorem dX1_close_18 : decode cX1_close 18 = .ok (.athrow, 1) := by decide +kernel
theorem dX1_close_19 : decode cX1_close 19 = .ok (.iconst 0, 1) := by decide +kernel
theorem dX1_close_20 : decode cX1_close 20 = .ok (.istore_n 1, 1) := by decide +kernel
theorem dX1_close_21 : decode cX1_close 21 = .ok (.aload_n 0, 1) := by decide +kernel
theorem dX1_close_22 : decode cX1_close 22 = .ok (.getfield 11, 3) := by decide +kernel
theorem dX1_close_25 : decode cX1_close 25 = .ok (.astore_n 2, 1) := by decide +kernel
theorem dX1_close_26 : decode cX1_close 26 = .ok (.aload_n 2, 1) := by decide +kernel
theorem dX1_close_27 : decode cX1_close 27 = .ok (.arraylength, 1) := by decide +kernel
theorem dX1_close_28 : decode cX1_close 28 = .ok (.istore_n 3, 1) := by decide +kernel
theorem dX1_close_29 : decode cX1_close 29 = .ok (.iconst 0, 1) := by decide +kernel
theorem dX1_close_30 : decode cX1_close 30 = .ok (.istore 4, 2) := by decide +kernel
theorem dX1_close_32 : decode cX1_close 32 = .ok (.iload 4, 2) := by decide +kernel
theorem dX1_close_34 : decode cX1_close 34 = .ok (.iload_n 3, 1) := by decide +kernel
theorem dX1_close_35 : decode cX1_close 35 = .ok (.if_icmp .ge 32, 3) := by decide +kernel
theorem dX1_close_38 : decode cX1_close 38 = .ok (.aload_n 2, 1) := by decide +kernel
theorem dX1_close_39 : decode cX1_close 39 = .ok (.iload 4, 2) := by decide +kernel
theorem dX1_close_41 : decode cX1_close 41 = .ok (.aaload, 1) := by decide +kernel
theorem dX1_close_42 : decode cX1_close 42 = .ok (.astore 5, 2) := by decide +kernel
theorem dX1_close_44 : decode cX1_close 44 = .ok (.aload 5, 2) := by decide +kernel
theorem dX1_close_46 : decode cX1_close 46 = .ok (.ifnull 15, 3) := by decide +kernel
theorem dX1_close_49 : decode cX1_close 49 = .ok (.iload_n 1, 1) := by decide +kernel
theorem dX1_close_50 : decode cX1_close 50 = .ok (.aload 5, 2) := by decide +kernel
theorem dX1_close_52 : decode cX1_close 52 = .ok (.aload_n 0, 1) := by decide +kernel
theorem dX1_close_53 : decode cX1_close 53 = .ok (.getfield 19, 3) := by decide +kernel
theorem dX1_close_56 : decode cX1_close 56 = .ok (.invokevirtual 83, 3) := by decide +kernel
theorem dX1_close_59 : decode cX1_close 59 = .ok (.iadd, 1) := by decide +kernel
theorem dX1_close_60 : decode cX1_close 60 = .ok (.istore_n 1, 1) := by decide +kernel
theorem dX1_close_61 : decode cX1_close 61 = .ok (.iinc 4 1, 3) := by decide +kernel
theorem dX1_close_64 : decode cX1_close 64 = .ok (.goto (-32), 3) := by decide +kernel
theorem dX1_close_67 : decode cX1_close 67 = .ok (.aload_n 0, 1) := by decide +kernel
theorem dX1_close_68 : decode cX1_close 68 = .ok (.dup, 1) := by decide +kernel
theorem dX1_close_69 : decode cX1_close 69 = .ok (.getfield 19, 3) := by decide +kernel
theorem dX1_close_72 : decode cX1_close 72 = .ok (.iconst 1, 1) := by decide +kernel
theorem dX1_close_73 : decode cX1_close 73 = .ok (.iadd, 1) := by decide +kernel
theorem dX1_close_74 : decode cX1_close 74 = .ok (.putfield 19, 3) := by decide +kernel
theorem dX1_close_77 : decode cX1_close 77 = .ok (.iload_n 1, 1) := by decide +kernel
theorem dX1_close_78 : decode cX1_close 78 = .ok (.ireturn, 1) := by decide +kernel
theorem dX1_month_0 : decode cX1_month 0 = .ok (.aload_n 0, 1) := by decide +kernel
theorem dX1_month_1 : decode cX1_month 1 = .ok (.getfield 19, 3) := by decide +kernel
theorem dX1_month_4 : decode cX1_month 4 = .ok (.bipush 48, 2) := by decide +kernel
theorem dX1_month_6 : decode cX1_month 6 = .ok (.if_icmp .ge 10, 3) := by decide +kernel
theorem dX1_month_9 : decode cX1_month 9 = .ok (.aload_n 0, 1) := by decide +kernel
theorem dX1_month_10 : decode cX1_month 10 = .ok (.getfield 19, 3) := by decide +kernel
theorem dX1_month_13 : decode cX1_month 13 = .ok (.goto 4, 3) := by decide +kernel
theorem dX1_month_16 : decode cX1_month 16 = .ok (.iconst (-1), 1) := by decide +kernel
theorem dX1_month_17 : decode cX1_month 17 = .ok (.ireturn, 1) := by decide +kernel
set_option maxRecDepth 20000 in
theorem ggX1_fact_X1_existing : GoodIn wsX1_fact wsX1_existing := goodIn_ca (goodIn_r _ [5, 6, 7, 8, 26, 27, 28] (by decide +kernel) (by decide +kernel)) (goodIn_sub (fun _ h => List.mem_cons_of_mem _ (List.mem_append_left _ (List.mem_append_right _ h))) (by decide +kernel))
set_option maxRecDepth 20000 in
theorem gX1_fact_X1_existing : GoodIn wsX1_fact (wsV RX1 34 RX1 yX1_existing wsX1_existing) := goodIn_app (goodIn_of _ (by decide +kernel)) ggX1_fact_X1_existing
set_option maxRecDepth 20000 in
theorem ggX1_fact_X1_checkMonth : GoodIn wsX1_fact wsX1_checkMonth := goodIn_ca (goodIn_r _ [11, 6, 7] (by decide +kernel) (by decide +kernel)) (goodIn_sub (fun _ h => List.mem_cons_of_mem _ (List.mem_append_left _ (List.mem_append_right _ h))) (by decide +kernel))
set_option maxRecDepth 20000 in
theorem gX1_fact_X1_checkMonth : GoodIn wsX1_fact (va_wsS RX1 86 yX1_checkMonth wsX1_checkMonth) := goodIn_app (goodIn_of _ (by decide +kernel)) ggX1_fact_X1_checkMonth
set_option maxRecDepth 20000 in
theorem ggX1_fact_X1_checkFact : GoodIn wsX1_fact wsX1_checkFact := goodIn_ca (goodIn_r _ [14, 15, 16] (by decide +kernel) (by decide +kernel)) (goodIn_sub (fun _ h => List.mem_cons_of_mem _ (List.mem_append_right _ h)) (by decide +kernel))
set_option maxRecDepth 20000 in
theorem gX1_fact_X1_checkFact : GoodIn wsX1_fact (va_wsS RX1 38 yX1_checkFact wsX1_checkFact) := goodIn_app (goodIn_of _ (by decide +kernel)) ggX1_fact_X1_checkFact
theorem dX1_fact_0 : decode cX1_fact 0 = .ok (.aload_n 0, 1) := by decide +kernel
theorem dX1_fact_1 : decode cX1_fact 1 = .ok (.iload_n 1, 1) := by decide +kernel
theorem dX1_fact_2 : decode cX1_fact 2 = .ok (.invokevirtual 34, 3) := by decide +kernel
theorem dX1_fact_5 : decode cX1_fact 5 = .ok (.astore 4, 2) := by decide +kernel
theorem dX1_fact_7 : decode cX1_fact 7 = .ok (.iload_n 3, 1) := by decide +kernel
theorem dX1_fact_8 : decode cX1_fact 8 = .ok (.invokestatic 86, 3) := by decide +kernel
theorem dX1_fact_11 : decode cX1_fact 11 = .ok (.iload_n 2, 1) := by decide +kernel
theorem dX1_fact_12 : decode cX1_fact 12 = .ok (.invokestatic 38, 3) := by decide +kernel
theorem dX1_fact_15 : decode cX1_fact 15 = .ok (.aload 4, 2) := by decide +kernel
theorem dX1_fact_17 : decode cX1_fact 17 = .ok (.getfield 89, 3) := by decide +kernel
theorem dX1_fact_20 : decode cX1_fact 20 = .ok (.iload_n 2, 1) := by decide +kernel
theorem dX1_fact_21 : decode cX1_fact 21 = .ok (.aaload, 1) := by decide +kernel
theorem dX1_fact_22 : decode cX1_fact 22 = .ok (.iload_n 3, 1) := by decide +kernel
theorem dX1_fact_23 : decode cX1_fact 23 = .ok (.iaload, 1) := by decide +kernel
theorem dX1_fact_24 : decode cX1_fact 24 = .ok (.ireturn, 1) := by decide +kernel
set_option maxRecDepth 20000 in
theorem ggX1_need_X1_existing : GoodIn wsX1_need wsX1_existing := goodIn_ca (goodIn_r _ [5, 6, 7, 8, 22, 23, 24] (by decide +kernel) (by decide +kernel)) (goodIn_sub (fun _ h => List.mem_cons_of_mem _ (List.mem_append_right _ h)) (by decide +kernel))
set_option maxRecDepth 20000 in
theorem gX1_need_X1_existing : GoodIn wsX1_need (wsV RX1 34 RX1 yX1_existing wsX1_existing) := goodIn_app (goodIn_of _ (by decide +kernel)) ggX1_need_X1_existing
set_option maxRecDepth 20000 in
theorem ggX1_need_X1_checkMonth : GoodIn wsX1_need wsX1_checkMonth := goodIn_ca (goodIn_r _ [11, 6, 7] (by decide +kernel) (by decide +kernel)) (goodIn_sub (fun _ h => List.mem_cons_of_mem _ (List.mem_append_right _ h)) (by decide +kernel))
set_option maxRecDepth 20000 in
theorem gX1_need_X1_checkMonth : GoodIn wsX1_need (va_wsS RX1 86 yX1_checkMonth wsX1_checkMonth) := goodIn_app (goodIn_of _ (by decide +kernel)) ggX1_need_X1_checkMonth
set_option maxRecDepth 20000 in
theorem ggX1_need_X0_needIn : GoodIn wsX1_need wsX0_needIn := goodIn_r _ [15, 16, 17, 18, 19, 20, 21, 25, 26, 27, 28, 29, 30, 31, 32, 33] (by decide +kernel) (by decide +kernel)
set_option maxRecDepth 20000 in
theorem gX1_need_X0_needIn_n93 : GoodIn wsX1_need (wsX0_needIn) := ggX1_need_X0_needIn
theorem dX1_need_0 : decode cX1_need 0 = .ok (.aload_n 0, 1) := by decide +kernel
theorem dX1_need_1 : decode cX1_need 1 = .ok (.iload_n 1, 1) := by decide +kernel
theorem dX1_need_2 : decode cX1_need 2 = .ok (.invokevirtual 34, 3) := by decide +kernel
theorem dX1_need_5 : decode cX1_need 5 = .ok (.astore_n 3, 1) := by decide +kernel
theorem dX1_need_6 : decode cX1_need 6 = .ok (.iload_n 2, 1) := by decide +kernel
theorem dX1_need_7 : decode cX1_need 7 = .ok (.invokestatic 86, 3) := by decide +kernel
theorem dX1_need_10 : decode cX1_need 10 = .ok (.aload_n 3, 1) := by decide +kernel
theorem dX1_need_11 : decode cX1_need 11 = .ok (.iload_n 2, 1) := by decide +kernel
theorem dX1_need_12 : decode cX1_need 12 = .ok (.invokevirtual 93, 3) := by decide +kernel
theorem dX1_need_15 : decode cX1_need 15 = .ok (.ireturn, 1) := by decide +kernel
set_option maxRecDepth 20000 in
theorem ggX1_taper_X1_existing : GoodIn wsX1_taper wsX1_existing := goodIn_ca (goodIn_r _ [5, 6, 7, 8, 21, 22, 23] (by decide +kernel) (by decide +kernel)) (goodIn_sub (fun _ h => List.mem_cons_of_mem _ (List.mem_append_right _ h)) (by decide +kernel))
set_option maxRecDepth 20000 in
theorem gX1_taper_X1_existing : GoodIn wsX1_taper (wsV RX1 34 RX1 yX1_existing wsX1_existing) := goodIn_app (goodIn_of _ (by decide +kernel)) ggX1_taper_X1_existing
set_option maxRecDepth 20000 in
theorem ggX1_taper_X1_checkMonth : GoodIn wsX1_taper wsX1_checkMonth := goodIn_ca (goodIn_r _ [11, 6, 7] (by decide +kernel) (by decide +kernel)) (goodIn_sub (fun _ h => List.mem_cons_of_mem _ (List.mem_append_right _ h)) (by decide +kernel))
set_option maxRecDepth 20000 in
theorem gX1_taper_X1_checkMonth : GoodIn wsX1_taper (va_wsS RX1 86 yX1_checkMonth wsX1_checkMonth) := goodIn_app (goodIn_of _ (by decide +kernel)) ggX1_taper_X1_checkMonth
set_option maxRecDepth 20000 in
theorem ggX1_taper_X0_taperIn : GoodIn wsX1_taper wsX0_taperIn := goodIn_r _ [15, 16, 17, 18, 19, 20, 24, 25, 26, 27, 28, 29, 30, 31, 32] (by decide +kernel) (by decide +kernel)
set_option maxRecDepth 20000 in
theorem gX1_taper_X0_taperIn_n96 : GoodIn wsX1_taper (wsX0_taperIn) := ggX1_taper_X0_taperIn
theorem dX1_taper_0 : decode cX1_taper 0 = .ok (.aload_n 0, 1) := by decide +kernel
theorem dX1_taper_1 : decode cX1_taper 1 = .ok (.iload_n 1, 1) := by decide +kernel
theorem dX1_taper_2 : decode cX1_taper 2 = .ok (.invokevirtual 34, 3) := by decide +kernel
theorem dX1_taper_5 : decode cX1_taper 5 = .ok (.astore_n 3, 1) := by decide +kernel
theorem dX1_taper_6 : decode cX1_taper 6 = .ok (.iload_n 2, 1) := by decide +kernel
theorem dX1_taper_7 : decode cX1_taper 7 = .ok (.invokestatic 86, 3) := by decide +kernel
theorem dX1_taper_10 : decode cX1_taper 10 = .ok (.aload_n 3, 1) := by decide +kernel
theorem dX1_taper_11 : decode cX1_taper 11 = .ok (.iload_n 2, 1) := by decide +kernel
theorem dX1_taper_12 : decode cX1_taper 12 = .ok (.invokevirtual 96, 3) := by decide +kernel
theorem dX1_taper_15 : decode cX1_taper 15 = .ok (.ireturn, 1) := by decide +kernel
set_option maxRecDepth 20000 in
theorem ggX1_tariff_X1_existing : GoodIn wsX1_tariff wsX1_existing := goodIn_ca (goodIn_r _ [5, 6, 7, 8, 22, 23, 24] (by decide +kernel) (by decide +kernel)) (goodIn_sub (fun _ h => List.mem_cons_of_mem _ (List.mem_append_right _ h)) (by decide +kernel))
set_option maxRecDepth 20000 in
theorem gX1_tariff_X1_existing : GoodIn wsX1_tariff (wsV RX1 34 RX1 yX1_existing wsX1_existing) := goodIn_app (goodIn_of _ (by decide +kernel)) ggX1_tariff_X1_existing
set_option maxRecDepth 20000 in
theorem ggX1_tariff_X1_checkMonth : GoodIn wsX1_tariff wsX1_checkMonth := goodIn_ca (goodIn_r _ [11, 6, 7] (by decide +kernel) (by decide +kernel)) (goodIn_sub (fun _ h => List.mem_cons_of_mem _ (List.mem_append_right _ h)) (by decide +kernel))
set_option maxRecDepth 20000 in
theorem gX1_tariff_X1_checkMonth : GoodIn wsX1_tariff (va_wsS RX1 86 yX1_checkMonth wsX1_checkMonth) := goodIn_app (goodIn_of _ (by decide +kernel)) ggX1_tariff_X1_checkMonth
set_option maxRecDepth 20000 in
theorem ggX1_tariff_X0_tariffIn : GoodIn wsX1_tariff wsX0_tariffIn := goodIn_r _ [15, 16, 17, 18, 19, 20, 21, 25, 26, 27, 28, 29, 30, 31, 32, 33] (by decide +kernel) (by decide +kernel)
set_option maxRecDepth 20000 in
theorem gX1_tariff_X0_tariffIn_n99 : GoodIn wsX1_tariff (wsX0_tariffIn) := ggX1_tariff_X0_tariffIn
theorem dX1_tariff_0 : decode cX1_tariff 0 = .ok (.aload_n 0, 1) := by decide +kernel
theorem dX1_tariff_1 : decode cX1_tariff 1 = .ok (.iload_n 1, 1) := by decide +kernel
theorem dX1_tariff_2 : decode cX1_tariff 2 = .ok (.invokevirtual 34, 3) := by decide +kernel
theorem dX1_tariff_5 : decode cX1_tariff 5 = .ok (.astore_n 3, 1) := by decide +kernel
theorem dX1_tariff_6 : decode cX1_tariff 6 = .ok (.iload_n 2, 1) := by decide +kernel
theorem dX1_tariff_7 : decode cX1_tariff 7 = .ok (.invokestatic 86, 3) := by decide +kernel
theorem dX1_tariff_10 : decode cX1_tariff 10 = .ok (.aload_n 3, 1) := by decide +kernel
theorem dX1_tariff_11 : decode cX1_tariff 11 = .ok (.iload_n 2, 1) := by decide +kernel
theorem dX1_tariff_12 : decode cX1_tariff 12 = .ok (.invokevirtual 99, 3) := by decide +kernel
theorem dX1_tariff_15 : decode cX1_tariff 15 = .ok (.ireturn, 1) := by decide +kernel
set_option maxRecDepth 20000 in
theorem ggX1_due_X1_existing : GoodIn wsX1_due wsX1_existing := goodIn_ca (goodIn_r _ [5, 6, 7, 8, 39, 40, 41] (by decide +kernel) (by decide +kernel)) (goodIn_sub (fun _ h => List.mem_cons_of_mem _ (List.mem_append_right _ h)) (by decide +kernel))
set_option maxRecDepth 20000 in
theorem gX1_due_X1_existing : GoodIn wsX1_due (wsV RX1 34 RX1 yX1_existing wsX1_existing) := goodIn_app (goodIn_of _ (by decide +kernel)) ggX1_due_X1_existing
set_option maxRecDepth 20000 in
theorem ggX1_due_X1_checkMonth : GoodIn wsX1_due wsX1_checkMonth := goodIn_ca (goodIn_r _ [11, 6, 7] (by decide +kernel) (by decide +kernel)) (goodIn_sub (fun _ h => List.mem_cons_of_mem _ (List.mem_append_right _ h)) (by decide +kernel))
set_option maxRecDepth 20000 in
theorem gX1_due_X1_checkMonth : GoodIn wsX1_due (va_wsS RX1 86 yX1_checkMonth wsX1_checkMonth) := goodIn_app (goodIn_of _ (by decide +kernel)) ggX1_due_X1_checkMonth
set_option maxRecDepth 20000 in
theorem ggX1_due_X0_dueIn : GoodIn wsX1_due wsX0_dueIn := goodIn_r _ [15, 16, 17, 18, 19, 20, 13, 21, 22, 23, 24, 25, 26, 27, 28, 29, 30, 31, 32, 33, 34, 35, 36, 37, 38, 42, 43, 44, 45, 46, 47, 48, 49, 50] (by decide +kernel) (by decide +kernel)
set_option maxRecDepth 20000 in
theorem gX1_due_X0_dueIn_n102 : GoodIn wsX1_due (wsX0_dueIn) := ggX1_due_X0_dueIn
theorem dX1_due_0 : decode cX1_due 0 = .ok (.aload_n 0, 1) := by decide +kernel
theorem dX1_due_1 : decode cX1_due 1 = .ok (.iload_n 1, 1) := by decide +kernel
theorem dX1_due_2 : decode cX1_due 2 = .ok (.invokevirtual 34, 3) := by decide +kernel
theorem dX1_due_5 : decode cX1_due 5 = .ok (.astore_n 3, 1) := by decide +kernel
theorem dX1_due_6 : decode cX1_due 6 = .ok (.iload_n 2, 1) := by decide +kernel
theorem dX1_due_7 : decode cX1_due 7 = .ok (.invokestatic 86, 3) := by decide +kernel
theorem dX1_due_10 : decode cX1_due 10 = .ok (.aload_n 3, 1) := by decide +kernel
theorem dX1_due_11 : decode cX1_due 11 = .ok (.iload_n 2, 1) := by decide +kernel
theorem dX1_due_12 : decode cX1_due 12 = .ok (.invokevirtual 102, 3) := by decide +kernel
theorem dX1_due_15 : decode cX1_due 15 = .ok (.ireturn, 1) := by decide +kernel
set_option maxRecDepth 20000 in
theorem ggX1_unassessed_X1_existing : GoodIn wsX1_unassessed wsX1_existing := goodIn_ca (goodIn_r _ [6, 7, 8, 9, 43, 44, 45] (by decide +kernel) (by decide +kernel)) (goodIn_sub (fun _ h => List.mem_cons_of_mem _ (List.mem_append_right _ h)) (by decide +kernel))
set_option maxRecDepth 20000 in
theorem gX1_unassessed_X1_existing : GoodIn wsX1_unassessed (wsV RX1 34 RX1 yX1_existing wsX1_existing) := goodIn_app (goodIn_of _ (by decide +kernel)) ggX1_unassessed_X1_existing
set_option maxRecDepth 20000 in
theorem ggX1_unassessed_X0_unassessedBefore : GoodIn wsX1_unassessed wsX0_unassessedBefore := goodIn_r _ [13, 14, 15, 16, 17, 18, 11, 19, 20, 21, 22, 23, 24, 25, 26, 27, 28, 29, 30, 31, 32, 33, 34, 35, 36, 37, 38, 39, 40, 41, 42, 46, 47, 48, 49, 50, 51, 52, 53, 54] (by decide +kernel) (by decide +kernel)
set_option maxRecDepth 20000 in
theorem gX1_unassessed_X0_unassessedBefore_n105 : GoodIn wsX1_unassessed (wsX0_unassessedBefore) := ggX1_unassessed_X0_unassessedBefore
theorem dX1_unassessed_0 : decode cX1_unassessed 0 = .ok (.aload_n 0, 1) := by decide +kernel
theorem dX1_unassessed_1 : decode cX1_unassessed 1 = .ok (.iload_n 1, 1) := by decide +kernel
theorem dX1_unassessed_2 : decode cX1_unassessed 2 = .ok (.invokevirtual 34, 3) := by decide +kernel
theorem dX1_unassessed_5 : decode cX1_unassessed 5 = .ok (.aload_n 0, 1) := by decide +kernel
theorem dX1_unassessed_6 : decode cX1_unassessed 6 = .ok (.getfield 19, 3) := by decide +kernel
theorem dX1_unassessed_9 : decode cX1_unassessed 9 = .ok (.invokevirtual 105, 3) := by decide +kernel
theorem dX1_unassessed_12 : decode cX1_unassessed 12 = .ok (.ireturn, 1) := by decide +kernel
set_option maxRecDepth 20000 in
theorem ggX1_wouldPay_X1_existing : GoodIn wsX1_wouldPay wsX1_existing := goodIn_ca (goodIn_r _ [6, 7, 8, 9, 61, 62, 63] (by decide +kernel) (by decide +kernel)) (goodIn_sub (fun _ h => List.mem_cons_of_mem _ (List.mem_append_right _ h)) (by decide +kernel))
set_option maxRecDepth 20000 in
theorem gX1_wouldPay_X1_existing : GoodIn wsX1_wouldPay (wsV RX1 34 RX1 yX1_existing wsX1_existing) := goodIn_app (goodIn_of _ (by decide +kernel)) ggX1_wouldPay_X1_existing
set_option maxRecDepth 20000 in
theorem ggX1_wouldPay_X0_paymentIn : GoodIn wsX1_wouldPay wsX0_paymentIn := goodIn_r _ [13, 14, 15, 16, 11, 17, 18, 19, 20, 21, 22, 23, 24, 25, 26, 27, 28, 29, 30, 31, 32, 33, 34, 35, 36, 37, 38, 39, 40, 41, 42, 43, 44, 45, 46, 47, 48, 49, 50, 51, 52, 53, 54, 55, 56, 57, 58, 59, 60, 64, 65, 66, 67, 68, 69, 70, 71, 72] (by decide +kernel) (by decide +kernel)
set_option maxRecDepth 20000 in
theorem gX1_wouldPay_X0_paymentIn_n108 : GoodIn wsX1_wouldPay (wsX0_paymentIn) := ggX1_wouldPay_X0_paymentIn
theorem dX1_wouldPay_0 : decode cX1_wouldPay 0 = .ok (.aload_n 0, 1) := by decide +kernel
theorem dX1_wouldPay_1 : decode cX1_wouldPay 1 = .ok (.iload_n 1, 1) := by decide +kernel
theorem dX1_wouldPay_2 : decode cX1_wouldPay 2 = .ok (.invokevirtual 34, 3) := by decide +kernel
theorem dX1_wouldPay_5 : decode cX1_wouldPay 5 = .ok (.astore_n 2, 1) := by decide +kernel
theorem dX1_wouldPay_6 : decode cX1_wouldPay 6 = .ok (.aload_n 0, 1) := by decide +kernel
theorem dX1_wouldPay_7 : decode cX1_wouldPay 7 = .ok (.getfield 19, 3) := by decide +kernel
theorem dX1_wouldPay_10 : decode cX1_wouldPay 10 = .ok (.bipush 48, 2) := by decide +kernel
theorem dX1_wouldPay_12 : decode cX1_wouldPay 12 = .ok (.if_icmp .ge 14, 3) := by decide +kernel
theorem dX1_wouldPay_15 : decode cX1_wouldPay 15 = .ok (.aload_n 2, 1) := by decide +kernel
theorem dX1_wouldPay_16 : decode cX1_wouldPay 16 = .ok (.aload_n 0, 1) := by decide +kernel
theorem dX1_wouldPay_17 : decode cX1_wouldPay 17 = .ok (.getfield 19, 3) := by decide +kernel
theorem dX1_wouldPay_20 : decode cX1_wouldPay 20 = .ok (.invokevirtual 108, 3) := by decide +kernel
theorem dX1_wouldPay_23 : decode cX1_wouldPay 23 = .ok (.goto 4, 3) := by decide +kernel
theorem dX1_wouldPay_26 : decode cX1_wouldPay 26 = .ok (.iconst 0, 1) := by decide +kernel
theorem dX1_wouldPay_27 : decode cX1_wouldPay 27 = .ok (.ireturn, 1) := by decide +kernel
set_option maxRecDepth 20000 in
theorem ggX1_assessed_X1_existing : GoodIn wsX1_assessed wsX1_existing := goodIn_ca (goodIn_r _ [5, 6, 7, 8, 21, 22, 23] (by decide +kernel) (by decide +kernel)) (goodIn_sub (fun _ h => List.mem_cons_of_mem _ (List.mem_append_right _ h)) (by decide +kernel))
set_option maxRecDepth 20000 in
theorem gX1_assessed_X1_existing : GoodIn wsX1_assessed (wsV RX1 34 RX1 yX1_existing wsX1_existing) := goodIn_app (goodIn_of _ (by decide +kernel)) ggX1_assessed_X1_existing
set_option maxRecDepth 20000 in
theorem ggX1_assessed_X1_checkMonth : GoodIn wsX1_assessed wsX1_checkMonth := goodIn_ca (goodIn_r _ [11, 6, 7] (by decide +kernel) (by decide +kernel)) (goodIn_sub (fun _ h => List.mem_cons_of_mem _ (List.mem_append_right _ h)) (by decide +kernel))
set_option maxRecDepth 20000 in
theorem gX1_assessed_X1_checkMonth : GoodIn wsX1_assessed (va_wsS RX1 86 yX1_checkMonth wsX1_checkMonth) := goodIn_app (goodIn_of _ (by decide +kernel)) ggX1_assessed_X1_checkMonth
theorem dX1_assessed_0 : decode cX1_assessed 0 = .ok (.aload_n 0, 1) := by decide +kernel
theorem dX1_assessed_1 : decode cX1_assessed 1 = .ok (.iload_n 1, 1) := by decide +kernel
theorem dX1_assessed_2 : decode cX1_assessed 2 = .ok (.invokevirtual 34, 3) := by decide +kernel
theorem dX1_assessed_5 : decode cX1_assessed 5 = .ok (.astore_n 3, 1) := by decide +kernel
theorem dX1_assessed_6 : decode cX1_assessed 6 = .ok (.iload_n 2, 1) := by decide +kernel
theorem dX1_assessed_7 : decode cX1_assessed 7 = .ok (.invokestatic 86, 3) := by decide +kernel
theorem dX1_assessed_10 : decode cX1_assessed 10 = .ok (.aload_n 3, 1) := by decide +kernel
theorem dX1_assessed_11 : decode cX1_assessed 11 = .ok (.getfield 111, 3) := by decide +kernel
end
section
theorem dX1_assessed_14 : decode cX1_assessed 14 = .ok (.iload_n 2, 1) := by decide +kernel
theorem dX1_assessed_15 : decode cX1_assessed 15 = .ok (.iaload, 1) := by decide +kernel
theorem dX1_assessed_16 : decode cX1_assessed 16 = .ok (.ireturn, 1) := by decide +kernel
set_option maxRecDepth 20000 in
theorem ggX1_paid_X1_existing : GoodIn wsX1_paid wsX1_existing := goodIn_ca (goodIn_r _ [5, 6, 7, 8, 21, 22, 23] (by decide +kernel) (by decide +kernel)) (goodIn_sub (fun _ h => List.mem_cons_of_mem _ (List.mem_append_right _ h)) (by decide +kernel))
set_option maxRecDepth 20000 in
theorem gX1_paid_X1_existing : GoodIn wsX1_paid (wsV RX1 34 RX1 yX1_existing wsX1_existing) := goodIn_app (goodIn_of _ (by decide +kernel)) ggX1_paid_X1_existing
set_option maxRecDepth 20000 in
theorem ggX1_paid_X1_checkMonth : GoodIn wsX1_paid wsX1_checkMonth := goodIn_ca (goodIn_r _ [11, 6, 7] (by decide +kernel) (by decide +kernel)) (goodIn_sub (fun _ h => List.mem_cons_of_mem _ (List.mem_append_right _ h)) (by decide +kernel))
set_option maxRecDepth 20000 in
theorem gX1_paid_X1_checkMonth : GoodIn wsX1_paid (va_wsS RX1 86 yX1_checkMonth wsX1_checkMonth) := goodIn_app (goodIn_of _ (by decide +kernel)) ggX1_paid_X1_checkMonth
theorem dX1_paid_0 : decode cX1_paid 0 = .ok (.aload_n 0, 1) := by decide +kernel
theorem dX1_paid_1 : decode cX1_paid 1 = .ok (.iload_n 1, 1) := by decide +kernel
theorem dX1_paid_2 : decode cX1_paid 2 = .ok (.invokevirtual 34, 3) := by decide +kernel
theorem dX1_paid_5 : decode cX1_paid 5 = .ok (.astore_n 3, 1) := by decide +kernel
theorem dX1_paid_6 : decode cX1_paid 6 = .ok (.iload_n 2, 1) := by decide +kernel
theorem dX1_paid_7 : decode cX1_paid 7 = .ok (.invokestatic 86, 3) := by decide +kernel
theorem dX1_paid_10 : decode cX1_paid 10 = .ok (.aload_n 3, 1) := by decide +kernel
theorem dX1_paid_11 : decode cX1_paid 11 = .ok (.getfield 114, 3) := by decide +kernel
theorem dX1_paid_14 : decode cX1_paid 14 = .ok (.iload_n 2, 1) := by decide +kernel
theorem dX1_paid_15 : decode cX1_paid 15 = .ok (.iaload, 1) := by decide +kernel
theorem dX1_paid_16 : decode cX1_paid 16 = .ok (.ireturn, 1) := by decide +kernel
set_option maxRecDepth 20000 in
theorem ggX1_debt_X1_existing : GoodIn wsX1_debt wsX1_existing := goodIn_ca (goodIn_r _ [5, 6, 7, 8, 18, 19, 20] (by decide +kernel) (by decide +kernel)) (goodIn_sub (fun _ h => List.mem_cons_of_mem _ (List.mem_append_right _ h)) (by decide +kernel))
set_option maxRecDepth 20000 in
theorem gX1_debt_X1_existing : GoodIn wsX1_debt (wsV RX1 34 RX1 yX1_existing wsX1_existing) := goodIn_app (goodIn_of _ (by decide +kernel)) ggX1_debt_X1_existing
theorem dX1_debt_0 : decode cX1_debt 0 = .ok (.aload_n 0, 1) := by decide +kernel
theorem dX1_debt_1 : decode cX1_debt 1 = .ok (.iload_n 1, 1) := by decide +kernel
theorem dX1_debt_2 : decode cX1_debt 2 = .ok (.invokevirtual 34, 3) := by decide +kernel
theorem dX1_debt_5 : decode cX1_debt 5 = .ok (.getfield 75, 3) := by decide +kernel
theorem dX1_debt_8 : decode cX1_debt 8 = .ok (.ireturn, 1) := by decide +kernel
set_option maxRecDepth 20000 in
theorem ggX1_recovered_X1_existing : GoodIn wsX1_recovered wsX1_existing := goodIn_ca (goodIn_r _ [5, 6, 7, 8, 18, 19, 20] (by decide +kernel) (by decide +kernel)) (goodIn_sub (fun _ h => List.mem_cons_of_mem _ (List.mem_append_right _ h)) (by decide +kernel))
set_option maxRecDepth 20000 in
theorem gX1_recovered_X1_existing : GoodIn wsX1_recovered (wsV RX1 34 RX1 yX1_existing wsX1_existing) := goodIn_app (goodIn_of _ (by decide +kernel)) ggX1_recovered_X1_existing
theorem dX1_recovered_0 : decode cX1_recovered 0 = .ok (.aload_n 0, 1) := by decide +kernel
theorem dX1_recovered_1 : decode cX1_recovered 1 = .ok (.iload_n 1, 1) := by decide +kernel
theorem dX1_recovered_2 : decode cX1_recovered 2 = .ok (.invokevirtual 34, 3) := by decide +kernel
theorem dX1_recovered_5 : decode cX1_recovered 5 = .ok (.getfield 117, 3) := by decide +kernel
theorem dX1_recovered_8 : decode cX1_recovered 8 = .ok (.ireturn, 1) := by decide +kernel
theorem dX1_existing_0 : decode cX1_existing 0 = .ok (.iload_n 1, 1) := by decide +kernel
theorem dX1_existing_1 : decode cX1_existing 1 = .ok (.ifCond .lt 12, 3) := by decide +kernel
theorem dX1_existing_4 : decode cX1_existing 4 = .ok (.iload_n 1, 1) := by decide +kernel
theorem dX1_existing_5 : decode cX1_existing 5 = .ok (.aload_n 0, 1) := by decide +kernel
theorem dX1_existing_6 : decode cX1_existing 6 = .ok (.getfield 11, 3) := by decide +kernel
theorem dX1_existing_9 : decode cX1_existing 9 = .ok (.arraylength, 1) := by decide +kernel
theorem dX1_existing_10 : decode cX1_existing 10 = .ok (.if_icmp .lt 13, 3) := by decide +kernel
theorem dX1_existing_13 : decode cX1_existing 13 = .ok (.new 120, 3) := by decide +kernel
theorem dX1_existing_16 : decode cX1_existing 16 = .ok (.dup, 1) := by decide +kernel
theorem dX1_existing_17 : decode cX1_existing 17 = .ok (.ldc 122, 2) := by decide +kernel
theorem dX1_existing_19 : decode cX1_existing 19 = .ok (.invokespecial 124, 3) := by decide +kernel
theorem dX1_existing_22 : decode cX1_existing 22 = .ok (.athrow, 1) := by decide +kernel
theorem dX1_existing_23 : decode cX1_existing 23 = .ok (.aload_n 0, 1) := by decide +kernel
theorem dX1_existing_24 : decode cX1_existing 24 = .ok (.getfield 11, 3) := by decide +kernel
theorem dX1_existing_27 : decode cX1_existing 27 = .ok (.iload_n 1, 1) := by decide +kernel
theorem dX1_existing_28 : decode cX1_existing 28 = .ok (.aaload, 1) := by decide +kernel
theorem dX1_existing_29 : decode cX1_existing 29 = .ok (.astore_n 2, 1) := by decide +kernel
theorem dX1_existing_30 : decode cX1_existing 30 = .ok (.aload_n 2, 1) := by decide +kernel
theorem dX1_existing_31 : decode cX1_existing 31 = .ok (.ifnonnull 13, 3) := by decide +kernel
theorem dX1_existing_34 : decode cX1_existing 34 = .ok (.new 120, 3) := by decide +kernel
theorem dX1_existing_37 : decode cX1_existing 37 = .ok (.dup, 1) := by decide +kernel
theorem dX1_existing_38 : decode cX1_existing 38 = .ok (.ldc 122, 2) := by decide +kernel
theorem dX1_existing_40 : decode cX1_existing 40 = .ok (.invokespecial 124, 3) := by decide +kernel
theorem dX1_existing_43 : decode cX1_existing 43 = .ok (.athrow, 1) := by decide +kernel
theorem dX1_existing_44 : decode cX1_existing 44 = .ok (.aload_n 2, 1) := by decide +kernel
theorem dX1_existing_45 : decode cX1_existing 45 = .ok (.areturn, 1) := by decide +kernel
theorem dX1_checkMonth_0 : decode cX1_checkMonth 0 = .ok (.iload_n 0, 1) := by decide +kernel
theorem dX1_checkMonth_1 : decode cX1_checkMonth 1 = .ok (.ifCond .lt 9, 3) := by decide +kernel
theorem dX1_checkMonth_4 : decode cX1_checkMonth 4 = .ok (.iload_n 0, 1) := by decide +kernel
theorem dX1_checkMonth_5 : decode cX1_checkMonth 5 = .ok (.bipush 48, 2) := by decide +kernel
theorem dX1_checkMonth_7 : decode cX1_checkMonth 7 = .ok (.if_icmp .lt 13, 3) := by decide +kernel
theorem dX1_checkMonth_10 : decode cX1_checkMonth 10 = .ok (.new 120, 3) := by decide +kernel
theorem dX1_checkMonth_13 : decode cX1_checkMonth 13 = .ok (.dup, 1) := by decide +kernel
theorem dX1_checkMonth_14 : decode cX1_checkMonth 14 = .ok (.ldc 125, 2) := by decide +kernel
theorem dX1_checkMonth_16 : decode cX1_checkMonth 16 = .ok (.invokespecial 124, 3) := by decide +kernel
theorem dX1_checkMonth_19 : decode cX1_checkMonth 19 = .ok (.athrow, 1) := by decide +kernel
theorem dX1_checkMonth_20 : decode cX1_checkMonth 20 = .ok (.return_, 1) := by decide +kernel
theorem dX1_checkFact_0 : decode cX1_checkFact 0 = .ok (.iload_n 0, 1) := by decide +kernel
theorem dX1_checkFact_1 : decode cX1_checkFact 1 = .ok (.ifCond .lt 8, 3) := by decide +kernel
theorem dX1_checkFact_4 : decode cX1_checkFact 4 = .ok (.iload_n 0, 1) := by decide +kernel
theorem dX1_checkFact_5 : decode cX1_checkFact 5 = .ok (.iconst 5, 1) := by decide +kernel
theorem dX1_checkFact_6 : decode cX1_checkFact 6 = .ok (.if_icmp .lt 13, 3) := by decide +kernel
theorem dX1_checkFact_9 : decode cX1_checkFact 9 = .ok (.new 41, 3) := by decide +kernel
theorem dX1_checkFact_12 : decode cX1_checkFact 12 = .ok (.dup, 1) := by decide +kernel
theorem dX1_checkFact_13 : decode cX1_checkFact 13 = .ok (.ldc 127, 2) := by decide +kernel
theorem dX1_checkFact_15 : decode cX1_checkFact 15 = .ok (.invokespecial 45, 3) := by decide +kernel
theorem dX1_checkFact_18 : decode cX1_checkFact 18 = .ok (.athrow, 1) := by decide +kernel
theorem dX1_checkFact_19 : decode cX1_checkFact 19 = .ok (.return_, 1) := by decide +kernel
theorem dX1_monthCountedFrom_0 : decode cX1_monthCountedFrom 0 = .ok (.iload_n 0, 1) := by decide +kernel
theorem dX1_monthCountedFrom_1 : decode cX1_monthCountedFrom 1 = .ok (.bipush 30, 2) := by decide +kernel
theorem dX1_monthCountedFrom_3 : decode cX1_monthCountedFrom 3 = .ok (.idiv, 1) := by decide +kernel
theorem dX1_monthCountedFrom_4 : decode cX1_monthCountedFrom 4 = .ok (.istore_n 1, 1) := by decide +kernel
theorem dX1_monthCountedFrom_5 : decode cX1_monthCountedFrom 5 = .ok (.iload_n 0, 1) := by decide +kernel
theorem dX1_monthCountedFrom_6 : decode cX1_monthCountedFrom 6 = .ok (.bipush 30, 2) := by decide +kernel
theorem dX1_monthCountedFrom_8 : decode cX1_monthCountedFrom 8 = .ok (.irem, 1) := by decide +kernel
theorem dX1_monthCountedFrom_9 : decode cX1_monthCountedFrom 9 = .ok (.bipush 15, 2) := by decide +kernel
theorem dX1_monthCountedFrom_11 : decode cX1_monthCountedFrom 11 = .ok (.if_icmp .ge 7, 3) := by decide +kernel
theorem dX1_monthCountedFrom_14 : decode cX1_monthCountedFrom 14 = .ok (.iload_n 1, 1) := by decide +kernel
theorem dX1_monthCountedFrom_15 : decode cX1_monthCountedFrom 15 = .ok (.goto 6, 3) := by decide +kernel
theorem dX1_monthCountedFrom_18 : decode cX1_monthCountedFrom 18 = .ok (.iload_n 1, 1) := by decide +kernel
theorem dX1_monthCountedFrom_19 : decode cX1_monthCountedFrom 19 = .ok (.iconst 1, 1) := by decide +kernel
theorem dX1_monthCountedFrom_20 : decode cX1_monthCountedFrom 20 = .ok (.iadd, 1) := by decide +kernel
theorem dX1_monthCountedFrom_21 : decode cX1_monthCountedFrom 21 = .ok (.ireturn, 1) := by decide +kernel
theorem dJ9_max_7cf53_0 : decode cJ9_max_7cf53 0 = .ok (.iload_n 0, 1) := by decide +kernel
theorem dJ9_max_7cf53_1 : decode cJ9_max_7cf53 1 = .ok (.iload_n 1, 1) := by decide +kernel
theorem dJ9_max_7cf53_2 : decode cJ9_max_7cf53 2 = .ok (.if_icmp .lt 7, 3) := by decide +kernel
theorem dJ9_max_7cf53_5 : decode cJ9_max_7cf53 5 = .ok (.iload_n 0, 1) := by decide +kernel
theorem dJ9_max_7cf53_6 : decode cJ9_max_7cf53 6 = .ok (.goto 4, 3) := by decide +kernel
theorem dJ9_max_7cf53_9 : decode cJ9_max_7cf53 9 = .ok (.iload_n 1, 1) := by decide +kernel
theorem dJ9_max_7cf53_10 : decode cJ9_max_7cf53 10 = .ok (.ireturn, 1) := by decide +kernel
theorem dJ9_min_7cf53_0 : decode cJ9_min_7cf53 0 = .ok (.iload_n 0, 1) := by decide +kernel
theorem dJ9_min_7cf53_1 : decode cJ9_min_7cf53 1 = .ok (.iload_n 1, 1) := by decide +kernel
theorem dJ9_min_7cf53_2 : decode cJ9_min_7cf53 2 = .ok (.if_icmp .gt 7, 3) := by decide +kernel
theorem dJ9_min_7cf53_5 : decode cJ9_min_7cf53 5 = .ok (.iload_n 0, 1) := by decide +kernel
theorem dJ9_min_7cf53_6 : decode cJ9_min_7cf53 6 = .ok (.goto 4, 3) := by decide +kernel
theorem dJ9_min_7cf53_9 : decode cJ9_min_7cf53 9 = .ok (.iload_n 1, 1) := by decide +kernel
theorem dJ9_min_7cf53_10 : decode cJ9_min_7cf53 10 = .ok (.ireturn, 1) := by decide +kernel
theorem dL_cell_0 : decode cL_cell 0 = .ok (.iload_n 1, 1) := by decide +kernel
theorem dL_cell_1 : decode cL_cell 1 = .ok (.aload_n 0, 1) := by decide +kernel
theorem dL_cell_2 : decode cL_cell 2 = .ok (.arraylength, 1) := by decide +kernel
theorem dL_cell_3 : decode cL_cell 3 = .ok (.if_icmp .ge 9, 3) := by decide +kernel
theorem dL_cell_6 : decode cL_cell 6 = .ok (.aload_n 0, 1) := by decide +kernel
theorem dL_cell_7 : decode cL_cell 7 = .ok (.iload_n 1, 1) := by decide +kernel
theorem dL_cell_8 : decode cL_cell 8 = .ok (.iaload, 1) := by decide +kernel
theorem dL_cell_9 : decode cL_cell 9 = .ok (.goto 13, 3) := by decide +kernel
theorem dL_cell_12 : decode cL_cell 12 = .ok (.ldc 7, 2) := by decide +kernel
theorem dL_cell_14 : decode cL_cell 14 = .ok (.iload_n 1, 1) := by decide +kernel
theorem dL_cell_15 : decode cL_cell 15 = .ok (.bipush 29, 2) := by decide +kernel
theorem dL_cell_17 : decode cL_cell 17 = .ok (.iadd, 1) := by decide +kernel
theorem dL_cell_18 : decode cL_cell 18 = .ok (.imul, 1) := by decide +kernel
theorem dL_cell_19 : decode cL_cell 19 = .ok (.ldc 8, 2) := by decide +kernel
theorem dL_cell_21 : decode cL_cell 21 = .ok (.iadd, 1) := by decide +kernel
theorem dL_cell_22 : decode cL_cell 22 = .ok (.ireturn, 1) := by decide +kernel
theorem dL_low_0 : decode cL_low 0 = .ok (.iload_n 0, 1) := by decide +kernel
theorem dL_low_1 : decode cL_low 1 = .ok (.ldc 9, 2) := by decide +kernel
theorem dL_low_3 : decode cL_low 3 = .ok (.iand, 1) := by decide +kernel
theorem dL_low_4 : decode cL_low 4 = .ok (.iload_n 1, 1) := by decide +kernel
theorem dL_low_5 : decode cL_low 5 = .ok (.irem, 1) := by decide +kernel
theorem dL_low_6 : decode cL_low 6 = .ok (.ireturn, 1) := by decide +kernel
set_option maxRecDepth 20000 in
theorem ggL_calls_X1_add : GoodIn wsL_calls wsX1_add := goodIn_ca (goodIn_r _ [6, 7, 8, 9, 10, 11, 12, 13, 14, 15, 16, 17, 18, 19, 20, 21, 22, 23, 24, 25, 26, 116, 117, 118, 119, 120, 121, 122, 123, 124, 125, 126, 127] (by decide +kernel) (by decide +kernel)) (goodIn_sub (fun _ h => List.mem_cons_of_mem _ (List.mem_append_left _ (List.mem_append_left _ (List.mem_append_right _ h)))) (by decide +kernel))
set_option maxRecDepth 20000 in
theorem gL_calls_X1_add : GoodIn wsL_calls (wsV RL 10 RX1 yX1_add wsX1_add) := goodIn_app (goodIn_of _ (by decide +kernel)) ggL_calls_X1_add
set_option maxRecDepth 20000 in
theorem ggL_calls_X1_tell : GoodIn wsL_calls wsX1_tell := goodIn_ca (goodIn_ca (goodIn_ca (goodIn_r _ [30, 31, 32, 7, 8, 33, 34, 35, 36, 37, 5, 38, 39, 40, 10, 41, 42, 43, 44, 45, 46, 47, 14, 48, 49, 50, 24, 23, 119, 120, 121, 122, 123, 124, 125, 126, 127, 116, 117, 118] (by decide +kernel) (by decide +kernel)) (goodIn_sub (fun _ h => List.mem_cons_of_mem _ (List.mem_append_left _ (List.mem_append_right _ h))) (by decide +kernel))) (goodIn_sub (fun _ h => List.mem_cons_of_mem _ (List.mem_append_left _ (List.mem_append_left _ (List.mem_append_right _ h)))) (by decide +kernel))) (goodIn_sub (fun _ h => List.mem_cons_of_mem _ (List.mem_append_right _ h)) (by decide +kernel))
set_option maxRecDepth 20000 in
theorem gL_calls_X1_tell : GoodIn wsL_calls (wsV RL 16 RX1 yX1_tell wsX1_tell) := goodIn_app (goodIn_of _ (by decide +kernel)) ggL_calls_X1_tell
set_option maxRecDepth 20000 in
theorem ggL_calls_X1_payBack : GoodIn wsL_calls wsX1_payBack := goodIn_ca (goodIn_ca (goodIn_ca (goodIn_r _ [54, 31, 32, 7, 8, 55, 35, 36, 37, 5, 38, 39, 40, 10, 56, 14, 57, 58, 59, 60, 119, 120, 121, 122, 123, 124, 125, 126, 127, 116, 117, 118] (by decide +kernel) (by decide +kernel)) (goodIn_sub (fun _ h => List.mem_cons_of_mem _ (List.mem_append_left _ (List.mem_append_right _ h))) (by decide +kernel))) (goodIn_sub (fun _ h => List.mem_cons_of_mem _ (List.mem_append_left _ (List.mem_append_left _ (List.mem_append_right _ h)))) (by decide +kernel))) (goodIn_sub (fun _ h => List.mem_cons_of_mem _ (List.mem_append_right _ h)) (by decide +kernel))
set_option maxRecDepth 20000 in
theorem gL_calls_X1_payBack : GoodIn wsL_calls (wsV RL 20 RX1 yX1_payBack wsX1_payBack) := goodIn_app (goodIn_of _ (by decide +kernel)) ggL_calls_X1_payBack
set_option maxRecDepth 20000 in
theorem ggL_calls_X1_close : GoodIn wsL_calls wsX1_close := goodIn_ca (goodIn_r _ [64, 7, 8, 11, 10, 65, 14, 66, 67, 59, 20, 25, 26, 68, 69, 70, 71, 72, 73, 74, 75, 76, 77, 78, 79, 23, 80, 81, 82, 83, 84, 85, 86, 87, 88, 89, 90, 91, 92, 93, 94, 95, 96, 97, 98, 99, 100, 101, 102, 103, 104, 105, 106, 107, 108, 109, 110, 111, 112, 113, 114, 115, 56, 57, 58, 60, 116, 117, 118, 119, 120, 121, 122, 123, 124, 125, 126, 127] (by decide +kernel) (by decide +kernel)) (goodIn_sub (fun _ h => List.mem_cons_of_mem _ (List.mem_append_left _ (List.mem_append_left _ (List.mem_append_right _ h)))) (by decide +kernel))
set_option maxRecDepth 20000 in
theorem gL_calls_X1_close : GoodIn wsL_calls (wsV RL 24 RX1 yX1_close wsX1_close) := goodIn_app (goodIn_of _ (by decide +kernel)) ggL_calls_X1_close
theorem dL_calls_0 : decode cL_calls 0 = .ok (.iload_n 1, 1) := by decide +kernel
theorem dL_calls_1 : decode cL_calls 1 = .ok (.ifCond .ne 10, 3) := by decide +kernel
theorem dL_calls_4 : decode cL_calls 4 = .ok (.aload_n 0, 1) := by decide +kernel
theorem dL_calls_5 : decode cL_calls 5 = .ok (.invokevirtual 10, 3) := by decide +kernel
theorem dL_calls_8 : decode cL_calls 8 = .ok (.goto 39, 3) := by decide +kernel
theorem dL_calls_11 : decode cL_calls 11 = .ok (.iload_n 1, 1) := by decide +kernel
theorem dL_calls_12 : decode cL_calls 12 = .ok (.iconst 1, 1) := by decide +kernel
theorem dL_calls_13 : decode cL_calls 13 = .ok (.if_icmp .ne 16, 3) := by decide +kernel
theorem dL_calls_16 : decode cL_calls 16 = .ok (.aload_n 0, 1) := by decide +kernel
theorem dL_calls_17 : decode cL_calls 17 = .ok (.iload_n 2, 1) := by decide +kernel
theorem dL_calls_18 : decode cL_calls 18 = .ok (.iload_n 3, 1) := by decide +kernel
theorem dL_calls_19 : decode cL_calls 19 = .ok (.iload 4, 2) := by decide +kernel
theorem dL_calls_21 : decode cL_calls 21 = .ok (.iload 5, 2) := by decide +kernel
theorem dL_calls_23 : decode cL_calls 23 = .ok (.invokevirtual 16, 3) := by decide +kernel
theorem dL_calls_26 : decode cL_calls 26 = .ok (.goto 21, 3) := by decide +kernel
theorem dL_calls_29 : decode cL_calls 29 = .ok (.iload_n 1, 1) := by decide +kernel
theorem dL_calls_30 : decode cL_calls 30 = .ok (.iconst 2, 1) := by decide +kernel
theorem dL_calls_31 : decode cL_calls 31 = .ok (.if_icmp .ne 12, 3) := by decide +kernel
theorem dL_calls_34 : decode cL_calls 34 = .ok (.aload_n 0, 1) := by decide +kernel
theorem dL_calls_35 : decode cL_calls 35 = .ok (.iload_n 2, 1) := by decide +kernel
theorem dL_calls_36 : decode cL_calls 36 = .ok (.iload_n 3, 1) := by decide +kernel
theorem dL_calls_37 : decode cL_calls 37 = .ok (.invokevirtual 20, 3) := by decide +kernel
theorem dL_calls_40 : decode cL_calls 40 = .ok (.goto 7, 3) := by decide +kernel
theorem dL_calls_43 : decode cL_calls 43 = .ok (.aload_n 0, 1) := by decide +kernel
theorem dL_calls_44 : decode cL_calls 44 = .ok (.invokevirtual 24, 3) := by decide +kernel
theorem dL_calls_47 : decode cL_calls 47 = .ok (.ireturn, 1) := by decide +kernel
theorem dL_calls_48 : decode cL_calls 48 = .ok (.astore 6, 2) := by decide +kernel
theorem dL_calls_50 : decode cL_calls 50 = .ok (.bipush (-3), 2) := by decide +kernel
theorem dL_calls_52 : decode cL_calls 52 = .ok (.ireturn, 1) := by decide +kernel
theorem dL_fact_0 : decode cL_fact 0 = .ok (.iload_n 1, 1) := by decide +kernel
theorem dL_fact_1 : decode cL_fact 1 = .ok (.ifCond .ne 7, 3) := by decide +kernel
theorem dL_fact_4 : decode cL_fact 4 = .ok (.iconst 1, 1) := by decide +kernel
theorem dL_fact_5 : decode cL_fact 5 = .ok (.goto 4, 3) := by decide +kernel
theorem dL_fact_8 : decode cL_fact 8 = .ok (.iconst 0, 1) := by decide +kernel
theorem dL_fact_9 : decode cL_fact 9 = .ok (.istore 6, 2) := by decide +kernel
theorem dL_fact_11 : decode cL_fact 11 = .ok (.iconst (-1), 1) := by decide +kernel
theorem dL_fact_12 : decode cL_fact 12 = .ok (.istore 7, 2) := by decide +kernel
theorem dL_fact_14 : decode cL_fact 14 = .ok (.iconst 0, 1) := by decide +kernel
theorem dL_fact_15 : decode cL_fact 15 = .ok (.istore 8, 2) := by decide +kernel
theorem dL_fact_17 : decode cL_fact 17 = .ok (.iload 8, 2) := by decide +kernel
theorem dL_fact_19 : decode cL_fact 19 = .ok (.aload 5, 2) := by decide +kernel
theorem dL_fact_21 : decode cL_fact 21 = .ok (.iconst 2, 1) := by decide +kernel
theorem dL_fact_22 : decode cL_fact 22 = .ok (.iaload, 1) := by decide +kernel
theorem dL_fact_23 : decode cL_fact 23 = .ok (.if_icmp .ge 92, 3) := by decide +kernel
theorem dL_fact_26 : decode cL_fact 26 = .ok (.aload_n 3, 1) := by decide +kernel
theorem dL_fact_27 : decode cL_fact 27 = .ok (.iload 8, 2) := by decide +kernel
theorem dL_fact_29 : decode cL_fact 29 = .ok (.iaload, 1) := by decide +kernel
theorem dL_fact_30 : decode cL_fact 30 = .ok (.bipush 16, 2) := by decide +kernel
theorem dL_fact_32 : decode cL_fact 32 = .ok (.idiv, 1) := by decide +kernel
theorem dL_fact_33 : decode cL_fact 33 = .ok (.istore 9, 2) := by decide +kernel
theorem dL_fact_35 : decode cL_fact 35 = .ok (.aload_n 3, 1) := by decide +kernel
theorem dL_fact_36 : decode cL_fact 36 = .ok (.iload 8, 2) := by decide +kernel
theorem dL_fact_38 : decode cL_fact 38 = .ok (.iaload, 1) := by decide +kernel
theorem dL_fact_39 : decode cL_fact 39 = .ok (.bipush 16, 2) := by decide +kernel
theorem dL_fact_41 : decode cL_fact 41 = .ok (.irem, 1) := by decide +kernel
theorem dL_fact_42 : decode cL_fact 42 = .ok (.bipush 8, 2) := by decide +kernel
theorem dL_fact_44 : decode cL_fact 44 = .ok (.iload_n 0, 1) := by decide +kernel
theorem dL_fact_45 : decode cL_fact 45 = .ok (.imul, 1) := by decide +kernel
theorem dL_fact_46 : decode cL_fact 46 = .ok (.iload_n 1, 1) := by decide +kernel
theorem dL_fact_47 : decode cL_fact 47 = .ok (.iadd, 1) := by decide +kernel
theorem dL_fact_48 : decode cL_fact 48 = .ok (.if_icmp .ne 13, 3) := by decide +kernel
theorem dL_fact_51 : decode cL_fact 51 = .ok (.iload 9, 2) := by decide +kernel
theorem dL_fact_53 : decode cL_fact 53 = .ok (.iload_n 2, 1) := by decide +kernel
theorem dL_fact_54 : decode cL_fact 54 = .ok (.if_icmp .gt 7, 3) := by decide +kernel
theorem dL_fact_57 : decode cL_fact 57 = .ok (.iconst 1, 1) := by decide +kernel
theorem dL_fact_58 : decode cL_fact 58 = .ok (.goto 4, 3) := by decide +kernel
theorem dL_fact_61 : decode cL_fact 61 = .ok (.iconst 0, 1) := by decide +kernel
theorem dL_fact_62 : decode cL_fact 62 = .ok (.istore 10, 2) := by decide +kernel
theorem dL_fact_64 : decode cL_fact 64 = .ok (.iload 10, 2) := by decide +kernel
theorem dL_fact_66 : decode cL_fact 66 = .ok (.ifCond .eq 18, 3) := by decide +kernel
theorem dL_fact_69 : decode cL_fact 69 = .ok (.iload 9, 2) := by decide +kernel
theorem dL_fact_71 : decode cL_fact 71 = .ok (.iload 7, 2) := by decide +kernel
theorem dL_fact_73 : decode cL_fact 73 = .ok (.if_icmp .lt 11, 3) := by decide +kernel
theorem dL_fact_76 : decode cL_fact 76 = .ok (.aload 4, 2) := by decide +kernel
theorem dL_fact_78 : decode cL_fact 78 = .ok (.iload 8, 2) := by decide +kernel
theorem dL_fact_80 : decode cL_fact 80 = .ok (.iaload, 1) := by decide +kernel
theorem dL_fact_81 : decode cL_fact 81 = .ok (.goto 5, 3) := by decide +kernel
theorem dL_fact_84 : decode cL_fact 84 = .ok (.iload 6, 2) := by decide +kernel
theorem dL_fact_86 : decode cL_fact 86 = .ok (.istore 6, 2) := by decide +kernel
theorem dL_fact_88 : decode cL_fact 88 = .ok (.iload 10, 2) := by decide +kernel
theorem dL_fact_90 : decode cL_fact 90 = .ok (.ifCond .eq 15, 3) := by decide +kernel
theorem dL_fact_93 : decode cL_fact 93 = .ok (.iload 9, 2) := by decide +kernel
theorem dL_fact_95 : decode cL_fact 95 = .ok (.iload 7, 2) := by decide +kernel
theorem dL_fact_97 : decode cL_fact 97 = .ok (.if_icmp .le 8, 3) := by decide +kernel
theorem dL_fact_100 : decode cL_fact 100 = .ok (.iload 9, 2) := by decide +kernel
theorem dL_fact_102 : decode cL_fact 102 = .ok (.goto 5, 3) := by decide +kernel
theorem dL_fact_105 : decode cL_fact 105 = .ok (.iload 7, 2) := by decide +kernel
theorem dL_fact_107 : decode cL_fact 107 = .ok (.istore 7, 2) := by decide +kernel
theorem dL_fact_109 : decode cL_fact 109 = .ok (.iinc 8 1, 3) := by decide +kernel
theorem dL_fact_112 : decode cL_fact 112 = .ok (.goto (-95), 3) := by decide +kernel
theorem dL_fact_115 : decode cL_fact 115 = .ok (.iload 6, 2) := by decide +kernel
theorem dL_fact_117 : decode cL_fact 117 = .ok (.ireturn, 1) := by decide +kernel
set_option maxRecDepth 20000 in
theorem ggL_need_L_fact : GoodIn wsL_need wsL_fact := goodIn_r _ [5] (by decide +kernel) (by decide +kernel)
set_option maxRecDepth 20000 in
theorem gL_need_L_fact : GoodIn wsL_need (va_wsS RL 29 yL_fact wsL_fact) := goodIn_app (goodIn_of _ (by decide +kernel)) ggL_need_L_fact
theorem dL_need_0 : decode cL_need 0 = .ok (.iload_n 0, 1) := by decide +kernel
theorem dL_need_1 : decode cL_need 1 = .ok (.iconst 2, 1) := by decide +kernel
theorem dL_need_2 : decode cL_need 2 = .ok (.iload_n 1, 1) := by decide +kernel
theorem dL_need_3 : decode cL_need 3 = .ok (.aload_n 2, 1) := by decide +kernel
theorem dL_need_4 : decode cL_need 4 = .ok (.aload_n 3, 1) := by decide +kernel
theorem dL_need_5 : decode cL_need 5 = .ok (.aload 4, 2) := by decide +kernel
theorem dL_need_7 : decode cL_need 7 = .ok (.invokestatic 29, 3) := by decide +kernel
theorem dL_need_10 : decode cL_need 10 = .ok (.istore 5, 2) := by decide +kernel
theorem dL_need_12 : decode cL_need 12 = .ok (.sipush 18000, 3) := by decide +kernel
theorem dL_need_15 : decode cL_need 15 = .ok (.sipush 12000, 3) := by decide +kernel
theorem dL_need_18 : decode cL_need 18 = .ok (.iload_n 0, 1) := by decide +kernel
theorem dL_need_19 : decode cL_need 19 = .ok (.iconst 0, 1) := by decide +kernel
theorem dL_need_20 : decode cL_need 20 = .ok (.iload_n 1, 1) := by decide +kernel
theorem dL_need_21 : decode cL_need 21 = .ok (.aload_n 2, 1) := by decide +kernel
theorem dL_need_22 : decode cL_need 22 = .ok (.aload_n 3, 1) := by decide +kernel
theorem dL_need_23 : decode cL_need 23 = .ok (.aload 4, 2) := by decide +kernel
theorem dL_need_25 : decode cL_need 25 = .ok (.invokestatic 29, 3) := by decide +kernel
theorem dL_need_28 : decode cL_need 28 = .ok (.imul, 1) := by decide +kernel
theorem dL_need_29 : decode cL_need 29 = .ok (.iadd, 1) := by decide +kernel
theorem dL_need_30 : decode cL_need 30 = .ok (.sipush 8000, 3) := by decide +kernel
theorem dL_need_33 : decode cL_need 33 = .ok (.iload_n 0, 1) := by decide +kernel
theorem dL_need_34 : decode cL_need 34 = .ok (.iconst 1, 1) := by decide +kernel
theorem dL_need_35 : decode cL_need 35 = .ok (.iload_n 1, 1) := by decide +kernel
theorem dL_need_36 : decode cL_need 36 = .ok (.aload_n 2, 1) := by decide +kernel
theorem dL_need_37 : decode cL_need 37 = .ok (.aload_n 3, 1) := by decide +kernel
theorem dL_need_38 : decode cL_need 38 = .ok (.aload 4, 2) := by decide +kernel
theorem dL_need_40 : decode cL_need 40 = .ok (.invokestatic 29, 3) := by decide +kernel
theorem dL_need_43 : decode cL_need 43 = .ok (.imul, 1) := by decide +kernel
theorem dL_need_44 : decode cL_need 44 = .ok (.iadd, 1) := by decide +kernel
theorem dL_need_45 : decode cL_need 45 = .ok (.iload 5, 2) := by decide +kernel
theorem dL_need_47 : decode cL_need 47 = .ok (.ldc 35, 2) := by decide +kernel
theorem dL_need_49 : decode cL_need 49 = .ok (.if_icmp .le 8, 3) := by decide +kernel
theorem dL_need_52 : decode cL_need 52 = .ok (.ldc 35, 2) := by decide +kernel
theorem dL_need_54 : decode cL_need 54 = .ok (.goto 5, 3) := by decide +kernel
theorem dL_need_57 : decode cL_need 57 = .ok (.iload 5, 2) := by decide +kernel
theorem dL_need_59 : decode cL_need 59 = .ok (.iadd, 1) := by decide +kernel
theorem dL_need_60 : decode cL_need 60 = .ok (.ireturn, 1) := by decide +kernel
set_option maxRecDepth 20000 in
theorem ggL_taper_L_fact : GoodIn wsL_taper wsL_fact := goodIn_r _ [7] (by decide +kernel) (by decide +kernel)
set_option maxRecDepth 20000 in
theorem gL_taper_L_fact : GoodIn wsL_taper (va_wsS RL 29 yL_fact wsL_fact) := goodIn_app (goodIn_of _ (by decide +kernel)) ggL_taper_L_fact
theorem dL_taper_0 : decode cL_taper 0 = .ok (.iload_n 0, 1) := by decide +kernel
theorem dL_taper_1 : decode cL_taper 1 = .ok (.iconst 3, 1) := by decide +kernel
theorem dL_taper_2 : decode cL_taper 2 = .ok (.iload_n 1, 1) := by decide +kernel
theorem dL_taper_3 : decode cL_taper 3 = .ok (.aload_n 2, 1) := by decide +kernel
theorem dL_taper_4 : decode cL_taper 4 = .ok (.aload_n 3, 1) := by decide +kernel
theorem dL_taper_5 : decode cL_taper 5 = .ok (.aload 4, 2) := by decide +kernel
theorem dL_taper_7 : decode cL_taper 7 = .ok (.invokestatic 29, 3) := by decide +kernel
theorem dL_taper_10 : decode cL_taper 10 = .ok (.istore 5, 2) := by decide +kernel
theorem dL_taper_12 : decode cL_taper 12 = .ok (.iload 5, 2) := by decide +kernel
theorem dL_taper_14 : decode cL_taper 14 = .ok (.sipush 20000, 3) := by decide +kernel
theorem dL_taper_17 : decode cL_taper 17 = .ok (.if_icmp .ge 7, 3) := by decide +kernel
theorem dL_taper_20 : decode cL_taper 20 = .ok (.iconst 0, 1) := by decide +kernel
theorem dL_taper_21 : decode cL_taper 21 = .ok (.goto 19, 3) := by decide +kernel
theorem dL_taper_24 : decode cL_taper 24 = .ok (.iload 5, 2) := by decide +kernel
theorem dL_taper_26 : decode cL_taper 26 = .ok (.i2l, 1) := by decide +kernel
theorem dL_taper_27 : decode cL_taper 27 = .ok (.ldc2_w 36, 3) := by decide +kernel
theorem dL_taper_30 : decode cL_taper 30 = .ok (.lsub, 1) := by decide +kernel
theorem dL_taper_31 : decode cL_taper 31 = .ok (.ldc2_w 38, 3) := by decide +kernel
theorem dL_taper_34 : decode cL_taper 34 = .ok (.lmul, 1) := by decide +kernel
theorem dL_taper_35 : decode cL_taper 35 = .ok (.ldc2_w 40, 3) := by decide +kernel
theorem dL_taper_38 : decode cL_taper 38 = .ok (.ldiv, 1) := by decide +kernel
theorem dL_taper_39 : decode cL_taper 39 = .ok (.l2i, 1) := by decide +kernel
theorem dL_taper_40 : decode cL_taper 40 = .ok (.ireturn, 1) := by decide +kernel
set_option maxRecDepth 20000 in
theorem ggL_tariff_L_fact : GoodIn wsL_tariff wsL_fact := goodIn_r _ [5] (by decide +kernel) (by decide +kernel)
set_option maxRecDepth 20000 in
theorem gL_tariff_L_fact : GoodIn wsL_tariff (va_wsS RL 29 yL_fact wsL_fact) := goodIn_app (goodIn_of _ (by decide +kernel)) ggL_tariff_L_fact
theorem dL_tariff_0 : decode cL_tariff 0 = .ok (.iconst 0, 1) := by decide +kernel
theorem dL_tariff_1 : decode cL_tariff 1 = .ok (.istore 5, 2) := by decide +kernel
theorem dL_tariff_3 : decode cL_tariff 3 = .ok (.iload_n 0, 1) := by decide +kernel
theorem dL_tariff_4 : decode cL_tariff 4 = .ok (.iconst 4, 1) := by decide +kernel
theorem dL_tariff_5 : decode cL_tariff 5 = .ok (.iload_n 1, 1) := by decide +kernel
theorem dL_tariff_6 : decode cL_tariff 6 = .ok (.aload_n 2, 1) := by decide +kernel
theorem dL_tariff_7 : decode cL_tariff 7 = .ok (.aload_n 3, 1) := by decide +kernel
theorem dL_tariff_8 : decode cL_tariff 8 = .ok (.aload 4, 2) := by decide +kernel
theorem dL_tariff_10 : decode cL_tariff 10 = .ok (.invokestatic 29, 3) := by decide +kernel
theorem dL_tariff_13 : decode cL_tariff 13 = .ok (.ldc 42, 2) := by decide +kernel
theorem dL_tariff_15 : decode cL_tariff 15 = .ok (.isub, 1) := by decide +kernel
theorem dL_tariff_16 : decode cL_tariff 16 = .ok (.istore 6, 2) := by decide +kernel
theorem dL_tariff_18 : decode cL_tariff 18 = .ok (.iload 6, 2) := by decide +kernel
theorem dL_tariff_20 : decode cL_tariff 20 = .ok (.ifCond .le 18, 3) := by decide +kernel
theorem dL_tariff_23 : decode cL_tariff 23 = .ok (.iinc 5 500, 6) := by decide +kernel
theorem dL_tariff_29 : decode cL_tariff 29 = .ok (.iinc 6 (-25000), 6) := by decide +kernel
theorem dL_tariff_35 : decode cL_tariff 35 = .ok (.goto (-17), 3) := by decide +kernel
theorem dL_tariff_38 : decode cL_tariff 38 = .ok (.iload 5, 2) := by decide +kernel
theorem dL_tariff_40 : decode cL_tariff 40 = .ok (.ireturn, 1) := by decide +kernel
set_option maxRecDepth 20000 in
theorem ggL_due_L_need : GoodIn wsL_due wsL_need := goodIn_r _ [5, 6, 7, 8, 4, 9] (by decide +kernel) (by decide +kernel)
set_option maxRecDepth 20000 in
theorem gL_due_L_need : GoodIn wsL_due (va_wsS RL 43 yL_need wsL_need) := goodIn_app (goodIn_of _ (by decide +kernel)) ggL_due_L_need
set_option maxRecDepth 20000 in
theorem ggL_due_L_taper : GoodIn wsL_due wsL_taper := goodIn_r _ [12, 13, 14, 15, 7, 8, 4, 9] (by decide +kernel) (by decide +kernel)
set_option maxRecDepth 20000 in
theorem gL_due_L_taper : GoodIn wsL_due (va_wsS RL 47 yL_taper wsL_taper) := goodIn_app (goodIn_of _ (by decide +kernel)) ggL_due_L_taper
set_option maxRecDepth 20000 in
theorem ggL_due_L_tariff : GoodIn wsL_due wsL_tariff := goodIn_r _ [18, 19, 7, 8, 4, 9] (by decide +kernel) (by decide +kernel)
set_option maxRecDepth 20000 in
theorem gL_due_L_tariff : GoodIn wsL_due (va_wsS RL 50 yL_tariff wsL_tariff) := goodIn_app (goodIn_of _ (by decide +kernel)) ggL_due_L_tariff
set_option maxRecDepth 20000 in
theorem ggL_due_L_fact : GoodIn wsL_due wsL_fact := goodIn_r _ [9] (by decide +kernel) (by decide +kernel)
set_option maxRecDepth 20000 in
theorem gL_due_L_fact : GoodIn wsL_due (va_wsS RL 29 yL_fact wsL_fact) := goodIn_app (goodIn_of _ (by decide +kernel)) ggL_due_L_fact
theorem dL_due_0 : decode cL_due 0 = .ok (.iload_n 0, 1) := by decide +kernel
theorem dL_due_1 : decode cL_due 1 = .ok (.iload_n 1, 1) := by decide +kernel
theorem dL_due_2 : decode cL_due 2 = .ok (.aload_n 2, 1) := by decide +kernel
theorem dL_due_3 : decode cL_due 3 = .ok (.aload_n 3, 1) := by decide +kernel
theorem dL_due_4 : decode cL_due 4 = .ok (.aload 4, 2) := by decide +kernel
theorem dL_due_6 : decode cL_due 6 = .ok (.invokestatic 43, 3) := by decide +kernel
theorem dL_due_9 : decode cL_due 9 = .ok (.iload_n 0, 1) := by decide +kernel
theorem dL_due_10 : decode cL_due 10 = .ok (.iload_n 1, 1) := by decide +kernel
theorem dL_due_11 : decode cL_due 11 = .ok (.aload_n 2, 1) := by decide +kernel
theorem dL_due_12 : decode cL_due 12 = .ok (.aload_n 3, 1) := by decide +kernel
theorem dL_due_13 : decode cL_due 13 = .ok (.aload 4, 2) := by decide +kernel
theorem dL_due_15 : decode cL_due 15 = .ok (.invokestatic 47, 3) := by decide +kernel
theorem dL_due_18 : decode cL_due 18 = .ok (.isub, 1) := by decide +kernel
theorem dL_due_19 : decode cL_due 19 = .ok (.iload_n 0, 1) := by decide +kernel
theorem dL_due_20 : decode cL_due 20 = .ok (.iload_n 1, 1) := by decide +kernel
theorem dL_due_21 : decode cL_due 21 = .ok (.aload_n 2, 1) := by decide +kernel
theorem dL_due_22 : decode cL_due 22 = .ok (.aload_n 3, 1) := by decide +kernel
theorem dL_due_23 : decode cL_due 23 = .ok (.aload 4, 2) := by decide +kernel
theorem dL_due_25 : decode cL_due 25 = .ok (.invokestatic 50, 3) := by decide +kernel
theorem dL_due_28 : decode cL_due 28 = .ok (.isub, 1) := by decide +kernel
theorem dL_due_29 : decode cL_due 29 = .ok (.istore 5, 2) := by decide +kernel
theorem dL_due_31 : decode cL_due 31 = .ok (.iload_n 0, 1) := by decide +kernel
theorem dL_due_32 : decode cL_due 32 = .ok (.iconst 4, 1) := by decide +kernel
theorem dL_due_33 : decode cL_due 33 = .ok (.iload_n 1, 1) := by decide +kernel
theorem dL_due_34 : decode cL_due 34 = .ok (.aload_n 2, 1) := by decide +kernel
theorem dL_due_35 : decode cL_due 35 = .ok (.aload_n 3, 1) := by decide +kernel
end
section
theorem dL_due_36 : decode cL_due 36 = .ok (.aload 4, 2) := by decide +kernel
theorem dL_due_38 : decode cL_due 38 = .ok (.invokestatic 29, 3) := by decide +kernel
theorem dL_due_41 : decode cL_due 41 = .ok (.ldc 53, 2) := by decide +kernel
theorem dL_due_43 : decode cL_due 43 = .ok (.if_icmp .gt 11, 3) := by decide +kernel
theorem dL_due_46 : decode cL_due 46 = .ok (.iload 5, 2) := by decide +kernel
theorem dL_due_48 : decode cL_due 48 = .ok (.sipush 500, 3) := by decide +kernel
theorem dL_due_51 : decode cL_due 51 = .ok (.if_icmp .ge 7, 3) := by decide +kernel
theorem dL_due_54 : decode cL_due 54 = .ok (.iconst 0, 1) := by decide +kernel
theorem dL_due_55 : decode cL_due 55 = .ok (.goto 5, 3) := by decide +kernel
theorem dL_due_58 : decode cL_due 58 = .ok (.iload 5, 2) := by decide +kernel
theorem dL_due_60 : decode cL_due 60 = .ok (.ireturn, 1) := by decide +kernel
set_option maxRecDepth 20000 in
theorem ggL_open_L_due : GoodIn wsL_open wsL_due := goodIn_r _ [4, 5, 6, 7, 3, 8, 9, 10, 11, 12, 13, 14, 15, 16, 17, 18, 19, 20, 21, 22] (by decide +kernel) (by decide +kernel)
set_option maxRecDepth 20000 in
theorem gL_open_L_due : GoodIn wsL_open (va_wsS RL 54 yL_due wsL_due) := goodIn_app (goodIn_of _ (by decide +kernel)) ggL_open_L_due
theorem dL_open_0 : decode cL_open 0 = .ok (.iconst 0, 1) := by decide +kernel
theorem dL_open_1 : decode cL_open 1 = .ok (.istore 5, 2) := by decide +kernel
theorem dL_open_3 : decode cL_open 3 = .ok (.aload 4, 2) := by decide +kernel
theorem dL_open_5 : decode cL_open 5 = .ok (.iconst 4, 1) := by decide +kernel
theorem dL_open_6 : decode cL_open 6 = .ok (.iload_n 0, 1) := by decide +kernel
theorem dL_open_7 : decode cL_open 7 = .ok (.iadd, 1) := by decide +kernel
theorem dL_open_8 : decode cL_open 8 = .ok (.iaload, 1) := by decide +kernel
theorem dL_open_9 : decode cL_open 9 = .ok (.istore 6, 2) := by decide +kernel
theorem dL_open_11 : decode cL_open 11 = .ok (.iload 6, 2) := by decide +kernel
theorem dL_open_13 : decode cL_open 13 = .ok (.aload 4, 2) := by decide +kernel
theorem dL_open_15 : decode cL_open 15 = .ok (.iconst 0, 1) := by decide +kernel
theorem dL_open_16 : decode cL_open 16 = .ok (.iaload, 1) := by decide +kernel
theorem dL_open_17 : decode cL_open 17 = .ok (.if_icmp .ge 29, 3) := by decide +kernel
theorem dL_open_20 : decode cL_open 20 = .ok (.iload 5, 2) := by decide +kernel
theorem dL_open_22 : decode cL_open 22 = .ok (.iload_n 0, 1) := by decide +kernel
theorem dL_open_23 : decode cL_open 23 = .ok (.iload 6, 2) := by decide +kernel
theorem dL_open_25 : decode cL_open 25 = .ok (.aload_n 1, 1) := by decide +kernel
theorem dL_open_26 : decode cL_open 26 = .ok (.aload_n 2, 1) := by decide +kernel
theorem dL_open_27 : decode cL_open 27 = .ok (.aload 4, 2) := by decide +kernel
theorem dL_open_29 : decode cL_open 29 = .ok (.invokestatic 54, 3) := by decide +kernel
theorem dL_open_32 : decode cL_open 32 = .ok (.aload_n 3, 1) := by decide +kernel
theorem dL_open_33 : decode cL_open 33 = .ok (.iload 6, 2) := by decide +kernel
theorem dL_open_35 : decode cL_open 35 = .ok (.iaload, 1) := by decide +kernel
theorem dL_open_36 : decode cL_open 36 = .ok (.isub, 1) := by decide +kernel
theorem dL_open_37 : decode cL_open 37 = .ok (.iadd, 1) := by decide +kernel
theorem dL_open_38 : decode cL_open 38 = .ok (.istore 5, 2) := by decide +kernel
theorem dL_open_40 : decode cL_open 40 = .ok (.iinc 6 1, 3) := by decide +kernel
theorem dL_open_43 : decode cL_open 43 = .ok (.goto (-32), 3) := by decide +kernel
theorem dL_open_46 : decode cL_open 46 = .ok (.iload 5, 2) := by decide +kernel
theorem dL_open_48 : decode cL_open 48 = .ok (.ireturn, 1) := by decide +kernel
set_option maxRecDepth 20000 in
theorem ggL_recovers_L_fact : GoodIn wsL_recovers wsL_fact := goodIn_r _ [4] (by decide +kernel) (by decide +kernel)
set_option maxRecDepth 20000 in
theorem gL_recovers_L_fact : GoodIn wsL_recovers (va_wsS RL 29 yL_fact wsL_fact) := goodIn_app (goodIn_of _ (by decide +kernel)) ggL_recovers_L_fact
theorem dL_recovers_0 : decode cL_recovers 0 = .ok (.iload_n 2, 1) := by decide +kernel
theorem dL_recovers_1 : decode cL_recovers 1 = .ok (.iconst 3, 1) := by decide +kernel
theorem dL_recovers_2 : decode cL_recovers 2 = .ok (.imul, 1) := by decide +kernel
theorem dL_recovers_3 : decode cL_recovers 3 = .ok (.bipush 20, 2) := by decide +kernel
theorem dL_recovers_5 : decode cL_recovers 5 = .ok (.idiv, 1) := by decide +kernel
theorem dL_recovers_6 : decode cL_recovers 6 = .ok (.istore 6, 2) := by decide +kernel
theorem dL_recovers_8 : decode cL_recovers 8 = .ok (.iload_n 2, 1) := by decide +kernel
theorem dL_recovers_9 : decode cL_recovers 9 = .ok (.iload_n 0, 1) := by decide +kernel
theorem dL_recovers_10 : decode cL_recovers 10 = .ok (.iconst 3, 1) := by decide +kernel
theorem dL_recovers_11 : decode cL_recovers 11 = .ok (.aload 5, 2) := by decide +kernel
theorem dL_recovers_13 : decode cL_recovers 13 = .ok (.iconst 0, 1) := by decide +kernel
theorem dL_recovers_14 : decode cL_recovers 14 = .ok (.iaload, 1) := by decide +kernel
theorem dL_recovers_15 : decode cL_recovers 15 = .ok (.aload_n 3, 1) := by decide +kernel
theorem dL_recovers_16 : decode cL_recovers 16 = .ok (.aload 4, 2) := by decide +kernel
theorem dL_recovers_18 : decode cL_recovers 18 = .ok (.aload 5, 2) := by decide +kernel
theorem dL_recovers_20 : decode cL_recovers 20 = .ok (.invokestatic 29, 3) := by decide +kernel
theorem dL_recovers_23 : decode cL_recovers 23 = .ok (.iadd, 1) := by decide +kernel
theorem dL_recovers_24 : decode cL_recovers 24 = .ok (.sipush 25000, 3) := by decide +kernel
theorem dL_recovers_27 : decode cL_recovers 27 = .ok (.isub, 1) := by decide +kernel
theorem dL_recovers_28 : decode cL_recovers 28 = .ok (.istore 7, 2) := by decide +kernel
theorem dL_recovers_30 : decode cL_recovers 30 = .ok (.iload_n 1, 1) := by decide +kernel
theorem dL_recovers_31 : decode cL_recovers 31 = .ok (.iload 6, 2) := by decide +kernel
theorem dL_recovers_33 : decode cL_recovers 33 = .ok (.if_icmp .ge 7, 3) := by decide +kernel
theorem dL_recovers_36 : decode cL_recovers 36 = .ok (.iload_n 1, 1) := by decide +kernel
theorem dL_recovers_37 : decode cL_recovers 37 = .ok (.goto 5, 3) := by decide +kernel
theorem dL_recovers_40 : decode cL_recovers 40 = .ok (.iload 6, 2) := by decide +kernel
theorem dL_recovers_42 : decode cL_recovers 42 = .ok (.istore 8, 2) := by decide +kernel
theorem dL_recovers_44 : decode cL_recovers 44 = .ok (.iload 7, 2) := by decide +kernel
theorem dL_recovers_46 : decode cL_recovers 46 = .ok (.iload 8, 2) := by decide +kernel
theorem dL_recovers_48 : decode cL_recovers 48 = .ok (.if_icmp .ge 8, 3) := by decide +kernel
theorem dL_recovers_51 : decode cL_recovers 51 = .ok (.iload 7, 2) := by decide +kernel
theorem dL_recovers_53 : decode cL_recovers 53 = .ok (.goto 5, 3) := by decide +kernel
theorem dL_recovers_56 : decode cL_recovers 56 = .ok (.iload 8, 2) := by decide +kernel
theorem dL_recovers_58 : decode cL_recovers 58 = .ok (.istore 8, 2) := by decide +kernel
theorem dL_recovers_60 : decode cL_recovers 60 = .ok (.aload 5, 2) := by decide +kernel
theorem dL_recovers_62 : decode cL_recovers 62 = .ok (.bipush 10, 2) := by decide +kernel
theorem dL_recovers_64 : decode cL_recovers 64 = .ok (.iload_n 0, 1) := by decide +kernel
theorem dL_recovers_65 : decode cL_recovers 65 = .ok (.iadd, 1) := by decide +kernel
theorem dL_recovers_66 : decode cL_recovers 66 = .ok (.iaload, 1) := by decide +kernel
theorem dL_recovers_67 : decode cL_recovers 67 = .ok (.iconst 1, 1) := by decide +kernel
theorem dL_recovers_68 : decode cL_recovers 68 = .ok (.if_icmp .eq 8, 3) := by decide +kernel
theorem dL_recovers_71 : decode cL_recovers 71 = .ok (.iload 8, 2) := by decide +kernel
theorem dL_recovers_73 : decode cL_recovers 73 = .ok (.ifCond .ge 7, 3) := by decide +kernel
theorem dL_recovers_76 : decode cL_recovers 76 = .ok (.iconst 0, 1) := by decide +kernel
theorem dL_recovers_77 : decode cL_recovers 77 = .ok (.goto 5, 3) := by decide +kernel
theorem dL_recovers_80 : decode cL_recovers 80 = .ok (.iload 8, 2) := by decide +kernel
theorem dL_recovers_82 : decode cL_recovers 82 = .ok (.ireturn, 1) := by decide +kernel
theorem dL_debtThen_0 : decode cL_debtThen 0 = .ok (.aload_n 2, 1) := by decide +kernel
theorem dL_debtThen_1 : decode cL_debtThen 1 = .ok (.bipush 6, 2) := by decide +kernel
theorem dL_debtThen_3 : decode cL_debtThen 3 = .ok (.iload_n 0, 1) := by decide +kernel
theorem dL_debtThen_4 : decode cL_debtThen 4 = .ok (.iadd, 1) := by decide +kernel
theorem dL_debtThen_5 : decode cL_debtThen 5 = .ok (.iaload, 1) := by decide +kernel
theorem dL_debtThen_6 : decode cL_debtThen 6 = .ok (.iload_n 1, 1) := by decide +kernel
theorem dL_debtThen_7 : decode cL_debtThen 7 = .ok (.isub, 1) := by decide +kernel
theorem dL_debtThen_8 : decode cL_debtThen 8 = .ok (.istore_n 3, 1) := by decide +kernel
theorem dL_debtThen_9 : decode cL_debtThen 9 = .ok (.iload_n 1, 1) := by decide +kernel
theorem dL_debtThen_10 : decode cL_debtThen 10 = .ok (.ifCond .le 11, 3) := by decide +kernel
theorem dL_debtThen_13 : decode cL_debtThen 13 = .ok (.iload_n 3, 1) := by decide +kernel
theorem dL_debtThen_14 : decode cL_debtThen 14 = .ok (.ifCond .ge 7, 3) := by decide +kernel
theorem dL_debtThen_17 : decode cL_debtThen 17 = .ok (.iconst 0, 1) := by decide +kernel
theorem dL_debtThen_18 : decode cL_debtThen 18 = .ok (.goto 4, 3) := by decide +kernel
theorem dL_debtThen_21 : decode cL_debtThen 21 = .ok (.iload_n 3, 1) := by decide +kernel
theorem dL_debtThen_22 : decode cL_debtThen 22 = .ok (.ireturn, 1) := by decide +kernel
set_option maxRecDepth 20000 in
theorem ggL_pays_L_open : GoodIn wsL_pays wsL_open := goodIn_r _ [4, 5, 6, 3, 7, 8, 9, 10, 11, 12, 13, 14, 15, 16, 17, 18, 19, 20, 21, 22, 23, 24, 25] (by decide +kernel) (by decide +kernel)
set_option maxRecDepth 20000 in
theorem gL_pays_L_open : GoodIn wsL_pays (va_wsS RL 57 yL_open wsL_open) := goodIn_app (goodIn_of _ (by decide +kernel)) ggL_pays_L_open
set_option maxRecDepth 20000 in
theorem ggL_pays_L_debtThen : GoodIn wsL_pays wsL_debtThen := goodIn_r _ [28] (by decide +kernel) (by decide +kernel)
set_option maxRecDepth 20000 in
theorem gL_pays_L_debtThen : GoodIn wsL_pays (va_wsS RL 61 yL_debtThen wsL_debtThen) := goodIn_app (goodIn_of _ (by decide +kernel)) ggL_pays_L_debtThen
set_option maxRecDepth 20000 in
theorem ggL_pays_L_due : GoodIn wsL_pays wsL_due := goodIn_r _ [7, 8, 9, 10, 3, 11, 12, 13, 14, 15, 16, 17, 18, 19, 20, 21, 22, 23, 24, 25] (by decide +kernel) (by decide +kernel)
set_option maxRecDepth 20000 in
theorem gL_pays_L_due : GoodIn wsL_pays (va_wsS RL 54 yL_due wsL_due) := goodIn_app (goodIn_of _ (by decide +kernel)) ggL_pays_L_due
set_option maxRecDepth 20000 in
theorem ggL_pays_L_recovers : GoodIn wsL_pays wsL_recovers := goodIn_r _ [31, 13, 14, 3, 15] (by decide +kernel) (by decide +kernel)
set_option maxRecDepth 20000 in
theorem gL_pays_L_recovers : GoodIn wsL_pays (va_wsS RL 65 yL_recovers wsL_recovers) := goodIn_app (goodIn_of _ (by decide +kernel)) ggL_pays_L_recovers
theorem dL_pays_0 : decode cL_pays 0 = .ok (.iload_n 0, 1) := by decide +kernel
theorem dL_pays_1 : decode cL_pays 1 = .ok (.aload_n 1, 1) := by decide +kernel
theorem dL_pays_2 : decode cL_pays 2 = .ok (.aload_n 2, 1) := by decide +kernel
theorem dL_pays_3 : decode cL_pays 3 = .ok (.aload_n 3, 1) := by decide +kernel
theorem dL_pays_4 : decode cL_pays 4 = .ok (.aload 4, 2) := by decide +kernel
theorem dL_pays_6 : decode cL_pays 6 = .ok (.invokestatic 57, 3) := by decide +kernel
theorem dL_pays_9 : decode cL_pays 9 = .ok (.istore 5, 2) := by decide +kernel
theorem dL_pays_11 : decode cL_pays 11 = .ok (.iload_n 0, 1) := by decide +kernel
theorem dL_pays_12 : decode cL_pays 12 = .ok (.iload 5, 2) := by decide +kernel
theorem dL_pays_14 : decode cL_pays 14 = .ok (.aload 4, 2) := by decide +kernel
theorem dL_pays_16 : decode cL_pays 16 = .ok (.invokestatic 61, 3) := by decide +kernel
theorem dL_pays_19 : decode cL_pays 19 = .ok (.istore 6, 2) := by decide +kernel
theorem dL_pays_21 : decode cL_pays 21 = .ok (.iload_n 0, 1) := by decide +kernel
theorem dL_pays_22 : decode cL_pays 22 = .ok (.aload 4, 2) := by decide +kernel
theorem dL_pays_24 : decode cL_pays 24 = .ok (.iconst 0, 1) := by decide +kernel
theorem dL_pays_25 : decode cL_pays 25 = .ok (.iaload, 1) := by decide +kernel
theorem dL_pays_26 : decode cL_pays 26 = .ok (.aload_n 1, 1) := by decide +kernel
theorem dL_pays_27 : decode cL_pays 27 = .ok (.aload_n 2, 1) := by decide +kernel
theorem dL_pays_28 : decode cL_pays 28 = .ok (.aload 4, 2) := by decide +kernel
theorem dL_pays_30 : decode cL_pays 30 = .ok (.invokestatic 54, 3) := by decide +kernel
theorem dL_pays_33 : decode cL_pays 33 = .ok (.istore 7, 2) := by decide +kernel
theorem dL_pays_35 : decode cL_pays 35 = .ok (.iload 5, 2) := by decide +kernel
theorem dL_pays_37 : decode cL_pays 37 = .ok (.aload 4, 2) := by decide +kernel
theorem dL_pays_39 : decode cL_pays 39 = .ok (.bipush 6, 2) := by decide +kernel
theorem dL_pays_41 : decode cL_pays 41 = .ok (.iload_n 0, 1) := by decide +kernel
theorem dL_pays_42 : decode cL_pays 42 = .ok (.iadd, 1) := by decide +kernel
theorem dL_pays_43 : decode cL_pays 43 = .ok (.iaload, 1) := by decide +kernel
theorem dL_pays_44 : decode cL_pays 44 = .ok (.if_icmp .le 21, 3) := by decide +kernel
theorem dL_pays_47 : decode cL_pays 47 = .ok (.iload 5, 2) := by decide +kernel
theorem dL_pays_49 : decode cL_pays 49 = .ok (.ifCond .le 16, 3) := by decide +kernel
theorem dL_pays_52 : decode cL_pays 52 = .ok (.iload 5, 2) := by decide +kernel
theorem dL_pays_54 : decode cL_pays 54 = .ok (.aload 4, 2) := by decide +kernel
theorem dL_pays_56 : decode cL_pays 56 = .ok (.bipush 6, 2) := by decide +kernel
theorem dL_pays_58 : decode cL_pays 58 = .ok (.iload_n 0, 1) := by decide +kernel
theorem dL_pays_59 : decode cL_pays 59 = .ok (.iadd, 1) := by decide +kernel
theorem dL_pays_60 : decode cL_pays 60 = .ok (.iaload, 1) := by decide +kernel
theorem dL_pays_61 : decode cL_pays 61 = .ok (.isub, 1) := by decide +kernel
theorem dL_pays_62 : decode cL_pays 62 = .ok (.goto 4, 3) := by decide +kernel
theorem dL_pays_65 : decode cL_pays 65 = .ok (.iconst 0, 1) := by decide +kernel
theorem dL_pays_66 : decode cL_pays 66 = .ok (.istore 8, 2) := by decide +kernel
theorem dL_pays_68 : decode cL_pays 68 = .ok (.iload 7, 2) := by decide +kernel
theorem dL_pays_70 : decode cL_pays 70 = .ok (.iload 8, 2) := by decide +kernel
theorem dL_pays_72 : decode cL_pays 72 = .ok (.iadd, 1) := by decide +kernel
theorem dL_pays_73 : decode cL_pays 73 = .ok (.iload_n 0, 1) := by decide +kernel
theorem dL_pays_74 : decode cL_pays 74 = .ok (.iload 6, 2) := by decide +kernel
theorem dL_pays_76 : decode cL_pays 76 = .ok (.iload 7, 2) := by decide +kernel
theorem dL_pays_78 : decode cL_pays 78 = .ok (.aload_n 1, 1) := by decide +kernel
theorem dL_pays_79 : decode cL_pays 79 = .ok (.aload_n 2, 1) := by decide +kernel
theorem dL_pays_80 : decode cL_pays 80 = .ok (.aload 4, 2) := by decide +kernel
theorem dL_pays_82 : decode cL_pays 82 = .ok (.invokestatic 65, 3) := by decide +kernel
theorem dL_pays_85 : decode cL_pays 85 = .ok (.isub, 1) := by decide +kernel
theorem dL_pays_86 : decode cL_pays 86 = .ok (.ireturn, 1) := by decide +kernel
set_option maxRecDepth 20000 in
theorem ggL_closes_L_pays : GoodIn wsL_closes wsL_pays := goodIn_r _ [4, 5, 6, 3, 7, 8, 9, 10, 11, 12, 13, 14, 15, 16, 17, 18, 19, 20, 21, 22, 23, 24, 25, 26, 27, 28, 29, 30, 31, 32, 33, 34] (by decide +kernel) (by decide +kernel)
set_option maxRecDepth 20000 in
theorem gL_closes_L_pays : GoodIn wsL_closes (va_wsS RL 68 yL_pays wsL_pays) := goodIn_app (goodIn_of _ (by decide +kernel)) ggL_closes_L_pays
set_option maxRecDepth 20000 in
theorem ggL_closes_L_open : GoodIn wsL_closes wsL_open := goodIn_r _ [7, 8, 9, 3, 10, 11, 12, 13, 14, 15, 16, 17, 18, 19, 20, 21, 22, 23, 24, 25, 26, 27, 28] (by decide +kernel) (by decide +kernel)
set_option maxRecDepth 20000 in
theorem gL_closes_L_open : GoodIn wsL_closes (va_wsS RL 57 yL_open wsL_open) := goodIn_app (goodIn_of _ (by decide +kernel)) ggL_closes_L_open
set_option maxRecDepth 20000 in
theorem ggL_closes_L_debtThen : GoodIn wsL_closes wsL_debtThen := goodIn_r _ [31] (by decide +kernel) (by decide +kernel)
set_option maxRecDepth 20000 in
theorem gL_closes_L_debtThen : GoodIn wsL_closes (va_wsS RL 61 yL_debtThen wsL_debtThen) := goodIn_app (goodIn_of _ (by decide +kernel)) ggL_closes_L_debtThen
set_option maxRecDepth 20000 in
theorem ggL_closes_L_due : GoodIn wsL_closes wsL_due := goodIn_r _ [10, 11, 12, 13, 3, 14, 15, 16, 17, 18, 19, 20, 21, 22, 23, 24, 25, 26, 27, 28] (by decide +kernel) (by decide +kernel)
set_option maxRecDepth 20000 in
theorem gL_closes_L_due : GoodIn wsL_closes (va_wsS RL 54 yL_due wsL_due) := goodIn_app (goodIn_of _ (by decide +kernel)) ggL_closes_L_due
set_option maxRecDepth 20000 in
theorem ggL_closes_L_recovers : GoodIn wsL_closes wsL_recovers := goodIn_r _ [34, 16, 17, 3, 18] (by decide +kernel) (by decide +kernel)
set_option maxRecDepth 20000 in
theorem gL_closes_L_recovers : GoodIn wsL_closes (va_wsS RL 65 yL_recovers wsL_recovers) := goodIn_app (goodIn_of _ (by decide +kernel)) ggL_closes_L_recovers
theorem dL_closes_0 : decode cL_closes 0 = .ok (.iload_n 0, 1) := by decide +kernel
theorem dL_closes_1 : decode cL_closes 1 = .ok (.aload_n 1, 1) := by decide +kernel
theorem dL_closes_2 : decode cL_closes 2 = .ok (.aload_n 2, 1) := by decide +kernel
theorem dL_closes_3 : decode cL_closes 3 = .ok (.aload_n 3, 1) := by decide +kernel
theorem dL_closes_4 : decode cL_closes 4 = .ok (.aload 5, 2) := by decide +kernel
theorem dL_closes_6 : decode cL_closes 6 = .ok (.invokestatic 68, 3) := by decide +kernel
theorem dL_closes_9 : decode cL_closes 9 = .ok (.istore 6, 2) := by decide +kernel
theorem dL_closes_11 : decode cL_closes 11 = .ok (.iload_n 0, 1) := by decide +kernel
theorem dL_closes_12 : decode cL_closes 12 = .ok (.iload_n 0, 1) := by decide +kernel
theorem dL_closes_13 : decode cL_closes 13 = .ok (.aload_n 1, 1) := by decide +kernel
theorem dL_closes_14 : decode cL_closes 14 = .ok (.aload_n 2, 1) := by decide +kernel
theorem dL_closes_15 : decode cL_closes 15 = .ok (.aload_n 3, 1) := by decide +kernel
theorem dL_closes_16 : decode cL_closes 16 = .ok (.aload 5, 2) := by decide +kernel
theorem dL_closes_18 : decode cL_closes 18 = .ok (.invokestatic 57, 3) := by decide +kernel
theorem dL_closes_21 : decode cL_closes 21 = .ok (.aload 5, 2) := by decide +kernel
theorem dL_closes_23 : decode cL_closes 23 = .ok (.invokestatic 61, 3) := by decide +kernel
theorem dL_closes_26 : decode cL_closes 26 = .ok (.istore 7, 2) := by decide +kernel
theorem dL_closes_28 : decode cL_closes 28 = .ok (.iload_n 0, 1) := by decide +kernel
theorem dL_closes_29 : decode cL_closes 29 = .ok (.iload 7, 2) := by decide +kernel
theorem dL_closes_31 : decode cL_closes 31 = .ok (.iload_n 0, 1) := by decide +kernel
theorem dL_closes_32 : decode cL_closes 32 = .ok (.aload 5, 2) := by decide +kernel
theorem dL_closes_34 : decode cL_closes 34 = .ok (.iconst 0, 1) := by decide +kernel
theorem dL_closes_35 : decode cL_closes 35 = .ok (.iaload, 1) := by decide +kernel
theorem dL_closes_36 : decode cL_closes 36 = .ok (.aload_n 1, 1) := by decide +kernel
theorem dL_closes_37 : decode cL_closes 37 = .ok (.aload_n 2, 1) := by decide +kernel
theorem dL_closes_38 : decode cL_closes 38 = .ok (.aload 5, 2) := by decide +kernel
theorem dL_closes_40 : decode cL_closes 40 = .ok (.invokestatic 54, 3) := by decide +kernel
theorem dL_closes_43 : decode cL_closes 43 = .ok (.aload_n 1, 1) := by decide +kernel
theorem dL_closes_44 : decode cL_closes 44 = .ok (.aload_n 2, 1) := by decide +kernel
theorem dL_closes_45 : decode cL_closes 45 = .ok (.aload 5, 2) := by decide +kernel
theorem dL_closes_47 : decode cL_closes 47 = .ok (.invokestatic 65, 3) := by decide +kernel
theorem dL_closes_50 : decode cL_closes 50 = .ok (.istore 8, 2) := by decide +kernel
theorem dL_closes_52 : decode cL_closes 52 = .ok (.aload 5, 2) := by decide +kernel
theorem dL_closes_54 : decode cL_closes 54 = .ok (.bipush 6, 2) := by decide +kernel
theorem dL_closes_56 : decode cL_closes 56 = .ok (.iload_n 0, 1) := by decide +kernel
theorem dL_closes_57 : decode cL_closes 57 = .ok (.iadd, 1) := by decide +kernel
theorem dL_closes_58 : decode cL_closes 58 = .ok (.iload 7, 2) := by decide +kernel
theorem dL_closes_60 : decode cL_closes 60 = .ok (.iload 8, 2) := by decide +kernel
theorem dL_closes_62 : decode cL_closes 62 = .ok (.isub, 1) := by decide +kernel
theorem dL_closes_63 : decode cL_closes 63 = .ok (.iastore, 1) := by decide +kernel
theorem dL_closes_64 : decode cL_closes 64 = .ok (.aload 5, 2) := by decide +kernel
theorem dL_closes_66 : decode cL_closes 66 = .ok (.bipush 8, 2) := by decide +kernel
theorem dL_closes_68 : decode cL_closes 68 = .ok (.iload_n 0, 1) := by decide +kernel
theorem dL_closes_69 : decode cL_closes 69 = .ok (.iadd, 1) := by decide +kernel
theorem dL_closes_70 : decode cL_closes 70 = .ok (.dup2, 1) := by decide +kernel
theorem dL_closes_71 : decode cL_closes 71 = .ok (.iaload, 1) := by decide +kernel
theorem dL_closes_72 : decode cL_closes 72 = .ok (.iload 8, 2) := by decide +kernel
theorem dL_closes_74 : decode cL_closes 74 = .ok (.iadd, 1) := by decide +kernel
theorem dL_closes_75 : decode cL_closes 75 = .ok (.iastore, 1) := by decide +kernel
theorem dL_closes_76 : decode cL_closes 76 = .ok (.aload 4, 2) := by decide +kernel
theorem dL_closes_78 : decode cL_closes 78 = .ok (.aload 5, 2) := by decide +kernel
theorem dL_closes_80 : decode cL_closes 80 = .ok (.iconst 0, 1) := by decide +kernel
theorem dL_closes_81 : decode cL_closes 81 = .ok (.iaload, 1) := by decide +kernel
theorem dL_closes_82 : decode cL_closes 82 = .ok (.iload 6, 2) := by decide +kernel
theorem dL_closes_84 : decode cL_closes 84 = .ok (.iastore, 1) := by decide +kernel
theorem dL_closes_85 : decode cL_closes 85 = .ok (.aload 5, 2) := by decide +kernel
theorem dL_closes_87 : decode cL_closes 87 = .ok (.iconst 4, 1) := by decide +kernel
theorem dL_closes_88 : decode cL_closes 88 = .ok (.iload_n 0, 1) := by decide +kernel
theorem dL_closes_89 : decode cL_closes 89 = .ok (.iadd, 1) := by decide +kernel
theorem dL_closes_90 : decode cL_closes 90 = .ok (.iaload, 1) := by decide +kernel
theorem dL_closes_91 : decode cL_closes 91 = .ok (.istore 9, 2) := by decide +kernel
theorem dL_closes_93 : decode cL_closes 93 = .ok (.iload 9, 2) := by decide +kernel
theorem dL_closes_95 : decode cL_closes 95 = .ok (.aload 5, 2) := by decide +kernel
theorem dL_closes_97 : decode cL_closes 97 = .ok (.iconst 0, 1) := by decide +kernel
theorem dL_closes_98 : decode cL_closes 98 = .ok (.iaload, 1) := by decide +kernel
theorem dL_closes_99 : decode cL_closes 99 = .ok (.if_icmp .gt 23, 3) := by decide +kernel
theorem dL_closes_102 : decode cL_closes 102 = .ok (.aload_n 3, 1) := by decide +kernel
theorem dL_closes_103 : decode cL_closes 103 = .ok (.iload 9, 2) := by decide +kernel
theorem dL_closes_105 : decode cL_closes 105 = .ok (.iload_n 0, 1) := by decide +kernel
theorem dL_closes_106 : decode cL_closes 106 = .ok (.iload 9, 2) := by decide +kernel
theorem dL_closes_108 : decode cL_closes 108 = .ok (.aload_n 1, 1) := by decide +kernel
theorem dL_closes_109 : decode cL_closes 109 = .ok (.aload_n 2, 1) := by decide +kernel
theorem dL_closes_110 : decode cL_closes 110 = .ok (.aload 5, 2) := by decide +kernel
theorem dL_closes_112 : decode cL_closes 112 = .ok (.invokestatic 54, 3) := by decide +kernel
theorem dL_closes_115 : decode cL_closes 115 = .ok (.iastore, 1) := by decide +kernel
theorem dL_closes_116 : decode cL_closes 116 = .ok (.iinc 9 1, 3) := by decide +kernel
theorem dL_closes_119 : decode cL_closes 119 = .ok (.goto (-26), 3) := by decide +kernel
theorem dL_closes_122 : decode cL_closes 122 = .ok (.iload 6, 2) := by decide +kernel
theorem dL_closes_124 : decode cL_closes 124 = .ok (.ireturn, 1) := by decide +kernel
set_option maxRecDepth 20000 in
theorem ggL_isHome_X1_debt : GoodIn wsL_isHome wsX1_debt := goodIn_ca (goodIn_r _ [5, 6, 7, 8, 4, 9, 10, 11, 12, 151, 152, 153, 154, 155, 156, 157, 158, 159, 160, 161, 162] (by decide +kernel) (by decide +kernel)) (goodIn_sub (fun _ h => List.mem_cons_of_mem _ (List.mem_append_left _ (List.mem_append_right _ h))) (by decide +kernel))
set_option maxRecDepth 20000 in
theorem gL_isHome_X1_debt : GoodIn wsL_isHome (wsV RL 71 RX1 yX1_debt wsX1_debt) := goodIn_app (goodIn_of _ (by decide +kernel)) ggL_isHome_X1_debt
set_option maxRecDepth 20000 in
theorem ggL_isHome_X1_recovered : GoodIn wsL_isHome wsX1_recovered := goodIn_ca (goodIn_r _ [16, 6, 7, 8, 4, 9, 10, 11, 12, 151, 152, 153, 154, 155, 156, 157, 158, 159, 160, 161, 162] (by decide +kernel) (by decide +kernel)) (goodIn_sub (fun _ h => List.mem_cons_of_mem _ (List.mem_append_left _ (List.mem_append_right _ h))) (by decide +kernel))
set_option maxRecDepth 20000 in
theorem gL_isHome_X1_recovered : GoodIn wsL_isHome (wsV RL 75 RX1 yX1_recovered wsX1_recovered) := goodIn_app (goodIn_of _ (by decide +kernel)) ggL_isHome_X1_recovered
set_option maxRecDepth 20000 in
theorem ggL_isHome_X1_unassessed : GoodIn wsL_isHome wsX1_unassessed := goodIn_ca (goodIn_r _ [20, 21, 6, 7, 8, 4, 9, 10, 11, 12, 22, 23, 24, 25, 26, 27, 28, 29, 30, 31, 32, 33, 34, 35, 36, 37, 38, 39, 40, 41, 42, 43, 44, 45, 46, 47, 48, 49, 50, 51, 52, 53, 54, 160, 161, 162, 151, 152, 153, 154, 155, 156, 157, 158, 159] (by decide +kernel) (by decide +kernel)) (goodIn_sub (fun _ h => List.mem_cons_of_mem _ (List.mem_append_left _ (List.mem_append_right _ h))) (by decide +kernel))
set_option maxRecDepth 20000 in
theorem gL_isHome_X1_unassessed : GoodIn wsL_isHome (wsV RL 78 RX1 yX1_unassessed wsX1_unassessed) := goodIn_app (goodIn_of _ (by decide +kernel)) ggL_isHome_X1_unassessed
set_option maxRecDepth 20000 in
theorem ggL_isHome_L_open : GoodIn wsL_isHome wsL_open := goodIn_r _ [58, 59, 60, 57, 61, 62, 63, 64, 65, 66, 67, 68, 69, 70, 71, 72, 73, 74, 75, 76, 77, 78, 79] (by decide +kernel) (by decide +kernel)
set_option maxRecDepth 20000 in
theorem gL_isHome_L_open : GoodIn wsL_isHome (va_wsS RL 57 yL_open wsL_open) := goodIn_app (goodIn_of _ (by decide +kernel)) ggL_isHome_L_open
set_option maxRecDepth 20000 in
theorem ggL_isHome_X1_wouldPay : GoodIn wsL_isHome wsX1_wouldPay := goodIn_ca (goodIn_r _ [83, 21, 6, 7, 8, 4, 9, 10, 11, 12, 84, 23, 85, 86, 87, 22, 24, 25, 26, 27, 28, 29, 30, 31, 32, 33, 34, 35, 36, 37, 38, 39, 40, 41, 42, 43, 44, 45, 46, 47, 48, 49, 50, 51, 52, 53, 54, 88, 89, 90, 91, 92, 93, 94, 95, 96, 97, 98, 99, 100, 101, 160, 161, 162, 151, 152, 153, 154, 155, 156, 157, 158, 159] (by decide +kernel) (by decide +kernel)) (goodIn_sub (fun _ h => List.mem_cons_of_mem _ (List.mem_append_left _ (List.mem_append_right _ h))) (by decide +kernel))
set_option maxRecDepth 20000 in
theorem gL_isHome_X1_wouldPay : GoodIn wsL_isHome (wsV RL 81 RX1 yX1_wouldPay wsX1_wouldPay) := goodIn_app (goodIn_of _ (by decide +kernel)) ggL_isHome_X1_wouldPay
set_option maxRecDepth 20000 in
theorem ggL_isHome_L_pays : GoodIn wsL_isHome wsL_pays := goodIn_r _ [104, 55, 56, 57, 58, 59, 60, 61, 62, 63, 64, 65, 66, 67, 68, 69, 70, 71, 72, 73, 74, 75, 76, 77, 78, 79, 105, 106, 107, 108, 109, 110] (by decide +kernel) (by decide +kernel)
set_option maxRecDepth 20000 in
theorem gL_isHome_L_pays : GoodIn wsL_isHome (va_wsS RL 68 yL_pays wsL_pays) := goodIn_app (goodIn_of _ (by decide +kernel)) ggL_isHome_L_pays
set_option maxRecDepth 20000 in
theorem ggL_isHome_X1_assessed : GoodIn wsL_isHome wsX1_assessed := goodIn_ca (goodIn_r _ [114, 6, 7, 8, 4, 9, 10, 11, 12, 115, 116, 117, 151, 152, 153, 154, 155, 156, 157, 158, 159, 160, 161, 162] (by decide +kernel) (by decide +kernel)) (goodIn_sub (fun _ h => List.mem_cons_of_mem _ (List.mem_append_left _ (List.mem_append_right _ h))) (by decide +kernel))
set_option maxRecDepth 20000 in
theorem gL_isHome_X1_assessed : GoodIn wsL_isHome (wsV RL 84 RX1 yX1_assessed wsX1_assessed) := goodIn_app (goodIn_of _ (by decide +kernel)) ggL_isHome_X1_assessed
set_option maxRecDepth 20000 in
theorem ggL_isHome_X1_paid : GoodIn wsL_isHome wsX1_paid := goodIn_ca (goodIn_r _ [121, 6, 7, 8, 4, 9, 10, 11, 12, 115, 116, 117, 151, 152, 153, 154, 155, 156, 157, 158, 159, 160, 161, 162] (by decide +kernel) (by decide +kernel)) (goodIn_sub (fun _ h => List.mem_cons_of_mem _ (List.mem_append_left _ (List.mem_append_right _ h))) (by decide +kernel))
set_option maxRecDepth 20000 in
theorem gL_isHome_X1_paid : GoodIn wsL_isHome (wsV RL 87 RX1 yX1_paid wsX1_paid) := goodIn_app (goodIn_of _ (by decide +kernel)) ggL_isHome_X1_paid
set_option maxRecDepth 20000 in
theorem ggL_isHome_L_low : GoodIn wsL_isHome wsL_low := goodIn_r _ [124, 125] (by decide +kernel) (by decide +kernel)
set_option maxRecDepth 20000 in
theorem gL_isHome_L_low : GoodIn wsL_isHome (va_wsS RL 90 yL_low wsL_low) := goodIn_app (goodIn_of _ (by decide +kernel)) ggL_isHome_L_low
set_option maxRecDepth 20000 in
theorem ggL_isHome_X1_need : GoodIn wsL_isHome wsX1_need := goodIn_ca (goodIn_r _ [129, 6, 7, 8, 4, 9, 10, 11, 12, 115, 116, 117, 35, 23, 36, 37, 32, 38, 39, 40, 41, 42, 160, 161, 162, 151, 152, 153, 154, 155, 156, 157, 158, 159] (by decide +kernel) (by decide +kernel)) (goodIn_sub (fun _ h => List.mem_cons_of_mem _ (List.mem_append_left _ (List.mem_append_right _ h))) (by decide +kernel))
set_option maxRecDepth 20000 in
theorem gL_isHome_X1_need : GoodIn wsL_isHome (wsV RL 93 RX1 yX1_need wsX1_need) := goodIn_app (goodIn_of _ (by decide +kernel)) ggL_isHome_X1_need
set_option maxRecDepth 20000 in
theorem ggL_isHome_L_need : GoodIn wsL_isHome wsL_need := goodIn_r _ [65, 66, 67, 68, 57, 69] (by decide +kernel) (by decide +kernel)
set_option maxRecDepth 20000 in
theorem gL_isHome_L_need : GoodIn wsL_isHome (va_wsS RL 43 yL_need wsL_need) := goodIn_app (goodIn_of _ (by decide +kernel)) ggL_isHome_L_need
set_option maxRecDepth 20000 in
theorem ggL_isHome_X1_taper : GoodIn wsL_isHome wsX1_taper := goodIn_ca (goodIn_r _ [133, 6, 7, 8, 4, 9, 10, 11, 12, 115, 116, 117, 44, 23, 45, 46, 32, 47, 48, 41, 49, 160, 161, 162, 151, 152, 153, 154, 155, 156, 157, 158, 159] (by decide +kernel) (by decide +kernel)) (goodIn_sub (fun _ h => List.mem_cons_of_mem _ (List.mem_append_left _ (List.mem_append_right _ h))) (by decide +kernel))
set_option maxRecDepth 20000 in
theorem gL_isHome_X1_taper : GoodIn wsL_isHome (wsV RL 95 RX1 yX1_taper wsX1_taper) := goodIn_app (goodIn_of _ (by decide +kernel)) ggL_isHome_X1_taper
set_option maxRecDepth 20000 in
theorem ggL_isHome_L_taper : GoodIn wsL_isHome wsL_taper := goodIn_r _ [72, 73, 74, 75, 67, 68, 57, 69] (by decide +kernel) (by decide +kernel)
set_option maxRecDepth 20000 in
theorem gL_isHome_L_taper : GoodIn wsL_isHome (va_wsS RL 47 yL_taper wsL_taper) := goodIn_app (goodIn_of _ (by decide +kernel)) ggL_isHome_L_taper
set_option maxRecDepth 20000 in
theorem ggL_isHome_X1_tariff : GoodIn wsL_isHome wsX1_tariff := goodIn_ca (goodIn_r _ [137, 6, 7, 8, 4, 9, 10, 11, 12, 115, 116, 117, 51, 23, 52, 53, 32, 54, 47, 48, 41, 49, 160, 161, 162, 151, 152, 153, 154, 155, 156, 157, 158, 159] (by decide +kernel) (by decide +kernel)) (goodIn_sub (fun _ h => List.mem_cons_of_mem _ (List.mem_append_left _ (List.mem_append_right _ h))) (by decide +kernel))
set_option maxRecDepth 20000 in
theorem gL_isHome_X1_tariff : GoodIn wsL_isHome (wsV RL 97 RX1 yX1_tariff wsX1_tariff) := goodIn_app (goodIn_of _ (by decide +kernel)) ggL_isHome_X1_tariff
set_option maxRecDepth 20000 in
theorem ggL_isHome_L_tariff : GoodIn wsL_isHome wsL_tariff := goodIn_r _ [78, 79, 67, 68, 57, 69] (by decide +kernel) (by decide +kernel)
set_option maxRecDepth 20000 in
theorem gL_isHome_L_tariff : GoodIn wsL_isHome (va_wsS RL 50 yL_tariff wsL_tariff) := goodIn_app (goodIn_of _ (by decide +kernel)) ggL_isHome_L_tariff
set_option maxRecDepth 20000 in
theorem ggL_isHome_X1_due : GoodIn wsL_isHome wsX1_due := goodIn_ca (goodIn_r _ [141, 6, 7, 8, 4, 9, 10, 11, 12, 115, 116, 117, 29, 23, 30, 31, 32, 33, 34, 35, 36, 37, 38, 39, 40, 41, 42, 43, 44, 45, 46, 47, 48, 49, 50, 51, 52, 53, 54, 160, 161, 162, 151, 152, 153, 154, 155, 156, 157, 158, 159] (by decide +kernel) (by decide +kernel)) (goodIn_sub (fun _ h => List.mem_cons_of_mem _ (List.mem_append_left _ (List.mem_append_right _ h))) (by decide +kernel))
set_option maxRecDepth 20000 in
theorem gL_isHome_X1_due : GoodIn wsL_isHome (wsV RL 99 RX1 yX1_due wsX1_due) := goodIn_app (goodIn_of _ (by decide +kernel)) ggL_isHome_X1_due
set_option maxRecDepth 20000 in
theorem ggL_isHome_L_due : GoodIn wsL_isHome wsL_due := goodIn_r _ [61, 62, 63, 64, 57, 65, 66, 67, 68, 69, 70, 71, 72, 73, 74, 75, 76, 77, 78, 79] (by decide +kernel) (by decide +kernel)
set_option maxRecDepth 20000 in
theorem gL_isHome_L_due : GoodIn wsL_isHome (va_wsS RL 54 yL_due wsL_due) := goodIn_app (goodIn_of _ (by decide +kernel)) ggL_isHome_L_due
set_option maxRecDepth 20000 in
theorem ggL_isHome_X1_fact : GoodIn wsL_isHome wsX1_fact := goodIn_ca (goodIn_ca (goodIn_r _ [145, 6, 7, 8, 4, 9, 10, 11, 12, 115, 116, 117, 146, 147, 148, 149, 150, 151, 152, 153, 154, 155, 156, 157, 158, 159, 160, 161, 162] (by decide +kernel) (by decide +kernel)) (goodIn_sub (fun _ h => List.mem_cons_of_mem _ (List.mem_append_left _ (List.mem_append_right _ h))) (by decide +kernel))) (goodIn_sub (fun _ h => List.mem_cons_of_mem _ (List.mem_append_right _ h)) (by decide +kernel))
set_option maxRecDepth 20000 in
theorem gL_isHome_X1_fact : GoodIn wsL_isHome (wsV RL 101 RX1 yX1_fact wsX1_fact) := goodIn_app (goodIn_of _ (by decide +kernel)) ggL_isHome_X1_fact
set_option maxRecDepth 20000 in
theorem ggL_isHome_L_fact : GoodIn wsL_isHome wsL_fact := goodIn_r _ [69] (by decide +kernel) (by decide +kernel)
set_option maxRecDepth 20000 in
theorem gL_isHome_L_fact : GoodIn wsL_isHome (va_wsS RL 29 yL_fact wsL_fact) := goodIn_app (goodIn_of _ (by decide +kernel)) ggL_isHome_L_fact
theorem dL_isHome_0 : decode cL_isHome 0 = .ok (.aload_n 0, 1) := by decide +kernel
theorem dL_isHome_1 : decode cL_isHome 1 = .ok (.iload_n 1, 1) := by decide +kernel
theorem dL_isHome_2 : decode cL_isHome 2 = .ok (.invokevirtual 71, 3) := by decide +kernel
theorem dL_isHome_5 : decode cL_isHome 5 = .ok (.aload 7, 2) := by decide +kernel
theorem dL_isHome_7 : decode cL_isHome 7 = .ok (.bipush 6, 2) := by decide +kernel
theorem dL_isHome_9 : decode cL_isHome 9 = .ok (.iload_n 1, 1) := by decide +kernel
theorem dL_isHome_10 : decode cL_isHome 10 = .ok (.iadd, 1) := by decide +kernel
theorem dL_isHome_11 : decode cL_isHome 11 = .ok (.iaload, 1) := by decide +kernel
theorem dL_isHome_12 : decode cL_isHome 12 = .ok (.if_icmp .ne 73, 3) := by decide +kernel
theorem dL_isHome_15 : decode cL_isHome 15 = .ok (.aload_n 0, 1) := by decide +kernel
theorem dL_isHome_16 : decode cL_isHome 16 = .ok (.iload_n 1, 1) := by decide +kernel
theorem dL_isHome_17 : decode cL_isHome 17 = .ok (.invokevirtual 75, 3) := by decide +kernel
theorem dL_isHome_20 : decode cL_isHome 20 = .ok (.aload 7, 2) := by decide +kernel
theorem dL_isHome_22 : decode cL_isHome 22 = .ok (.bipush 8, 2) := by decide +kernel
theorem dL_isHome_24 : decode cL_isHome 24 = .ok (.iload_n 1, 1) := by decide +kernel
theorem dL_isHome_25 : decode cL_isHome 25 = .ok (.iadd, 1) := by decide +kernel
theorem dL_isHome_26 : decode cL_isHome 26 = .ok (.iaload, 1) := by decide +kernel
theorem dL_isHome_27 : decode cL_isHome 27 = .ok (.if_icmp .ne 58, 3) := by decide +kernel
theorem dL_isHome_30 : decode cL_isHome 30 = .ok (.aload_n 0, 1) := by decide +kernel
theorem dL_isHome_31 : decode cL_isHome 31 = .ok (.iload_n 1, 1) := by decide +kernel
theorem dL_isHome_32 : decode cL_isHome 32 = .ok (.invokevirtual 78, 3) := by decide +kernel
theorem dL_isHome_35 : decode cL_isHome 35 = .ok (.iload_n 1, 1) := by decide +kernel
theorem dL_isHome_36 : decode cL_isHome 36 = .ok (.aload_n 3, 1) := by decide +kernel
theorem dL_isHome_37 : decode cL_isHome 37 = .ok (.aload 4, 2) := by decide +kernel
theorem dL_isHome_39 : decode cL_isHome 39 = .ok (.aload 5, 2) := by decide +kernel
theorem dL_isHome_41 : decode cL_isHome 41 = .ok (.aload 7, 2) := by decide +kernel
theorem dL_isHome_43 : decode cL_isHome 43 = .ok (.invokestatic 57, 3) := by decide +kernel
theorem dL_isHome_46 : decode cL_isHome 46 = .ok (.if_icmp .ne 39, 3) := by decide +kernel
theorem dL_isHome_49 : decode cL_isHome 49 = .ok (.aload_n 0, 1) := by decide +kernel
theorem dL_isHome_50 : decode cL_isHome 50 = .ok (.iload_n 1, 1) := by decide +kernel
theorem dL_isHome_51 : decode cL_isHome 51 = .ok (.invokevirtual 81, 3) := by decide +kernel
theorem dL_isHome_54 : decode cL_isHome 54 = .ok (.aload 7, 2) := by decide +kernel
theorem dL_isHome_56 : decode cL_isHome 56 = .ok (.iconst 0, 1) := by decide +kernel
theorem dL_isHome_57 : decode cL_isHome 57 = .ok (.iaload, 1) := by decide +kernel
theorem dL_isHome_58 : decode cL_isHome 58 = .ok (.bipush 48, 2) := by decide +kernel
theorem dL_isHome_60 : decode cL_isHome 60 = .ok (.if_icmp .ne 7, 3) := by decide +kernel
theorem dL_isHome_63 : decode cL_isHome 63 = .ok (.iconst 0, 1) := by decide +kernel
theorem dL_isHome_64 : decode cL_isHome 64 = .ok (.goto 14, 3) := by decide +kernel
theorem dL_isHome_67 : decode cL_isHome 67 = .ok (.iload_n 1, 1) := by decide +kernel
theorem dL_isHome_68 : decode cL_isHome 68 = .ok (.aload_n 3, 1) := by decide +kernel
theorem dL_isHome_69 : decode cL_isHome 69 = .ok (.aload 4, 2) := by decide +kernel
theorem dL_isHome_71 : decode cL_isHome 71 = .ok (.aload 5, 2) := by decide +kernel
theorem dL_isHome_73 : decode cL_isHome 73 = .ok (.aload 7, 2) := by decide +kernel
theorem dL_isHome_75 : decode cL_isHome 75 = .ok (.invokestatic 68, 3) := by decide +kernel
theorem dL_isHome_78 : decode cL_isHome 78 = .ok (.if_icmp .ne 7, 3) := by decide +kernel
theorem dL_isHome_81 : decode cL_isHome 81 = .ok (.iconst 1, 1) := by decide +kernel
theorem dL_isHome_82 : decode cL_isHome 82 = .ok (.goto 4, 3) := by decide +kernel
theorem dL_isHome_85 : decode cL_isHome 85 = .ok (.iconst 0, 1) := by decide +kernel
theorem dL_isHome_86 : decode cL_isHome 86 = .ok (.istore 8, 2) := by decide +kernel
theorem dL_isHome_88 : decode cL_isHome 88 = .ok (.iconst 0, 1) := by decide +kernel
theorem dL_isHome_89 : decode cL_isHome 89 = .ok (.istore 9, 2) := by decide +kernel
theorem dL_isHome_91 : decode cL_isHome 91 = .ok (.iload 9, 2) := by decide +kernel
theorem dL_isHome_93 : decode cL_isHome 93 = .ok (.bipush 48, 2) := by decide +kernel
theorem dL_isHome_95 : decode cL_isHome 95 = .ok (.if_icmp .ge 51, 3) := by decide +kernel
theorem dL_isHome_98 : decode cL_isHome 98 = .ok (.iload 8, 2) := by decide +kernel
end
section
theorem dL_isHome_100 : decode cL_isHome 100 = .ok (.ifCond .eq 46, 3) := by decide +kernel
theorem dL_isHome_103 : decode cL_isHome 103 = .ok (.aload_n 0, 1) := by decide +kernel
theorem dL_isHome_104 : decode cL_isHome 104 = .ok (.iload_n 1, 1) := by decide +kernel
theorem dL_isHome_105 : decode cL_isHome 105 = .ok (.iload 9, 2) := by decide +kernel
theorem dL_isHome_107 : decode cL_isHome 107 = .ok (.invokevirtual 84, 3) := by decide +kernel
theorem dL_isHome_110 : decode cL_isHome 110 = .ok (.aload 5, 2) := by decide +kernel
theorem dL_isHome_112 : decode cL_isHome 112 = .ok (.iload 9, 2) := by decide +kernel
theorem dL_isHome_114 : decode cL_isHome 114 = .ok (.iaload, 1) := by decide +kernel
theorem dL_isHome_115 : decode cL_isHome 115 = .ok (.if_icmp .ne 22, 3) := by decide +kernel
theorem dL_isHome_118 : decode cL_isHome 118 = .ok (.aload_n 0, 1) := by decide +kernel
theorem dL_isHome_119 : decode cL_isHome 119 = .ok (.iload_n 1, 1) := by decide +kernel
theorem dL_isHome_120 : decode cL_isHome 120 = .ok (.iload 9, 2) := by decide +kernel
theorem dL_isHome_122 : decode cL_isHome 122 = .ok (.invokevirtual 87, 3) := by decide +kernel
theorem dL_isHome_125 : decode cL_isHome 125 = .ok (.aload 6, 2) := by decide +kernel
theorem dL_isHome_127 : decode cL_isHome 127 = .ok (.iload 9, 2) := by decide +kernel
theorem dL_isHome_129 : decode cL_isHome 129 = .ok (.iaload, 1) := by decide +kernel
theorem dL_isHome_130 : decode cL_isHome 130 = .ok (.if_icmp .ne 7, 3) := by decide +kernel
theorem dL_isHome_133 : decode cL_isHome 133 = .ok (.iconst 1, 1) := by decide +kernel
theorem dL_isHome_134 : decode cL_isHome 134 = .ok (.goto 4, 3) := by decide +kernel
theorem dL_isHome_137 : decode cL_isHome 137 = .ok (.iconst 0, 1) := by decide +kernel
theorem dL_isHome_138 : decode cL_isHome 138 = .ok (.istore 8, 2) := by decide +kernel
theorem dL_isHome_140 : decode cL_isHome 140 = .ok (.iinc 9 1, 3) := by decide +kernel
theorem dL_isHome_143 : decode cL_isHome 143 = .ok (.goto (-52), 3) := by decide +kernel
theorem dL_isHome_146 : decode cL_isHome 146 = .ok (.iconst 0, 1) := by decide +kernel
theorem dL_isHome_147 : decode cL_isHome 147 = .ok (.istore 9, 2) := by decide +kernel
theorem dL_isHome_149 : decode cL_isHome 149 = .ok (.iload 9, 2) := by decide +kernel
theorem dL_isHome_151 : decode cL_isHome 151 = .ok (.iconst 4, 1) := by decide +kernel
theorem dL_isHome_152 : decode cL_isHome 152 = .ok (.if_icmp .ge 185, 3) := by decide +kernel
theorem dL_isHome_155 : decode cL_isHome 155 = .ok (.iload 8, 2) := by decide +kernel
theorem dL_isHome_157 : decode cL_isHome 157 = .ok (.ifCond .eq 180, 3) := by decide +kernel
theorem dL_isHome_160 : decode cL_isHome 160 = .ok (.iload 9, 2) := by decide +kernel
theorem dL_isHome_162 : decode cL_isHome 162 = .ok (.ifCond .ne 13, 3) := by decide +kernel
theorem dL_isHome_165 : decode cL_isHome 165 = .ok (.aload 7, 2) := by decide +kernel
theorem dL_isHome_167 : decode cL_isHome 167 = .ok (.iconst 0, 1) := by decide +kernel
theorem dL_isHome_168 : decode cL_isHome 168 = .ok (.iaload, 1) := by decide +kernel
theorem dL_isHome_169 : decode cL_isHome 169 = .ok (.bipush 48, 2) := by decide +kernel
theorem dL_isHome_171 : decode cL_isHome 171 = .ok (.irem, 1) := by decide +kernel
theorem dL_isHome_172 : decode cL_isHome 172 = .ok (.goto 14, 3) := by decide +kernel
theorem dL_isHome_175 : decode cL_isHome 175 = .ok (.iload_n 2, 1) := by decide +kernel
theorem dL_isHome_176 : decode cL_isHome 176 = .ok (.iconst 3, 1) := by decide +kernel
theorem dL_isHome_177 : decode cL_isHome 177 = .ok (.iload 9, 2) := by decide +kernel
theorem dL_isHome_179 : decode cL_isHome 179 = .ok (.imul, 1) := by decide +kernel
theorem dL_isHome_180 : decode cL_isHome 180 = .ok (.ishr, 1) := by decide +kernel
theorem dL_isHome_181 : decode cL_isHome 181 = .ok (.bipush 48, 2) := by decide +kernel
theorem dL_isHome_183 : decode cL_isHome 183 = .ok (.invokestatic 90, 3) := by decide +kernel
theorem dL_isHome_186 : decode cL_isHome 186 = .ok (.istore 10, 2) := by decide +kernel
theorem dL_isHome_188 : decode cL_isHome 188 = .ok (.aload_n 0, 1) := by decide +kernel
theorem dL_isHome_189 : decode cL_isHome 189 = .ok (.iload_n 1, 1) := by decide +kernel
theorem dL_isHome_190 : decode cL_isHome 190 = .ok (.iload 10, 2) := by decide +kernel
theorem dL_isHome_192 : decode cL_isHome 192 = .ok (.invokevirtual 93, 3) := by decide +kernel
theorem dL_isHome_195 : decode cL_isHome 195 = .ok (.iload_n 1, 1) := by decide +kernel
theorem dL_isHome_196 : decode cL_isHome 196 = .ok (.iload 10, 2) := by decide +kernel
theorem dL_isHome_198 : decode cL_isHome 198 = .ok (.aload_n 3, 1) := by decide +kernel
theorem dL_isHome_199 : decode cL_isHome 199 = .ok (.aload 4, 2) := by decide +kernel
theorem dL_isHome_201 : decode cL_isHome 201 = .ok (.aload 7, 2) := by decide +kernel
theorem dL_isHome_203 : decode cL_isHome 203 = .ok (.invokestatic 43, 3) := by decide +kernel
theorem dL_isHome_206 : decode cL_isHome 206 = .ok (.if_icmp .ne 70, 3) := by decide +kernel
theorem dL_isHome_209 : decode cL_isHome 209 = .ok (.aload_n 0, 1) := by decide +kernel
theorem dL_isHome_210 : decode cL_isHome 210 = .ok (.iload_n 1, 1) := by decide +kernel
theorem dL_isHome_211 : decode cL_isHome 211 = .ok (.iload 10, 2) := by decide +kernel
theorem dL_isHome_213 : decode cL_isHome 213 = .ok (.invokevirtual 95, 3) := by decide +kernel
theorem dL_isHome_216 : decode cL_isHome 216 = .ok (.iload_n 1, 1) := by decide +kernel
theorem dL_isHome_217 : decode cL_isHome 217 = .ok (.iload 10, 2) := by decide +kernel
theorem dL_isHome_219 : decode cL_isHome 219 = .ok (.aload_n 3, 1) := by decide +kernel
theorem dL_isHome_220 : decode cL_isHome 220 = .ok (.aload 4, 2) := by decide +kernel
theorem dL_isHome_222 : decode cL_isHome 222 = .ok (.aload 7, 2) := by decide +kernel
theorem dL_isHome_224 : decode cL_isHome 224 = .ok (.invokestatic 47, 3) := by decide +kernel
theorem dL_isHome_227 : decode cL_isHome 227 = .ok (.if_icmp .ne 49, 3) := by decide +kernel
theorem dL_isHome_230 : decode cL_isHome 230 = .ok (.aload_n 0, 1) := by decide +kernel
theorem dL_isHome_231 : decode cL_isHome 231 = .ok (.iload_n 1, 1) := by decide +kernel
theorem dL_isHome_232 : decode cL_isHome 232 = .ok (.iload 10, 2) := by decide +kernel
theorem dL_isHome_234 : decode cL_isHome 234 = .ok (.invokevirtual 97, 3) := by decide +kernel
theorem dL_isHome_237 : decode cL_isHome 237 = .ok (.iload_n 1, 1) := by decide +kernel
theorem dL_isHome_238 : decode cL_isHome 238 = .ok (.iload 10, 2) := by decide +kernel
theorem dL_isHome_240 : decode cL_isHome 240 = .ok (.aload_n 3, 1) := by decide +kernel
theorem dL_isHome_241 : decode cL_isHome 241 = .ok (.aload 4, 2) := by decide +kernel
theorem dL_isHome_243 : decode cL_isHome 243 = .ok (.aload 7, 2) := by decide +kernel
theorem dL_isHome_245 : decode cL_isHome 245 = .ok (.invokestatic 50, 3) := by decide +kernel
theorem dL_isHome_248 : decode cL_isHome 248 = .ok (.if_icmp .ne 28, 3) := by decide +kernel
theorem dL_isHome_251 : decode cL_isHome 251 = .ok (.aload_n 0, 1) := by decide +kernel
theorem dL_isHome_252 : decode cL_isHome 252 = .ok (.iload_n 1, 1) := by decide +kernel
theorem dL_isHome_253 : decode cL_isHome 253 = .ok (.iload 10, 2) := by decide +kernel
theorem dL_isHome_255 : decode cL_isHome 255 = .ok (.invokevirtual 99, 3) := by decide +kernel
theorem dL_isHome_258 : decode cL_isHome 258 = .ok (.iload_n 1, 1) := by decide +kernel
theorem dL_isHome_259 : decode cL_isHome 259 = .ok (.iload 10, 2) := by decide +kernel
theorem dL_isHome_261 : decode cL_isHome 261 = .ok (.aload_n 3, 1) := by decide +kernel
theorem dL_isHome_262 : decode cL_isHome 262 = .ok (.aload 4, 2) := by decide +kernel
theorem dL_isHome_264 : decode cL_isHome 264 = .ok (.aload 7, 2) := by decide +kernel
theorem dL_isHome_266 : decode cL_isHome 266 = .ok (.invokestatic 54, 3) := by decide +kernel
theorem dL_isHome_269 : decode cL_isHome 269 = .ok (.if_icmp .ne 7, 3) := by decide +kernel
theorem dL_isHome_272 : decode cL_isHome 272 = .ok (.iconst 1, 1) := by decide +kernel
theorem dL_isHome_273 : decode cL_isHome 273 = .ok (.goto 4, 3) := by decide +kernel
theorem dL_isHome_276 : decode cL_isHome 276 = .ok (.iconst 0, 1) := by decide +kernel
theorem dL_isHome_277 : decode cL_isHome 277 = .ok (.istore 8, 2) := by decide +kernel
theorem dL_isHome_279 : decode cL_isHome 279 = .ok (.iconst 0, 1) := by decide +kernel
theorem dL_isHome_280 : decode cL_isHome 280 = .ok (.istore 11, 2) := by decide +kernel
theorem dL_isHome_282 : decode cL_isHome 282 = .ok (.iload 11, 2) := by decide +kernel
theorem dL_isHome_284 : decode cL_isHome 284 = .ok (.iconst 5, 1) := by decide +kernel
theorem dL_isHome_285 : decode cL_isHome 285 = .ok (.if_icmp .ge 46, 3) := by decide +kernel
theorem dL_isHome_288 : decode cL_isHome 288 = .ok (.iload 8, 2) := by decide +kernel
theorem dL_isHome_290 : decode cL_isHome 290 = .ok (.ifCond .eq 41, 3) := by decide +kernel
theorem dL_isHome_293 : decode cL_isHome 293 = .ok (.aload_n 0, 1) := by decide +kernel
theorem dL_isHome_294 : decode cL_isHome 294 = .ok (.iload_n 1, 1) := by decide +kernel
theorem dL_isHome_295 : decode cL_isHome 295 = .ok (.iload 11, 2) := by decide +kernel
theorem dL_isHome_297 : decode cL_isHome 297 = .ok (.iload 10, 2) := by decide +kernel
theorem dL_isHome_299 : decode cL_isHome 299 = .ok (.invokevirtual 101, 3) := by decide +kernel
theorem dL_isHome_302 : decode cL_isHome 302 = .ok (.iload_n 1, 1) := by decide +kernel
theorem dL_isHome_303 : decode cL_isHome 303 = .ok (.iload 11, 2) := by decide +kernel
theorem dL_isHome_305 : decode cL_isHome 305 = .ok (.iload 10, 2) := by decide +kernel
theorem dL_isHome_307 : decode cL_isHome 307 = .ok (.aload_n 3, 1) := by decide +kernel
theorem dL_isHome_308 : decode cL_isHome 308 = .ok (.aload 4, 2) := by decide +kernel
theorem dL_isHome_310 : decode cL_isHome 310 = .ok (.aload 7, 2) := by decide +kernel
theorem dL_isHome_312 : decode cL_isHome 312 = .ok (.invokestatic 29, 3) := by decide +kernel
theorem dL_isHome_315 : decode cL_isHome 315 = .ok (.if_icmp .ne 7, 3) := by decide +kernel
theorem dL_isHome_318 : decode cL_isHome 318 = .ok (.iconst 1, 1) := by decide +kernel
theorem dL_isHome_319 : decode cL_isHome 319 = .ok (.goto 4, 3) := by decide +kernel
theorem dL_isHome_322 : decode cL_isHome 322 = .ok (.iconst 0, 1) := by decide +kernel
theorem dL_isHome_323 : decode cL_isHome 323 = .ok (.istore 8, 2) := by decide +kernel
theorem dL_isHome_325 : decode cL_isHome 325 = .ok (.iinc 11 1, 3) := by decide +kernel
theorem dL_isHome_328 : decode cL_isHome 328 = .ok (.goto (-46), 3) := by decide +kernel
theorem dL_isHome_331 : decode cL_isHome 331 = .ok (.iinc 9 1, 3) := by decide +kernel
theorem dL_isHome_334 : decode cL_isHome 334 = .ok (.goto (-185), 3) := by decide +kernel
theorem dL_isHome_337 : decode cL_isHome 337 = .ok (.iload 8, 2) := by decide +kernel
theorem dL_isHome_339 : decode cL_isHome 339 = .ok (.ireturn, 1) := by decide +kernel
set_option maxRecDepth 20000 in
theorem ggL_tells_L_low : GoodIn wsL_tells wsL_low := goodIn_r _ [9, 10] (by decide +kernel) (by decide +kernel)
set_option maxRecDepth 20000 in
theorem gL_tells_L_low : GoodIn wsL_tells (va_wsS RL 90 yL_low wsL_low) := goodIn_app (goodIn_of _ (by decide +kernel)) ggL_tells_L_low
set_option maxRecDepth 20000 in
theorem ggL_tells_L_calls : GoodIn wsL_tells wsL_calls := goodIn_ca (goodIn_ca (goodIn_ca (goodIn_r _ [13, 14, 15, 16, 17, 18, 19, 20, 21, 22, 23, 24, 25, 26, 27, 28, 29, 30, 31, 32, 33, 34, 35, 36, 37, 38, 39, 40, 41, 42, 43, 44, 45, 46, 47, 48, 49, 50, 51, 52, 53, 54, 55, 56, 57, 58, 59, 60, 61, 62, 63, 64, 65, 66, 67, 68, 69, 70, 71, 72, 73, 74, 75, 76, 77, 78, 79, 80, 81, 82, 83, 84, 85, 86, 87, 88, 89, 90, 91, 92, 93, 94, 95, 96, 97, 98, 99, 100, 101, 102, 103, 104, 105, 106, 107, 108, 109, 110, 111, 112, 113, 114, 115, 116, 117, 118, 119, 120, 121, 122, 123, 124, 125, 126, 127, 128, 129, 130, 131, 132, 133, 134, 135, 136, 137, 138, 139, 140] (by decide +kernel) (by decide +kernel)) (goodIn_sub (fun _ h => List.mem_cons_of_mem _ (List.mem_append_left _ (List.mem_append_left _ (List.mem_append_right _ h)))) (by decide +kernel))) (goodIn_sub (fun _ h => List.mem_cons_of_mem _ (List.mem_append_left _ (List.mem_append_right _ h))) (by decide +kernel))) (goodIn_sub (fun _ h => List.mem_cons_of_mem _ (List.mem_append_right _ h)) (by decide +kernel))
set_option maxRecDepth 20000 in
theorem gL_tells_L_calls : GoodIn wsL_tells (va_wsS RL 109 yL_calls wsL_calls) := goodIn_app (goodIn_of _ (by decide +kernel)) ggL_tells_L_calls
theorem dL_tells_0 : decode cL_tells 0 = .ok (.iload_n 1, 1) := by decide +kernel
theorem dL_tells_1 : decode cL_tells 1 = .ok (.aload 4, 2) := by decide +kernel
theorem dL_tells_3 : decode cL_tells 3 = .ok (.iconst 1, 1) := by decide +kernel
theorem dL_tells_4 : decode cL_tells 4 = .ok (.iaload, 1) := by decide +kernel
theorem dL_tells_5 : decode cL_tells 5 = .ok (.invokestatic 90, 3) := by decide +kernel
theorem dL_tells_8 : decode cL_tells 8 = .ok (.istore 5, 2) := by decide +kernel
theorem dL_tells_10 : decode cL_tells 10 = .ok (.iload_n 1, 1) := by decide +kernel
theorem dL_tells_11 : decode cL_tells 11 = .ok (.iconst 2, 1) := by decide +kernel
theorem dL_tells_12 : decode cL_tells 12 = .ok (.ishr, 1) := by decide +kernel
theorem dL_tells_13 : decode cL_tells 13 = .ok (.bipush 9, 2) := by decide +kernel
theorem dL_tells_15 : decode cL_tells 15 = .ok (.invokestatic 90, 3) := by decide +kernel
theorem dL_tells_18 : decode cL_tells 18 = .ok (.istore 6, 2) := by decide +kernel
theorem dL_tells_20 : decode cL_tells 20 = .ok (.iload 6, 2) := by decide +kernel
theorem dL_tells_22 : decode cL_tells 22 = .ok (.iconst 4, 1) := by decide +kernel
theorem dL_tells_23 : decode cL_tells 23 = .ok (.if_icmp .le 7, 3) := by decide +kernel
theorem dL_tells_26 : decode cL_tells 26 = .ok (.iconst 3, 1) := by decide +kernel
theorem dL_tells_27 : decode cL_tells 27 = .ok (.goto 5, 3) := by decide +kernel
theorem dL_tells_30 : decode cL_tells 30 = .ok (.iload 6, 2) := by decide +kernel
theorem dL_tells_32 : decode cL_tells 32 = .ok (.istore 6, 2) := by decide +kernel
theorem dL_tells_34 : decode cL_tells 34 = .ok (.iload_n 1, 1) := by decide +kernel
theorem dL_tells_35 : decode cL_tells 35 = .ok (.bipush 14, 2) := by decide +kernel
theorem dL_tells_37 : decode cL_tells 37 = .ok (.ishr, 1) := by decide +kernel
theorem dL_tells_38 : decode cL_tells 38 = .ok (.iconst 3, 1) := by decide +kernel
theorem dL_tells_39 : decode cL_tells 39 = .ok (.invokestatic 90, 3) := by decide +kernel
theorem dL_tells_42 : decode cL_tells 42 = .ok (.ifCond .ne 15, 3) := by decide +kernel
theorem dL_tells_45 : decode cL_tells 45 = .ok (.iload_n 1, 1) := by decide +kernel
theorem dL_tells_46 : decode cL_tells 46 = .ok (.iconst 5, 1) := by decide +kernel
theorem dL_tells_47 : decode cL_tells 47 = .ok (.ishr, 1) := by decide +kernel
theorem dL_tells_48 : decode cL_tells 48 = .ok (.sipush 1440, 3) := by decide +kernel
theorem dL_tells_51 : decode cL_tells 51 = .ok (.invokestatic 90, 3) := by decide +kernel
theorem dL_tells_54 : decode cL_tells 54 = .ok (.goto 19, 3) := by decide +kernel
theorem dL_tells_57 : decode cL_tells 57 = .ok (.iload_n 1, 1) := by decide +kernel
theorem dL_tells_58 : decode cL_tells 58 = .ok (.iconst 5, 1) := by decide +kernel
theorem dL_tells_59 : decode cL_tells 59 = .ok (.ishr, 1) := by decide +kernel
theorem dL_tells_60 : decode cL_tells 60 = .ok (.bipush 30, 2) := by decide +kernel
theorem dL_tells_62 : decode cL_tells 62 = .ok (.aload 4, 2) := by decide +kernel
theorem dL_tells_64 : decode cL_tells 64 = .ok (.iconst 0, 1) := by decide +kernel
theorem dL_tells_65 : decode cL_tells 65 = .ok (.iaload, 1) := by decide +kernel
theorem dL_tells_66 : decode cL_tells 66 = .ok (.imul, 1) := by decide +kernel
theorem dL_tells_67 : decode cL_tells 67 = .ok (.bipush 45, 2) := by decide +kernel
theorem dL_tells_69 : decode cL_tells 69 = .ok (.iadd, 1) := by decide +kernel
theorem dL_tells_70 : decode cL_tells 70 = .ok (.invokestatic 90, 3) := by decide +kernel
theorem dL_tells_73 : decode cL_tells 73 = .ok (.istore 7, 2) := by decide +kernel
theorem dL_tells_75 : decode cL_tells 75 = .ok (.iload 7, 2) := by decide +kernel
theorem dL_tells_77 : decode cL_tells 77 = .ok (.sipush 1439, 3) := by decide +kernel
theorem dL_tells_80 : decode cL_tells 80 = .ok (.if_icmp .le 9, 3) := by decide +kernel
theorem dL_tells_83 : decode cL_tells 83 = .ok (.sipush 1439, 3) := by decide +kernel
theorem dL_tells_86 : decode cL_tells 86 = .ok (.goto 5, 3) := by decide +kernel
theorem dL_tells_89 : decode cL_tells 89 = .ok (.iload 7, 2) := by decide +kernel
theorem dL_tells_91 : decode cL_tells 91 = .ok (.istore 7, 2) := by decide +kernel
theorem dL_tells_93 : decode cL_tells 93 = .ok (.iload 6, 2) := by decide +kernel
theorem dL_tells_95 : decode cL_tells 95 = .ok (.ifCond .ne 16, 3) := by decide +kernel
theorem dL_tells_98 : decode cL_tells 98 = .ok (.iconst 1, 1) := by decide +kernel
theorem dL_tells_99 : decode cL_tells 99 = .ok (.iload_n 1, 1) := by decide +kernel
theorem dL_tells_100 : decode cL_tells 100 = .ok (.bipush 8, 2) := by decide +kernel
theorem dL_tells_102 : decode cL_tells 102 = .ok (.ishr, 1) := by decide +kernel
theorem dL_tells_103 : decode cL_tells 103 = .ok (.iconst 2, 1) := by decide +kernel
theorem dL_tells_104 : decode cL_tells 104 = .ok (.invokestatic 90, 3) := by decide +kernel
theorem dL_tells_107 : decode cL_tells 107 = .ok (.iadd, 1) := by decide +kernel
theorem dL_tells_108 : decode cL_tells 108 = .ok (.goto 113, 3) := by decide +kernel
theorem dL_tells_111 : decode cL_tells 111 = .ok (.iload 6, 2) := by decide +kernel
theorem dL_tells_113 : decode cL_tells 113 = .ok (.iconst 1, 1) := by decide +kernel
theorem dL_tells_114 : decode cL_tells 114 = .ok (.if_icmp .ne 15, 3) := by decide +kernel
theorem dL_tells_117 : decode cL_tells 117 = .ok (.iload_n 1, 1) := by decide +kernel
theorem dL_tells_118 : decode cL_tells 118 = .ok (.bipush 8, 2) := by decide +kernel
theorem dL_tells_120 : decode cL_tells 120 = .ok (.ishr, 1) := by decide +kernel
theorem dL_tells_121 : decode cL_tells 121 = .ok (.bipush 10, 2) := by decide +kernel
theorem dL_tells_123 : decode cL_tells 123 = .ok (.invokestatic 90, 3) := by decide +kernel
theorem dL_tells_126 : decode cL_tells 126 = .ok (.goto 95, 3) := by decide +kernel
theorem dL_tells_129 : decode cL_tells 129 = .ok (.iload 6, 2) := by decide +kernel
theorem dL_tells_131 : decode cL_tells 131 = .ok (.iconst 2, 1) := by decide +kernel
theorem dL_tells_132 : decode cL_tells 132 = .ok (.if_icmp .ne 31, 3) := by decide +kernel
theorem dL_tells_135 : decode cL_tells 135 = .ok (.iload_n 1, 1) := by decide +kernel
theorem dL_tells_136 : decode cL_tells 136 = .ok (.bipush 6, 2) := by decide +kernel
theorem dL_tells_138 : decode cL_tells 138 = .ok (.ishr, 1) := by decide +kernel
theorem dL_tells_139 : decode cL_tells 139 = .ok (.iload_n 1, 1) := by decide +kernel
theorem dL_tells_140 : decode cL_tells 140 = .ok (.bipush 15, 2) := by decide +kernel
theorem dL_tells_142 : decode cL_tells 142 = .ok (.ishr, 1) := by decide +kernel
theorem dL_tells_143 : decode cL_tells 143 = .ok (.iconst 3, 1) := by decide +kernel
theorem dL_tells_144 : decode cL_tells 144 = .ok (.invokestatic 90, 3) := by decide +kernel
theorem dL_tells_147 : decode cL_tells 147 = .ok (.ifCond .ne 8, 3) := by decide +kernel
theorem dL_tells_150 : decode cL_tells 150 = .ok (.ldc 104, 2) := by decide +kernel
theorem dL_tells_152 : decode cL_tells 152 = .ok (.goto 5, 3) := by decide +kernel
theorem dL_tells_155 : decode cL_tells 155 = .ok (.ldc 105, 2) := by decide +kernel
theorem dL_tells_157 : decode cL_tells 157 = .ok (.invokestatic 90, 3) := by decide +kernel
theorem dL_tells_160 : decode cL_tells 160 = .ok (.goto 61, 3) := by decide +kernel
theorem dL_tells_163 : decode cL_tells 163 = .ok (.iload 6, 2) := by decide +kernel
theorem dL_tells_165 : decode cL_tells 165 = .ok (.iconst 3, 1) := by decide +kernel
theorem dL_tells_166 : decode cL_tells 166 = .ok (.if_icmp .ne 31, 3) := by decide +kernel
theorem dL_tells_169 : decode cL_tells 169 = .ok (.iload_n 1, 1) := by decide +kernel
theorem dL_tells_170 : decode cL_tells 170 = .ok (.bipush 6, 2) := by decide +kernel
theorem dL_tells_172 : decode cL_tells 172 = .ok (.ishr, 1) := by decide +kernel
theorem dL_tells_173 : decode cL_tells 173 = .ok (.iload_n 1, 1) := by decide +kernel
theorem dL_tells_174 : decode cL_tells 174 = .ok (.bipush 15, 2) := by decide +kernel
theorem dL_tells_176 : decode cL_tells 176 = .ok (.ishr, 1) := by decide +kernel
theorem dL_tells_177 : decode cL_tells 177 = .ok (.iconst 5, 1) := by decide +kernel
theorem dL_tells_178 : decode cL_tells 178 = .ok (.invokestatic 90, 3) := by decide +kernel
theorem dL_tells_181 : decode cL_tells 181 = .ok (.ifCond .ne 8, 3) := by decide +kernel
theorem dL_tells_184 : decode cL_tells 184 = .ok (.ldc 104, 2) := by decide +kernel
theorem dL_tells_186 : decode cL_tells 186 = .ok (.goto 5, 3) := by decide +kernel
theorem dL_tells_189 : decode cL_tells 189 = .ok (.ldc 106, 2) := by decide +kernel
theorem dL_tells_191 : decode cL_tells 191 = .ok (.invokestatic 90, 3) := by decide +kernel
theorem dL_tells_194 : decode cL_tells 194 = .ok (.goto 27, 3) := by decide +kernel
theorem dL_tells_197 : decode cL_tells 197 = .ok (.iload_n 1, 1) := by decide +kernel
theorem dL_tells_198 : decode cL_tells 198 = .ok (.iconst 4, 1) := by decide +kernel
theorem dL_tells_199 : decode cL_tells 199 = .ok (.ishr, 1) := by decide +kernel
theorem dL_tells_200 : decode cL_tells 200 = .ok (.iload_n 1, 1) := by decide +kernel
theorem dL_tells_201 : decode cL_tells 201 = .ok (.bipush 15, 2) := by decide +kernel
theorem dL_tells_203 : decode cL_tells 203 = .ok (.ishr, 1) := by decide +kernel
theorem dL_tells_204 : decode cL_tells 204 = .ok (.iconst 5, 1) := by decide +kernel
theorem dL_tells_205 : decode cL_tells 205 = .ok (.invokestatic 90, 3) := by decide +kernel
theorem dL_tells_208 : decode cL_tells 208 = .ok (.ifCond .ne 8, 3) := by decide +kernel
theorem dL_tells_211 : decode cL_tells 211 = .ok (.ldc 107, 2) := by decide +kernel
theorem dL_tells_213 : decode cL_tells 213 = .ok (.goto 5, 3) := by decide +kernel
theorem dL_tells_216 : decode cL_tells 216 = .ok (.ldc 108, 2) := by decide +kernel
theorem dL_tells_218 : decode cL_tells 218 = .ok (.invokestatic 90, 3) := by decide +kernel
theorem dL_tells_221 : decode cL_tells 221 = .ok (.istore 8, 2) := by decide +kernel
theorem dL_tells_223 : decode cL_tells 223 = .ok (.iload 7, 2) := by decide +kernel
theorem dL_tells_225 : decode cL_tells 225 = .ok (.bipush 30, 2) := by decide +kernel
theorem dL_tells_227 : decode cL_tells 227 = .ok (.idiv, 1) := by decide +kernel
theorem dL_tells_228 : decode cL_tells 228 = .ok (.iload 7, 2) := by decide +kernel
theorem dL_tells_230 : decode cL_tells 230 = .ok (.bipush 30, 2) := by decide +kernel
theorem dL_tells_232 : decode cL_tells 232 = .ok (.irem, 1) := by decide +kernel
theorem dL_tells_233 : decode cL_tells 233 = .ok (.bipush 14, 2) := by decide +kernel
theorem dL_tells_235 : decode cL_tells 235 = .ok (.if_icmp .le 7, 3) := by decide +kernel
theorem dL_tells_238 : decode cL_tells 238 = .ok (.iconst 1, 1) := by decide +kernel
theorem dL_tells_239 : decode cL_tells 239 = .ok (.goto 4, 3) := by decide +kernel
theorem dL_tells_242 : decode cL_tells 242 = .ok (.iconst 0, 1) := by decide +kernel
theorem dL_tells_243 : decode cL_tells 243 = .ok (.iadd, 1) := by decide +kernel
theorem dL_tells_244 : decode cL_tells 244 = .ok (.istore 9, 2) := by decide +kernel
theorem dL_tells_246 : decode cL_tells 246 = .ok (.aload_n 2, 1) := by decide +kernel
theorem dL_tells_247 : decode cL_tells 247 = .ok (.aload 4, 2) := by decide +kernel
theorem dL_tells_249 : decode cL_tells 249 = .ok (.iconst 2, 1) := by decide +kernel
theorem dL_tells_250 : decode cL_tells 250 = .ok (.iaload, 1) := by decide +kernel
theorem dL_tells_251 : decode cL_tells 251 = .ok (.bipush 16, 2) := by decide +kernel
theorem dL_tells_253 : decode cL_tells 253 = .ok (.iload 9, 2) := by decide +kernel
theorem dL_tells_255 : decode cL_tells 255 = .ok (.imul, 1) := by decide +kernel
theorem dL_tells_256 : decode cL_tells 256 = .ok (.bipush 8, 2) := by decide +kernel
theorem dL_tells_258 : decode cL_tells 258 = .ok (.iload 5, 2) := by decide +kernel
theorem dL_tells_260 : decode cL_tells 260 = .ok (.imul, 1) := by decide +kernel
theorem dL_tells_261 : decode cL_tells 261 = .ok (.iadd, 1) := by decide +kernel
theorem dL_tells_262 : decode cL_tells 262 = .ok (.iload 6, 2) := by decide +kernel
theorem dL_tells_264 : decode cL_tells 264 = .ok (.iadd, 1) := by decide +kernel
theorem dL_tells_265 : decode cL_tells 265 = .ok (.iastore, 1) := by decide +kernel
theorem dL_tells_266 : decode cL_tells 266 = .ok (.aload_n 3, 1) := by decide +kernel
theorem dL_tells_267 : decode cL_tells 267 = .ok (.aload 4, 2) := by decide +kernel
theorem dL_tells_269 : decode cL_tells 269 = .ok (.iconst 2, 1) := by decide +kernel
theorem dL_tells_270 : decode cL_tells 270 = .ok (.iaload, 1) := by decide +kernel
theorem dL_tells_271 : decode cL_tells 271 = .ok (.iload 8, 2) := by decide +kernel
theorem dL_tells_273 : decode cL_tells 273 = .ok (.iastore, 1) := by decide +kernel
theorem dL_tells_274 : decode cL_tells 274 = .ok (.aload 4, 2) := by decide +kernel
theorem dL_tells_276 : decode cL_tells 276 = .ok (.iconst 2, 1) := by decide +kernel
theorem dL_tells_277 : decode cL_tells 277 = .ok (.dup2, 1) := by decide +kernel
theorem dL_tells_278 : decode cL_tells 278 = .ok (.iaload, 1) := by decide +kernel
theorem dL_tells_279 : decode cL_tells 279 = .ok (.iconst 1, 1) := by decide +kernel
theorem dL_tells_280 : decode cL_tells 280 = .ok (.iadd, 1) := by decide +kernel
theorem dL_tells_281 : decode cL_tells 281 = .ok (.iastore, 1) := by decide +kernel
theorem dL_tells_282 : decode cL_tells 282 = .ok (.aload_n 0, 1) := by decide +kernel
theorem dL_tells_283 : decode cL_tells 283 = .ok (.iconst 1, 1) := by decide +kernel
theorem dL_tells_284 : decode cL_tells 284 = .ok (.iload 5, 2) := by decide +kernel
theorem dL_tells_286 : decode cL_tells 286 = .ok (.iload 6, 2) := by decide +kernel
theorem dL_tells_288 : decode cL_tells 288 = .ok (.iload 7, 2) := by decide +kernel
theorem dL_tells_290 : decode cL_tells 290 = .ok (.iload 8, 2) := by decide +kernel
theorem dL_tells_292 : decode cL_tells 292 = .ok (.invokestatic 109, 3) := by decide +kernel
theorem dL_tells_295 : decode cL_tells 295 = .ok (.iload 9, 2) := by decide +kernel
theorem dL_tells_297 : decode cL_tells 297 = .ok (.if_icmp .ne 7, 3) := by decide +kernel
theorem dL_tells_300 : decode cL_tells 300 = .ok (.iconst 1, 1) := by decide +kernel
theorem dL_tells_301 : decode cL_tells 301 = .ok (.goto 4, 3) := by decide +kernel
theorem dL_tells_304 : decode cL_tells 304 = .ok (.iconst 0, 1) := by decide +kernel
theorem dL_tells_305 : decode cL_tells 305 = .ok (.ireturn, 1) := by decide +kernel
set_option maxRecDepth 20000 in
theorem ggL_law_X1_init : GoodIn wsL_law wsX1_init := goodIn_r _ [7, 8, 9, 10, 11, 12, 13, 14, 241, 242, 243] (by decide +kernel) (by decide +kernel)
set_option maxRecDepth 20000 in
theorem gL_law_X1_init : GoodIn wsL_law (wsX1_init) := ggL_law_X1_init
set_option maxRecDepth 20000 in
theorem ggL_law_L_cell : GoodIn wsL_law wsL_cell := goodIn_r _ [18, 19, 20] (by decide +kernel) (by decide +kernel)
set_option maxRecDepth 20000 in
theorem gL_law_L_cell : GoodIn wsL_law (va_wsS RL 114 yL_cell wsL_cell) := goodIn_app (goodIn_of _ (by decide +kernel)) ggL_law_L_cell
set_option maxRecDepth 20000 in
theorem ggL_law_L_low : GoodIn wsL_law wsL_low := goodIn_r _ [23, 24] (by decide +kernel) (by decide +kernel)
set_option maxRecDepth 20000 in
theorem gL_law_L_low : GoodIn wsL_law (va_wsS RL 90 yL_low wsL_low) := goodIn_app (goodIn_of _ (by decide +kernel)) ggL_law_L_low
set_option maxRecDepth 20000 in
theorem ggL_law_L_calls : GoodIn wsL_law wsL_calls := goodIn_ca (goodIn_ca (goodIn_ca (goodIn_r _ [27, 28, 29, 30, 31, 2, 32, 33, 34, 13, 12, 14, 11, 35, 36, 37, 38, 39, 9, 10, 40, 41, 3, 42, 43, 44, 45, 46, 47, 48, 49, 50, 51, 52, 53, 54, 55, 56, 57, 58, 59, 60, 61, 62, 63, 64, 65, 66, 67, 68, 69, 70, 71, 72, 73, 74, 75, 76, 77, 78, 79, 80, 81, 82, 83, 84, 85, 86, 87, 88, 89, 90, 91, 92, 93, 94, 95, 96, 97, 98, 99, 100, 101, 102, 103, 104, 105, 106, 107, 108, 109, 110, 111, 112, 113, 114, 115, 116, 117, 118, 119, 120, 121, 122, 123, 124, 125, 126, 127, 128, 129, 130, 131, 132, 133, 134, 241, 242, 243, 244, 245, 246, 247, 248, 249, 250, 251, 252] (by decide +kernel) (by decide +kernel)) (goodIn_sub (fun _ h => List.mem_append_left _ (List.mem_append_left _ (List.mem_append_right _ h))) (by decide +kernel))) (goodIn_sub (fun _ h => List.mem_append_left _ (List.mem_append_right _ h)) (by decide +kernel))) (goodIn_sub (fun _ h => List.mem_append_right _ h) (by decide +kernel))
set_option maxRecDepth 20000 in
theorem gL_law_L_calls : GoodIn wsL_law (va_wsS RL 109 yL_calls wsL_calls) := goodIn_app (goodIn_of _ (by decide +kernel)) ggL_law_L_calls
set_option maxRecDepth 20000 in
theorem ggL_law_L_tells : GoodIn wsL_law wsL_tells := goodIn_ca (goodIn_ca (goodIn_ca (goodIn_r _ [137, 138, 139, 140, 141, 142, 21, 22, 17, 23, 24, 25, 26, 27, 28, 29, 30, 31, 2, 32, 33, 34, 13, 12, 14, 11, 35, 36, 37, 38, 39, 9, 10, 40, 41, 3, 42, 43, 44, 45, 46, 47, 48, 49, 50, 51, 52, 53, 54, 55, 56, 57, 58, 59, 60, 61, 62, 63, 64, 65, 66, 67, 68, 69, 70, 71, 72, 73, 74, 75, 76, 77, 78, 79, 80, 81, 82, 83, 84, 85, 86, 87, 88, 89, 90, 91, 92, 93, 94, 95, 96, 97, 98, 99, 100, 101, 102, 103, 104, 105, 106, 107, 108, 109, 110, 111, 112, 113, 114, 115, 116, 117, 118, 119, 120, 121, 122, 123, 124, 125, 126, 127, 128, 129, 130, 131, 132, 133, 134, 241, 242, 243, 244, 245, 246, 247, 248, 249, 250, 251, 252] (by decide +kernel) (by decide +kernel)) (goodIn_sub (fun _ h => List.mem_append_left _ (List.mem_append_left _ (List.mem_append_right _ h))) (by decide +kernel))) (goodIn_sub (fun _ h => List.mem_append_left _ (List.mem_append_right _ h)) (by decide +kernel))) (goodIn_sub (fun _ h => List.mem_append_right _ h) (by decide +kernel))
set_option maxRecDepth 20000 in
theorem gL_law_L_tells : GoodIn wsL_law (va_wsS RL 118 yL_tells wsL_tells) := goodIn_app (goodIn_of _ (by decide +kernel)) ggL_law_L_tells
set_option maxRecDepth 20000 in
theorem ggL_law_X1_dispute : GoodIn wsL_law wsX1_dispute := goodIn_ca (goodIn_r _ [146, 54, 55, 56, 2, 57, 58, 59, 12, 244, 245, 246, 247, 248, 249, 250, 251, 252, 241, 242, 243] (by decide +kernel) (by decide +kernel)) (goodIn_sub (fun _ h => List.mem_append_right _ h) (by decide +kernel))
set_option maxRecDepth 20000 in
theorem gL_law_X1_dispute : GoodIn wsL_law (wsV RL 122 RX1 yX1_dispute wsX1_dispute) := goodIn_app (goodIn_of _ (by decide +kernel)) ggL_law_X1_dispute
set_option maxRecDepth 20000 in
theorem ggL_law_L_closes : GoodIn wsL_law wsL_closes := goodIn_r _ [149, 150, 151, 17, 152, 153, 154, 155, 156, 157, 158, 159, 160, 161, 162, 163, 164, 165, 166, 167, 168, 169, 170, 171, 172, 173, 174, 175, 176, 177, 178, 179, 180, 181, 182] (by decide +kernel) (by decide +kernel)
set_option maxRecDepth 20000 in
theorem gL_law_L_closes : GoodIn wsL_law (va_wsS RL 127 yL_closes wsL_closes) := goodIn_app (goodIn_of _ (by decide +kernel)) ggL_law_L_closes
set_option maxRecDepth 20000 in
theorem ggL_law_X1_month : GoodIn wsL_law wsX1_month := goodIn_r _ [186, 14, 241, 242, 243] (by decide +kernel) (by decide +kernel)
set_option maxRecDepth 20000 in
theorem gL_law_X1_month : GoodIn wsL_law (wsV RL 131 RX1 yX1_month wsX1_month) := goodIn_app (goodIn_of _ (by decide +kernel)) ggL_law_X1_month
set_option maxRecDepth 20000 in
theorem ggL_law_X1_households : GoodIn wsL_law wsX1_households := goodIn_r _ [190, 13, 241, 242, 243] (by decide +kernel) (by decide +kernel)
set_option maxRecDepth 20000 in
theorem gL_law_X1_households : GoodIn wsL_law (wsV RL 134 RX1 yX1_households wsX1_households) := goodIn_app (goodIn_of _ (by decide +kernel)) ggL_law_X1_households
set_option maxRecDepth 20000 in
theorem ggL_law_L_isHome : GoodIn wsL_law wsL_isHome := goodIn_ca (goodIn_ca (goodIn_r _ [193, 194, 195, 196, 2, 197, 54, 55, 56, 57, 58, 59, 12, 198, 199, 200, 201, 202, 203, 204, 205, 14, 92, 36, 93, 94, 40, 44, 95, 96, 97, 98, 42, 99, 100, 101, 102, 103, 104, 105, 106, 107, 108, 109, 110, 111, 112, 113, 114, 115, 116, 117, 118, 119, 120, 153, 154, 17, 155, 156, 157, 158, 159, 160, 161, 162, 163, 164, 165, 166, 167, 168, 169, 170, 171, 172, 173, 174, 175, 176, 206, 207, 208, 209, 88, 89, 90, 91, 121, 122, 123, 124, 78, 125, 126, 127, 128, 129, 130, 131, 132, 133, 150, 151, 152, 177, 178, 179, 180, 181, 182, 210, 211, 212, 213, 214, 215, 216, 217, 218, 219, 220, 21, 22, 23, 24, 221, 222, 223, 224, 225, 226, 227, 228, 229, 230, 231, 232, 233, 234, 235, 236, 237, 238, 239, 240, 60, 61, 62, 50, 51, 244, 245, 246, 247, 248, 249, 250, 251, 252, 241, 242, 243] (by decide +kernel) (by decide +kernel)) (goodIn_sub (fun _ h => List.mem_append_right _ h) (by decide +kernel))) (goodIn_sub (fun _ h => List.mem_append_left _ (List.mem_append_right _ h)) (by decide +kernel))
set_option maxRecDepth 20000 in
theorem gL_law_L_isHome : GoodIn wsL_law (va_wsS RL 137 yL_isHome wsL_isHome) := goodIn_app (goodIn_of _ (by decide +kernel)) ggL_law_L_isHome
theorem dL_law_0 : decode cL_law 0 = .ok (.new 11, 3) := by decide +kernel
theorem dL_law_3 : decode cL_law 3 = .ok (.dup, 1) := by decide +kernel
theorem dL_law_4 : decode cL_law 4 = .ok (.invokespecial 113, 3) := by decide +kernel
theorem dL_law_7 : decode cL_law 7 = .ok (.astore_n 1, 1) := by decide +kernel
theorem dL_law_8 : decode cL_law 8 = .ok (.bipush 12, 2) := by decide +kernel
theorem dL_law_10 : decode cL_law 10 = .ok (.newarray .int, 2) := by decide +kernel
theorem dL_law_12 : decode cL_law 12 = .ok (.astore_n 2, 1) := by decide +kernel
theorem dL_law_13 : decode cL_law 13 = .ok (.bipush 64, 2) := by decide +kernel
theorem dL_law_15 : decode cL_law 15 = .ok (.newarray .int, 2) := by decide +kernel
theorem dL_law_17 : decode cL_law 17 = .ok (.astore_n 3, 1) := by decide +kernel
theorem dL_law_18 : decode cL_law 18 = .ok (.bipush 64, 2) := by decide +kernel
theorem dL_law_20 : decode cL_law 20 = .ok (.newarray .int, 2) := by decide +kernel
theorem dL_law_22 : decode cL_law 22 = .ok (.astore 4, 2) := by decide +kernel
theorem dL_law_24 : decode cL_law 24 = .ok (.bipush 48, 2) := by decide +kernel
theorem dL_law_26 : decode cL_law 26 = .ok (.newarray .int, 2) := by decide +kernel
theorem dL_law_28 : decode cL_law 28 = .ok (.astore 5, 2) := by decide +kernel
theorem dL_law_30 : decode cL_law 30 = .ok (.bipush 48, 2) := by decide +kernel
theorem dL_law_32 : decode cL_law 32 = .ok (.newarray .int, 2) := by decide +kernel
theorem dL_law_34 : decode cL_law 34 = .ok (.astore 6, 2) := by decide +kernel
theorem dL_law_36 : decode cL_law 36 = .ok (.bipush 48, 2) := by decide +kernel
theorem dL_law_38 : decode cL_law 38 = .ok (.newarray .int, 2) := by decide +kernel
theorem dL_law_40 : decode cL_law 40 = .ok (.astore 7, 2) := by decide +kernel
theorem dL_law_42 : decode cL_law 42 = .ok (.bipush 48, 2) := by decide +kernel
theorem dL_law_44 : decode cL_law 44 = .ok (.newarray .int, 2) := by decide +kernel
theorem dL_law_46 : decode cL_law 46 = .ok (.astore 8, 2) := by decide +kernel
theorem dL_law_48 : decode cL_law 48 = .ok (.iconst 0, 1) := by decide +kernel
theorem dL_law_49 : decode cL_law 49 = .ok (.istore 9, 2) := by decide +kernel
theorem dL_law_51 : decode cL_law 51 = .ok (.iload 9, 2) := by decide +kernel
theorem dL_law_53 : decode cL_law 53 = .ok (.bipush 110, 2) := by decide +kernel
theorem dL_law_55 : decode cL_law 55 = .ok (.if_icmp .ge 580, 3) := by decide +kernel
theorem dL_law_58 : decode cL_law 58 = .ok (.aload_n 0, 1) := by decide +kernel
theorem dL_law_59 : decode cL_law 59 = .ok (.iload 9, 2) := by decide +kernel
end
section
theorem dL_law_61 : decode cL_law 61 = .ok (.invokestatic 114, 3) := by decide +kernel
theorem dL_law_64 : decode cL_law 64 = .ok (.istore 10, 2) := by decide +kernel
theorem dL_law_66 : decode cL_law 66 = .ok (.iload 10, 2) := by decide +kernel
theorem dL_law_68 : decode cL_law 68 = .ok (.bipush 16, 2) := by decide +kernel
theorem dL_law_70 : decode cL_law 70 = .ok (.invokestatic 90, 3) := by decide +kernel
theorem dL_law_73 : decode cL_law 73 = .ok (.istore 11, 2) := by decide +kernel
theorem dL_law_75 : decode cL_law 75 = .ok (.aload_n 2, 1) := by decide +kernel
theorem dL_law_76 : decode cL_law 76 = .ok (.iconst 1, 1) := by decide +kernel
theorem dL_law_77 : decode cL_law 77 = .ok (.iaload, 1) := by decide +kernel
theorem dL_law_78 : decode cL_law 78 = .ok (.ifCond .ne 7, 3) := by decide +kernel
theorem dL_law_81 : decode cL_law 81 = .ok (.iconst 0, 1) := by decide +kernel
theorem dL_law_82 : decode cL_law 82 = .ok (.goto 13, 3) := by decide +kernel
theorem dL_law_85 : decode cL_law 85 = .ok (.iload 10, 2) := by decide +kernel
theorem dL_law_87 : decode cL_law 87 = .ok (.iconst 4, 1) := by decide +kernel
theorem dL_law_88 : decode cL_law 88 = .ok (.ishr, 1) := by decide +kernel
theorem dL_law_89 : decode cL_law 89 = .ok (.aload_n 2, 1) := by decide +kernel
theorem dL_law_90 : decode cL_law 90 = .ok (.iconst 1, 1) := by decide +kernel
theorem dL_law_91 : decode cL_law 91 = .ok (.iaload, 1) := by decide +kernel
theorem dL_law_92 : decode cL_law 92 = .ok (.invokestatic 90, 3) := by decide +kernel
theorem dL_law_95 : decode cL_law 95 = .ok (.istore 12, 2) := by decide +kernel
theorem dL_law_97 : decode cL_law 97 = .ok (.iconst 1, 1) := by decide +kernel
theorem dL_law_98 : decode cL_law 98 = .ok (.istore 13, 2) := by decide +kernel
theorem dL_law_100 : decode cL_law 100 = .ok (.aload_n 2, 1) := by decide +kernel
theorem dL_law_101 : decode cL_law 101 = .ok (.iconst 1, 1) := by decide +kernel
theorem dL_law_102 : decode cL_law 102 = .ok (.iaload, 1) := by decide +kernel
theorem dL_law_103 : decode cL_law 103 = .ok (.ifCond .eq 15, 3) := by decide +kernel
theorem dL_law_106 : decode cL_law 106 = .ok (.iload 11, 2) := by decide +kernel
theorem dL_law_108 : decode cL_law 108 = .ok (.ifCond .ne 78, 3) := by decide +kernel
theorem dL_law_111 : decode cL_law 111 = .ok (.aload_n 2, 1) := by decide +kernel
theorem dL_law_112 : decode cL_law 112 = .ok (.iconst 1, 1) := by decide +kernel
theorem dL_law_113 : decode cL_law 113 = .ok (.iaload, 1) := by decide +kernel
theorem dL_law_114 : decode cL_law 114 = .ok (.iconst 1, 1) := by decide +kernel
theorem dL_law_115 : decode cL_law 115 = .ok (.if_icmp .ne 71, 3) := by decide +kernel
theorem dL_law_118 : decode cL_law 118 = .ok (.aload_n 2, 1) := by decide +kernel
theorem dL_law_119 : decode cL_law 119 = .ok (.iconst 4, 1) := by decide +kernel
theorem dL_law_120 : decode cL_law 120 = .ok (.aload_n 2, 1) := by decide +kernel
theorem dL_law_121 : decode cL_law 121 = .ok (.iconst 1, 1) := by decide +kernel
theorem dL_law_122 : decode cL_law 122 = .ok (.iaload, 1) := by decide +kernel
theorem dL_law_123 : decode cL_law 123 = .ok (.iadd, 1) := by decide +kernel
theorem dL_law_124 : decode cL_law 124 = .ok (.aload_n 2, 1) := by decide +kernel
theorem dL_law_125 : decode cL_law 125 = .ok (.iconst 0, 1) := by decide +kernel
theorem dL_law_126 : decode cL_law 126 = .ok (.iaload, 1) := by decide +kernel
theorem dL_law_127 : decode cL_law 127 = .ok (.iastore, 1) := by decide +kernel
theorem dL_law_128 : decode cL_law 128 = .ok (.aload_n 2, 1) := by decide +kernel
theorem dL_law_129 : decode cL_law 129 = .ok (.iconst 0, 1) := by decide +kernel
theorem dL_law_130 : decode cL_law 130 = .ok (.iaload, 1) := by decide +kernel
theorem dL_law_131 : decode cL_law 131 = .ok (.bipush 48, 2) := by decide +kernel
theorem dL_law_133 : decode cL_law 133 = .ok (.if_icmp .ne 8, 3) := by decide +kernel
theorem dL_law_136 : decode cL_law 136 = .ok (.bipush (-3), 2) := by decide +kernel
theorem dL_law_138 : decode cL_law 138 = .ok (.goto 6, 3) := by decide +kernel
theorem dL_law_141 : decode cL_law 141 = .ok (.aload_n 2, 1) := by decide +kernel
theorem dL_law_142 : decode cL_law 142 = .ok (.iconst 1, 1) := by decide +kernel
theorem dL_law_143 : decode cL_law 143 = .ok (.iaload, 1) := by decide +kernel
theorem dL_law_144 : decode cL_law 144 = .ok (.istore 14, 2) := by decide +kernel
theorem dL_law_146 : decode cL_law 146 = .ok (.aload_n 2, 1) := by decide +kernel
theorem dL_law_147 : decode cL_law 147 = .ok (.iconst 1, 1) := by decide +kernel
theorem dL_law_148 : decode cL_law 148 = .ok (.dup2, 1) := by decide +kernel
theorem dL_law_149 : decode cL_law 149 = .ok (.iaload, 1) := by decide +kernel
theorem dL_law_150 : decode cL_law 150 = .ok (.iload 14, 2) := by decide +kernel
theorem dL_law_152 : decode cL_law 152 = .ok (.ifCond .ge 7, 3) := by decide +kernel
theorem dL_law_155 : decode cL_law 155 = .ok (.iconst 0, 1) := by decide +kernel
theorem dL_law_156 : decode cL_law 156 = .ok (.goto 4, 3) := by decide +kernel
theorem dL_law_159 : decode cL_law 159 = .ok (.iconst 1, 1) := by decide +kernel
theorem dL_law_160 : decode cL_law 160 = .ok (.iadd, 1) := by decide +kernel
theorem dL_law_161 : decode cL_law 161 = .ok (.iastore, 1) := by decide +kernel
theorem dL_law_162 : decode cL_law 162 = .ok (.aload_n 1, 1) := by decide +kernel
theorem dL_law_163 : decode cL_law 163 = .ok (.iconst 0, 1) := by decide +kernel
theorem dL_law_164 : decode cL_law 164 = .ok (.iconst 0, 1) := by decide +kernel
theorem dL_law_165 : decode cL_law 165 = .ok (.iconst 0, 1) := by decide +kernel
theorem dL_law_166 : decode cL_law 166 = .ok (.iconst 0, 1) := by decide +kernel
theorem dL_law_167 : decode cL_law 167 = .ok (.iconst 0, 1) := by decide +kernel
theorem dL_law_168 : decode cL_law 168 = .ok (.invokestatic 109, 3) := by decide +kernel
theorem dL_law_171 : decode cL_law 171 = .ok (.iload 14, 2) := by decide +kernel
theorem dL_law_173 : decode cL_law 173 = .ok (.if_icmp .ne 7, 3) := by decide +kernel
theorem dL_law_176 : decode cL_law 176 = .ok (.iconst 1, 1) := by decide +kernel
theorem dL_law_177 : decode cL_law 177 = .ok (.goto 4, 3) := by decide +kernel
theorem dL_law_180 : decode cL_law 180 = .ok (.iconst 0, 1) := by decide +kernel
theorem dL_law_181 : decode cL_law 181 = .ok (.istore 13, 2) := by decide +kernel
theorem dL_law_183 : decode cL_law 183 = .ok (.goto 352, 3) := by decide +kernel
theorem dL_law_186 : decode cL_law 186 = .ok (.iload 11, 2) := by decide +kernel
theorem dL_law_188 : decode cL_law 188 = .ok (.bipush 9, 2) := by decide +kernel
theorem dL_law_190 : decode cL_law 190 = .ok (.if_icmp .ge 28, 3) := by decide +kernel
theorem dL_law_193 : decode cL_law 193 = .ok (.aload_n 2, 1) := by decide +kernel
theorem dL_law_194 : decode cL_law 194 = .ok (.iconst 2, 1) := by decide +kernel
theorem dL_law_195 : decode cL_law 195 = .ok (.iaload, 1) := by decide +kernel
theorem dL_law_196 : decode cL_law 196 = .ok (.bipush 64, 2) := by decide +kernel
theorem dL_law_198 : decode cL_law 198 = .ok (.if_icmp .ge 20, 3) := by decide +kernel
theorem dL_law_201 : decode cL_law 201 = .ok (.aload_n 1, 1) := by decide +kernel
theorem dL_law_202 : decode cL_law 202 = .ok (.iload 10, 2) := by decide +kernel
theorem dL_law_204 : decode cL_law 204 = .ok (.iconst 4, 1) := by decide +kernel
theorem dL_law_205 : decode cL_law 205 = .ok (.ishr, 1) := by decide +kernel
theorem dL_law_206 : decode cL_law 206 = .ok (.aload_n 3, 1) := by decide +kernel
theorem dL_law_207 : decode cL_law 207 = .ok (.aload 4, 2) := by decide +kernel
theorem dL_law_209 : decode cL_law 209 = .ok (.aload_n 2, 1) := by decide +kernel
theorem dL_law_210 : decode cL_law 210 = .ok (.invokestatic 118, 3) := by decide +kernel
theorem dL_law_213 : decode cL_law 213 = .ok (.istore 13, 2) := by decide +kernel
theorem dL_law_215 : decode cL_law 215 = .ok (.goto 320, 3) := by decide +kernel
theorem dL_law_218 : decode cL_law 218 = .ok (.iload 11, 2) := by decide +kernel
theorem dL_law_220 : decode cL_law 220 = .ok (.bipush 9, 2) := by decide +kernel
theorem dL_law_222 : decode cL_law 222 = .ok (.if_icmp .ne 69, 3) := by decide +kernel
theorem dL_law_225 : decode cL_law 225 = .ok (.iload 10, 2) := by decide +kernel
theorem dL_law_227 : decode cL_law 227 = .ok (.bipush 6, 2) := by decide +kernel
theorem dL_law_229 : decode cL_law 229 = .ok (.ishr, 1) := by decide +kernel
theorem dL_law_230 : decode cL_law 230 = .ok (.iconst 2, 1) := by decide +kernel
theorem dL_law_231 : decode cL_law 231 = .ok (.invokestatic 90, 3) := by decide +kernel
theorem dL_law_234 : decode cL_law 234 = .ok (.istore 14, 2) := by decide +kernel
theorem dL_law_236 : decode cL_law 236 = .ok (.aload_n 1, 1) := by decide +kernel
theorem dL_law_237 : decode cL_law 237 = .ok (.iload 12, 2) := by decide +kernel
theorem dL_law_239 : decode cL_law 239 = .ok (.iload 14, 2) := by decide +kernel
theorem dL_law_241 : decode cL_law 241 = .ok (.iconst 1, 1) := by decide +kernel
theorem dL_law_242 : decode cL_law 242 = .ok (.if_icmp .ne 7, 3) := by decide +kernel
theorem dL_law_245 : decode cL_law 245 = .ok (.iconst 1, 1) := by decide +kernel
theorem dL_law_246 : decode cL_law 246 = .ok (.goto 4, 3) := by decide +kernel
theorem dL_law_249 : decode cL_law 249 = .ok (.iconst 0, 1) := by decide +kernel
theorem dL_law_250 : decode cL_law 250 = .ok (.invokevirtual 122, 3) := by decide +kernel
theorem dL_law_253 : decode cL_law 253 = .ok (.aload_n 2, 1) := by decide +kernel
theorem dL_law_254 : decode cL_law 254 = .ok (.bipush 10, 2) := by decide +kernel
theorem dL_law_256 : decode cL_law 256 = .ok (.iload 12, 2) := by decide +kernel
theorem dL_law_258 : decode cL_law 258 = .ok (.iadd, 1) := by decide +kernel
theorem dL_law_259 : decode cL_law 259 = .ok (.iaload, 1) := by decide +kernel
theorem dL_law_260 : decode cL_law 260 = .ok (.iconst 1, 1) := by decide +kernel
theorem dL_law_261 : decode cL_law 261 = .ok (.if_icmp .ne 7, 3) := by decide +kernel
theorem dL_law_264 : decode cL_law 264 = .ok (.iconst 1, 1) := by decide +kernel
theorem dL_law_265 : decode cL_law 265 = .ok (.goto 4, 3) := by decide +kernel
theorem dL_law_268 : decode cL_law 268 = .ok (.iconst 0, 1) := by decide +kernel
theorem dL_law_269 : decode cL_law 269 = .ok (.if_icmp .ne 7, 3) := by decide +kernel
theorem dL_law_272 : decode cL_law 272 = .ok (.iconst 1, 1) := by decide +kernel
theorem dL_law_273 : decode cL_law 273 = .ok (.goto 4, 3) := by decide +kernel
theorem dL_law_276 : decode cL_law 276 = .ok (.iconst 0, 1) := by decide +kernel
theorem dL_law_277 : decode cL_law 277 = .ok (.istore 13, 2) := by decide +kernel
theorem dL_law_279 : decode cL_law 279 = .ok (.aload_n 2, 1) := by decide +kernel
theorem dL_law_280 : decode cL_law 280 = .ok (.bipush 10, 2) := by decide +kernel
theorem dL_law_282 : decode cL_law 282 = .ok (.iload 12, 2) := by decide +kernel
theorem dL_law_284 : decode cL_law 284 = .ok (.iadd, 1) := by decide +kernel
theorem dL_law_285 : decode cL_law 285 = .ok (.iload 14, 2) := by decide +kernel
theorem dL_law_287 : decode cL_law 287 = .ok (.iastore, 1) := by decide +kernel
theorem dL_law_288 : decode cL_law 288 = .ok (.goto 247, 3) := by decide +kernel
theorem dL_law_291 : decode cL_law 291 = .ok (.iload 11, 2) := by decide +kernel
theorem dL_law_293 : decode cL_law 293 = .ok (.bipush 10, 2) := by decide +kernel
theorem dL_law_295 : decode cL_law 295 = .ok (.if_icmp .ne 137, 3) := by decide +kernel
theorem dL_law_298 : decode cL_law 298 = .ok (.iconst 1, 1) := by decide +kernel
theorem dL_law_299 : decode cL_law 299 = .ok (.iload 10, 2) := by decide +kernel
theorem dL_law_301 : decode cL_law 301 = .ok (.bipush 6, 2) := by decide +kernel
theorem dL_law_303 : decode cL_law 303 = .ok (.ishr, 1) := by decide +kernel
theorem dL_law_304 : decode cL_law 304 = .ok (.iload 10, 2) := by decide +kernel
theorem dL_law_306 : decode cL_law 306 = .ok (.bipush 15, 2) := by decide +kernel
theorem dL_law_308 : decode cL_law 308 = .ok (.ishr, 1) := by decide +kernel
theorem dL_law_309 : decode cL_law 309 = .ok (.iconst 3, 1) := by decide +kernel
theorem dL_law_310 : decode cL_law 310 = .ok (.invokestatic 90, 3) := by decide +kernel
theorem dL_law_313 : decode cL_law 313 = .ok (.ifCond .ne 8, 3) := by decide +kernel
theorem dL_law_316 : decode cL_law 316 = .ok (.ldc 126, 2) := by decide +kernel
theorem dL_law_318 : decode cL_law 318 = .ok (.goto 6, 3) := by decide +kernel
theorem dL_law_321 : decode cL_law 321 = .ok (.sipush 9000, 3) := by decide +kernel
theorem dL_law_324 : decode cL_law 324 = .ok (.invokestatic 90, 3) := by decide +kernel
theorem dL_law_327 : decode cL_law 327 = .ok (.iadd, 1) := by decide +kernel
theorem dL_law_328 : decode cL_law 328 = .ok (.istore 14, 2) := by decide +kernel
theorem dL_law_330 : decode cL_law 330 = .ok (.aload_n 2, 1) := by decide +kernel
theorem dL_law_331 : decode cL_law 331 = .ok (.bipush 6, 2) := by decide +kernel
theorem dL_law_333 : decode cL_law 333 = .ok (.iload 12, 2) := by decide +kernel
theorem dL_law_335 : decode cL_law 335 = .ok (.iadd, 1) := by decide +kernel
theorem dL_law_336 : decode cL_law 336 = .ok (.iaload, 1) := by decide +kernel
theorem dL_law_337 : decode cL_law 337 = .ok (.iload 14, 2) := by decide +kernel
theorem dL_law_339 : decode cL_law 339 = .ok (.if_icmp .lt 7, 3) := by decide +kernel
theorem dL_law_342 : decode cL_law 342 = .ok (.iconst 1, 1) := by decide +kernel
theorem dL_law_343 : decode cL_law 343 = .ok (.goto 4, 3) := by decide +kernel
theorem dL_law_346 : decode cL_law 346 = .ok (.iconst 0, 1) := by decide +kernel
theorem dL_law_347 : decode cL_law 347 = .ok (.istore 15, 2) := by decide +kernel
theorem dL_law_349 : decode cL_law 349 = .ok (.aload_n 2, 1) := by decide +kernel
theorem dL_law_350 : decode cL_law 350 = .ok (.bipush 6, 2) := by decide +kernel
theorem dL_law_352 : decode cL_law 352 = .ok (.iload 12, 2) := by decide +kernel
theorem dL_law_354 : decode cL_law 354 = .ok (.iadd, 1) := by decide +kernel
theorem dL_law_355 : decode cL_law 355 = .ok (.dup2, 1) := by decide +kernel
theorem dL_law_356 : decode cL_law 356 = .ok (.iaload, 1) := by decide +kernel
theorem dL_law_357 : decode cL_law 357 = .ok (.iload 15, 2) := by decide +kernel
theorem dL_law_359 : decode cL_law 359 = .ok (.ifCond .eq 8, 3) := by decide +kernel
theorem dL_law_362 : decode cL_law 362 = .ok (.iload 14, 2) := by decide +kernel
theorem dL_law_364 : decode cL_law 364 = .ok (.goto 4, 3) := by decide +kernel
theorem dL_law_367 : decode cL_law 367 = .ok (.iconst 0, 1) := by decide +kernel
theorem dL_law_368 : decode cL_law 368 = .ok (.isub, 1) := by decide +kernel
theorem dL_law_369 : decode cL_law 369 = .ok (.iastore, 1) := by decide +kernel
theorem dL_law_370 : decode cL_law 370 = .ok (.aload_n 2, 1) := by decide +kernel
theorem dL_law_371 : decode cL_law 371 = .ok (.bipush 8, 2) := by decide +kernel
theorem dL_law_373 : decode cL_law 373 = .ok (.iload 12, 2) := by decide +kernel
theorem dL_law_375 : decode cL_law 375 = .ok (.iadd, 1) := by decide +kernel
theorem dL_law_376 : decode cL_law 376 = .ok (.dup2, 1) := by decide +kernel
theorem dL_law_377 : decode cL_law 377 = .ok (.iaload, 1) := by decide +kernel
theorem dL_law_378 : decode cL_law 378 = .ok (.iload 15, 2) := by decide +kernel
theorem dL_law_380 : decode cL_law 380 = .ok (.ifCond .eq 8, 3) := by decide +kernel
theorem dL_law_383 : decode cL_law 383 = .ok (.iload 14, 2) := by decide +kernel
theorem dL_law_385 : decode cL_law 385 = .ok (.goto 4, 3) := by decide +kernel
theorem dL_law_388 : decode cL_law 388 = .ok (.iconst 0, 1) := by decide +kernel
theorem dL_law_389 : decode cL_law 389 = .ok (.iadd, 1) := by decide +kernel
theorem dL_law_390 : decode cL_law 390 = .ok (.iastore, 1) := by decide +kernel
theorem dL_law_391 : decode cL_law 391 = .ok (.aload_n 1, 1) := by decide +kernel
theorem dL_law_392 : decode cL_law 392 = .ok (.iconst 2, 1) := by decide +kernel
theorem dL_law_393 : decode cL_law 393 = .ok (.iload 12, 2) := by decide +kernel
theorem dL_law_395 : decode cL_law 395 = .ok (.iload 14, 2) := by decide +kernel
theorem dL_law_397 : decode cL_law 397 = .ok (.iconst 0, 1) := by decide +kernel
theorem dL_law_398 : decode cL_law 398 = .ok (.iconst 0, 1) := by decide +kernel
theorem dL_law_399 : decode cL_law 399 = .ok (.invokestatic 109, 3) := by decide +kernel
theorem dL_law_402 : decode cL_law 402 = .ok (.iload 15, 2) := by decide +kernel
theorem dL_law_404 : decode cL_law 404 = .ok (.ifCond .eq 13, 3) := by decide +kernel
theorem dL_law_407 : decode cL_law 407 = .ok (.aload_n 2, 1) := by decide +kernel
theorem dL_law_408 : decode cL_law 408 = .ok (.bipush 6, 2) := by decide +kernel
theorem dL_law_410 : decode cL_law 410 = .ok (.iload 12, 2) := by decide +kernel
theorem dL_law_412 : decode cL_law 412 = .ok (.iadd, 1) := by decide +kernel
theorem dL_law_413 : decode cL_law 413 = .ok (.iaload, 1) := by decide +kernel
theorem dL_law_414 : decode cL_law 414 = .ok (.goto 5, 3) := by decide +kernel
theorem dL_law_417 : decode cL_law 417 = .ok (.bipush (-3), 2) := by decide +kernel
theorem dL_law_419 : decode cL_law 419 = .ok (.if_icmp .ne 7, 3) := by decide +kernel
theorem dL_law_422 : decode cL_law 422 = .ok (.iconst 1, 1) := by decide +kernel
theorem dL_law_423 : decode cL_law 423 = .ok (.goto 4, 3) := by decide +kernel
theorem dL_law_426 : decode cL_law 426 = .ok (.iconst 0, 1) := by decide +kernel
theorem dL_law_427 : decode cL_law 427 = .ok (.istore 13, 2) := by decide +kernel
theorem dL_law_429 : decode cL_law 429 = .ok (.goto 106, 3) := by decide +kernel
theorem dL_law_432 : decode cL_law 432 = .ok (.aload_n 2, 1) := by decide +kernel
theorem dL_law_433 : decode cL_law 433 = .ok (.iconst 0, 1) := by decide +kernel
theorem dL_law_434 : decode cL_law 434 = .ok (.iaload, 1) := by decide +kernel
theorem dL_law_435 : decode cL_law 435 = .ok (.bipush 48, 2) := by decide +kernel
theorem dL_law_437 : decode cL_law 437 = .ok (.if_icmp .ne 8, 3) := by decide +kernel
theorem dL_law_440 : decode cL_law 440 = .ok (.bipush (-3), 2) := by decide +kernel
theorem dL_law_442 : decode cL_law 442 = .ok (.goto 15, 3) := by decide +kernel
theorem dL_law_445 : decode cL_law 445 = .ok (.iconst 0, 1) := by decide +kernel
theorem dL_law_446 : decode cL_law 446 = .ok (.aload_n 3, 1) := by decide +kernel
theorem dL_law_447 : decode cL_law 447 = .ok (.aload 4, 2) := by decide +kernel
theorem dL_law_449 : decode cL_law 449 = .ok (.aload 5, 2) := by decide +kernel
theorem dL_law_451 : decode cL_law 451 = .ok (.aload 7, 2) := by decide +kernel
theorem dL_law_453 : decode cL_law 453 = .ok (.aload_n 2, 1) := by decide +kernel
theorem dL_law_454 : decode cL_law 454 = .ok (.invokestatic 127, 3) := by decide +kernel
theorem dL_law_457 : decode cL_law 457 = .ok (.istore 14, 2) := by decide +kernel
theorem dL_law_459 : decode cL_law 459 = .ok (.iload 14, 2) := by decide +kernel
theorem dL_law_461 : decode cL_law 461 = .ok (.aload_n 2, 1) := by decide +kernel
theorem dL_law_462 : decode cL_law 462 = .ok (.iconst 0, 1) := by decide +kernel
theorem dL_law_463 : decode cL_law 463 = .ok (.iaload, 1) := by decide +kernel
theorem dL_law_464 : decode cL_law 464 = .ok (.bipush 48, 2) := by decide +kernel
theorem dL_law_466 : decode cL_law 466 = .ok (.if_icmp .ge 25, 3) := by decide +kernel
theorem dL_law_469 : decode cL_law 469 = .ok (.aload_n 2, 1) := by decide +kernel
theorem dL_law_470 : decode cL_law 470 = .ok (.iconst 1, 1) := by decide +kernel
theorem dL_law_471 : decode cL_law 471 = .ok (.iaload, 1) := by decide +kernel
theorem dL_law_472 : decode cL_law 472 = .ok (.iconst 1, 1) := by decide +kernel
theorem dL_law_473 : decode cL_law 473 = .ok (.if_icmp .le 18, 3) := by decide +kernel
theorem dL_law_476 : decode cL_law 476 = .ok (.iconst 1, 1) := by decide +kernel
theorem dL_law_477 : decode cL_law 477 = .ok (.aload_n 3, 1) := by decide +kernel
theorem dL_law_478 : decode cL_law 478 = .ok (.aload 4, 2) := by decide +kernel
theorem dL_law_480 : decode cL_law 480 = .ok (.aload 6, 2) := by decide +kernel
theorem dL_law_482 : decode cL_law 482 = .ok (.aload 8, 2) := by decide +kernel
theorem dL_law_484 : decode cL_law 484 = .ok (.aload_n 2, 1) := by decide +kernel
theorem dL_law_485 : decode cL_law 485 = .ok (.invokestatic 127, 3) := by decide +kernel
theorem dL_law_488 : decode cL_law 488 = .ok (.goto 4, 3) := by decide +kernel
theorem dL_law_491 : decode cL_law 491 = .ok (.iconst 0, 1) := by decide +kernel
theorem dL_law_492 : decode cL_law 492 = .ok (.iadd, 1) := by decide +kernel
theorem dL_law_493 : decode cL_law 493 = .ok (.istore 14, 2) := by decide +kernel
theorem dL_law_495 : decode cL_law 495 = .ok (.aload_n 2, 1) := by decide +kernel
theorem dL_law_496 : decode cL_law 496 = .ok (.iconst 0, 1) := by decide +kernel
theorem dL_law_497 : decode cL_law 497 = .ok (.dup2, 1) := by decide +kernel
theorem dL_law_498 : decode cL_law 498 = .ok (.iaload, 1) := by decide +kernel
theorem dL_law_499 : decode cL_law 499 = .ok (.aload_n 2, 1) := by decide +kernel
theorem dL_law_500 : decode cL_law 500 = .ok (.iconst 0, 1) := by decide +kernel
theorem dL_law_501 : decode cL_law 501 = .ok (.iaload, 1) := by decide +kernel
theorem dL_law_502 : decode cL_law 502 = .ok (.bipush 48, 2) := by decide +kernel
theorem dL_law_504 : decode cL_law 504 = .ok (.if_icmp .ne 7, 3) := by decide +kernel
theorem dL_law_507 : decode cL_law 507 = .ok (.iconst 0, 1) := by decide +kernel
theorem dL_law_508 : decode cL_law 508 = .ok (.goto 4, 3) := by decide +kernel
theorem dL_law_511 : decode cL_law 511 = .ok (.iconst 1, 1) := by decide +kernel
theorem dL_law_512 : decode cL_law 512 = .ok (.iadd, 1) := by decide +kernel
theorem dL_law_513 : decode cL_law 513 = .ok (.iastore, 1) := by decide +kernel
theorem dL_law_514 : decode cL_law 514 = .ok (.aload_n 1, 1) := by decide +kernel
theorem dL_law_515 : decode cL_law 515 = .ok (.iconst 3, 1) := by decide +kernel
theorem dL_law_516 : decode cL_law 516 = .ok (.iconst 0, 1) := by decide +kernel
theorem dL_law_517 : decode cL_law 517 = .ok (.iconst 0, 1) := by decide +kernel
theorem dL_law_518 : decode cL_law 518 = .ok (.iconst 0, 1) := by decide +kernel
theorem dL_law_519 : decode cL_law 519 = .ok (.iconst 0, 1) := by decide +kernel
theorem dL_law_520 : decode cL_law 520 = .ok (.invokestatic 109, 3) := by decide +kernel
theorem dL_law_523 : decode cL_law 523 = .ok (.iload 14, 2) := by decide +kernel
theorem dL_law_525 : decode cL_law 525 = .ok (.if_icmp .ne 7, 3) := by decide +kernel
theorem dL_law_528 : decode cL_law 528 = .ok (.iconst 1, 1) := by decide +kernel
theorem dL_law_529 : decode cL_law 529 = .ok (.goto 4, 3) := by decide +kernel
theorem dL_law_532 : decode cL_law 532 = .ok (.iconst 0, 1) := by decide +kernel
theorem dL_law_533 : decode cL_law 533 = .ok (.istore 13, 2) := by decide +kernel
theorem dL_law_535 : decode cL_law 535 = .ok (.iload 13, 2) := by decide +kernel
theorem dL_law_537 : decode cL_law 537 = .ok (.ifCond .eq 90, 3) := by decide +kernel
theorem dL_law_540 : decode cL_law 540 = .ok (.aload_n 1, 1) := by decide +kernel
theorem dL_law_541 : decode cL_law 541 = .ok (.invokevirtual 131, 3) := by decide +kernel
theorem dL_law_544 : decode cL_law 544 = .ok (.aload_n 2, 1) := by decide +kernel
theorem dL_law_545 : decode cL_law 545 = .ok (.iconst 0, 1) := by decide +kernel
theorem dL_law_546 : decode cL_law 546 = .ok (.iaload, 1) := by decide +kernel
theorem dL_law_547 : decode cL_law 547 = .ok (.bipush 48, 2) := by decide +kernel
theorem dL_law_549 : decode cL_law 549 = .ok (.if_icmp .ne 7, 3) := by decide +kernel
theorem dL_law_552 : decode cL_law 552 = .ok (.iconst (-1), 1) := by decide +kernel
theorem dL_law_553 : decode cL_law 553 = .ok (.goto 6, 3) := by decide +kernel
theorem dL_law_556 : decode cL_law 556 = .ok (.aload_n 2, 1) := by decide +kernel
theorem dL_law_557 : decode cL_law 557 = .ok (.iconst 0, 1) := by decide +kernel
theorem dL_law_558 : decode cL_law 558 = .ok (.iaload, 1) := by decide +kernel
theorem dL_law_559 : decode cL_law 559 = .ok (.if_icmp .ne 68, 3) := by decide +kernel
theorem dL_law_562 : decode cL_law 562 = .ok (.aload_n 1, 1) := by decide +kernel
theorem dL_law_563 : decode cL_law 563 = .ok (.invokevirtual 134, 3) := by decide +kernel
theorem dL_law_566 : decode cL_law 566 = .ok (.aload_n 2, 1) := by decide +kernel
theorem dL_law_567 : decode cL_law 567 = .ok (.iconst 1, 1) := by decide +kernel
theorem dL_law_568 : decode cL_law 568 = .ok (.iaload, 1) := by decide +kernel
theorem dL_law_569 : decode cL_law 569 = .ok (.if_icmp .ne 58, 3) := by decide +kernel
theorem dL_law_572 : decode cL_law 572 = .ok (.iload 9, 2) := by decide +kernel
theorem dL_law_574 : decode cL_law 574 = .ok (.iconst 3, 1) := by decide +kernel
theorem dL_law_575 : decode cL_law 575 = .ok (.irem, 1) := by decide +kernel
theorem dL_law_576 : decode cL_law 576 = .ok (.iconst 1, 1) := by decide +kernel
theorem dL_law_577 : decode cL_law 577 = .ok (.if_icmp .ne 52, 3) := by decide +kernel
theorem dL_law_580 : decode cL_law 580 = .ok (.aload_n 1, 1) := by decide +kernel
theorem dL_law_581 : decode cL_law 581 = .ok (.iconst 0, 1) := by decide +kernel
theorem dL_law_582 : decode cL_law 582 = .ok (.iload 10, 2) := by decide +kernel
theorem dL_law_584 : decode cL_law 584 = .ok (.iconst 2, 1) := by decide +kernel
theorem dL_law_585 : decode cL_law 585 = .ok (.ishr, 1) := by decide +kernel
theorem dL_law_586 : decode cL_law 586 = .ok (.aload_n 3, 1) := by decide +kernel
theorem dL_law_587 : decode cL_law 587 = .ok (.aload 4, 2) := by decide +kernel
theorem dL_law_589 : decode cL_law 589 = .ok (.aload 5, 2) := by decide +kernel
theorem dL_law_591 : decode cL_law 591 = .ok (.aload 7, 2) := by decide +kernel
theorem dL_law_593 : decode cL_law 593 = .ok (.aload_n 2, 1) := by decide +kernel
theorem dL_law_594 : decode cL_law 594 = .ok (.invokestatic 137, 3) := by decide +kernel
theorem dL_law_597 : decode cL_law 597 = .ok (.ifCond .eq 30, 3) := by decide +kernel
theorem dL_law_600 : decode cL_law 600 = .ok (.aload_n 2, 1) := by decide +kernel
theorem dL_law_601 : decode cL_law 601 = .ok (.iconst 1, 1) := by decide +kernel
theorem dL_law_602 : decode cL_law 602 = .ok (.iaload, 1) := by decide +kernel
theorem dL_law_603 : decode cL_law 603 = .ok (.iconst 1, 1) := by decide +kernel
theorem dL_law_604 : decode cL_law 604 = .ok (.if_icmp .le 25, 3) := by decide +kernel
theorem dL_law_607 : decode cL_law 607 = .ok (.aload_n 1, 1) := by decide +kernel
theorem dL_law_608 : decode cL_law 608 = .ok (.iconst 1, 1) := by decide +kernel
theorem dL_law_609 : decode cL_law 609 = .ok (.iload 10, 2) := by decide +kernel
theorem dL_law_611 : decode cL_law 611 = .ok (.iconst 3, 1) := by decide +kernel
theorem dL_law_612 : decode cL_law 612 = .ok (.ishr, 1) := by decide +kernel
theorem dL_law_613 : decode cL_law 613 = .ok (.aload_n 3, 1) := by decide +kernel
theorem dL_law_614 : decode cL_law 614 = .ok (.aload 4, 2) := by decide +kernel
theorem dL_law_616 : decode cL_law 616 = .ok (.aload 6, 2) := by decide +kernel
theorem dL_law_618 : decode cL_law 618 = .ok (.aload 8, 2) := by decide +kernel
theorem dL_law_620 : decode cL_law 620 = .ok (.aload_n 2, 1) := by decide +kernel
theorem dL_law_621 : decode cL_law 621 = .ok (.invokestatic 137, 3) := by decide +kernel
theorem dL_law_624 : decode cL_law 624 = .ok (.ifCond .ne 5, 3) := by decide +kernel
theorem dL_law_627 : decode cL_law 627 = .ok (.iconst 0, 1) := by decide +kernel
theorem dL_law_628 : decode cL_law 628 = .ok (.ireturn, 1) := by decide +kernel
theorem dL_law_629 : decode cL_law 629 = .ok (.iinc 9 1, 3) := by decide +kernel
theorem dL_law_632 : decode cL_law 632 = .ok (.goto (-581), 3) := by decide +kernel
theorem dL_law_635 : decode cL_law 635 = .ok (.iconst 1, 1) := by decide +kernel
theorem dL_law_636 : decode cL_law 636 = .ok (.ireturn, 1) := by decide +kernel
end
section
/-! THE WORLD: numbered cells. 0 the office, 1 its rows, 2 to 8 the law's arrays q, f, v, a, b, o, p; a household i stands at 9 + 15 i: the object, values (outer, five rows), since (outer, five rows), assessments, payments. What a cell holds of numbers is one function I: cell, place. -/
def tp_ty (cy : Nat → ClassId) : List (ClassId × FieldType) := [(cy 0, .int), (cy 0, .int), (cy 0, .int), (cy 3, .object "TaperOffice$Household"), (cy 4, .array .int)]
def tp_rf (n : Nat) (f : Nat → Nat) : Nat → Option Nat := fun j => if j < n then some (f j) else none
def tp_hc (cy : Nat → ClassId) (ad : Nat → Nat) (I : Nat → Nat → Int32) (b : Nat) : Nat → va_E := fun j => match j with
  | 0 => .inr (0, [.ref (ad (b + 1)), .ref (ad (b + 7)), .int (I b 2), .int (I b 3), .ref (ad (b + 13)), .ref (ad (b + 14)), .int (I b 6), .int (I b 7), .int (I b 8)])
  | 1 => .inl (cy 4, 5, .inr (.inr (.inr (.inr (tp_rf 5 (fun f => ad (b + 2 + f)))))))
  | 7 => .inl (cy 4, 5, .inr (.inr (.inr (.inr (tp_rf 5 (fun f => ad (b + 8 + f)))))))
  | j => .inl (cy 0, 48, .inl (I (b + j)))
def tp_c (cy : Nat → ClassId) (n : Nat) (ad : Nat → Nat) (I : Nat → Nat → Int32) (_ : Int64) : Nat → va_E := fun k => match k with
  | 0 => .inr (1, [.ref (ad 1), .int (I 0 1), .int (I 0 2)])
  | 1 => .inl (cy 3, 6, .inr (.inr (.inr (.inr (tp_rf n (fun j => ad (9 + 15 * j)))))))
  | 2 => .inl (cy 0, 12, .inl (I 2))
  | 3 => .inl (cy 0, 64, .inl (I 3))
  | 4 => .inl (cy 0, 64, .inl (I 4))
  | 5 => .inl (cy 0, 48, .inl (I 5))
  | 6 => .inl (cy 0, 48, .inl (I 6))
  | 7 => .inl (cy 0, 48, .inl (I 7))
  | 8 => .inl (cy 0, 48, .inl (I 8))
  | k + 9 => tp_hc cy ad I (9 + 15 * (k / 15)) (k % 15)
def tp_w (cy : Nat → ClassId) (n : Nat) (ad : Nat → Nat) (I : Nat → Nat → Int32) (o : Int64) : va_W := (List.range (9 + 15 * n)).map (fun k => (ad k, tp_c cy n ad I o k))
section TPW
variable {cy : Nat → ClassId} {n : Nat} {ad : Nat → Nat} {I : Nat → Nat → Int32} {o : Int64}
theorem tp_cH (i : Nat) {j : Nat} (hj : j < 15) : tp_c cy n ad I o (9 + 15 * i + j) = tp_hc cy ad I (9 + 15 * i) j := by
  have e : 9 + 15 * i + j = (15 * i + j) + 9 := by omega
  rw [e]
  show tp_hc cy ad I (9 + 15 * ((15 * i + j) / 15)) ((15 * i + j) % 15) = _
  rw [show (15 * i + j) / 15 = i by omega, show (15 * i + j) % 15 = j by omega]
theorem tp_cH0 (i : Nat) : tp_c cy n ad I o (9 + 15 * i) = tp_hc cy ad I (9 + 15 * i) 0 := tp_cH i (j := 0) (by decide)
theorem tp_hV (i : Nat) {f : Nat} (hf : f < 5) : tp_c cy n ad I o (9 + 15 * i + 2 + f) = .inl (cy 0, 48, .inl (I (9 + 15 * i + 2 + f))) := by
  rw [show 9 + 15 * i + 2 + f = 9 + 15 * i + (2 + f) by omega, tp_cH i (by omega)]
  rcases (show f = 0 ∨ f = 1 ∨ f = 2 ∨ f = 3 ∨ f = 4 by omega) with rfl | rfl | rfl | rfl | rfl <;> rfl
theorem tp_hS (i : Nat) {f : Nat} (hf : f < 5) : tp_c cy n ad I o (9 + 15 * i + 8 + f) = .inl (cy 0, 48, .inl (I (9 + 15 * i + 8 + f))) := by
  rw [show 9 + 15 * i + 8 + f = 9 + 15 * i + (8 + f) by omega, tp_cH i (by omega)]
  rcases (show f = 0 ∨ f = 1 ∨ f = 2 ∨ f = 3 ∨ f = 4 by omega) with rfl | rfl | rfl | rfl | rfl <;> rfl
theorem tp_hA (i : Nat) : tp_c cy n ad I o (9 + 15 * i + 13) = .inl (cy 0, 48, .inl (I (9 + 15 * i + 13))) := by rw [tp_cH i (by decide)]; rfl
theorem tp_hP (i : Nat) : tp_c cy n ad I o (9 + 15 * i + 14) = .inl (cy 0, 48, .inl (I (9 + 15 * i + 14))) := by rw [tp_cH i (by decide)]; rfl
theorem tp_at {k : Nat} (hk : k < 9 + 15 * n) : (tp_w cy n ad I o)[k]? = some (ad k, tp_c cy n ad I o k) := by
  unfold tp_w
  rw [List.getElem?_map, List.getElem?_range hk]
  rfl
theorem tp_hown {I' : Nat → Nat → Int32} (b : Nat) : ∀ j : Nat, I b = I' b → I (b + j) = I' (b + j) → tp_hc cy ad I b j = tp_hc cy ad I' b j := fun j h0 h => by
  unfold tp_hc
  split
  · simp only [h0]
  · rfl
  · rfl
  · simp only [h]
theorem tp_own {I' : Nat → Nat → Int32} {k0 k : Nat} (hne : k ≠ k0) (h : ∀ j, j ≠ k0 → I j = I' j) : tp_c cy n ad I o k = tp_c cy n ad I' o k := by
  unfold tp_c
  split
  case h_10 k' =>
    by_cases h0 : k' % 15 = 0
    · have e : 9 + 15 * (k' / 15) = k' + 9 := by omega
      rw [h0, e]
      have h1 := h (k' + 9) hne
      exact tp_hown (k' + 9) 0 h1 h1
    · have e : 9 + 15 * (k' / 15) + k' % 15 = k' + 9 := by omega
      have h1 := h (k' + 9) hne
      rw [← e] at h1
      generalize 9 + 15 * (k' / 15) = b at h1 ⊢
      generalize k' % 15 = r at h0 h1 ⊢
      unfold tp_hc
      split
      · exact absurd rfl h0
      · rfl
      · rfl
      · simp only [h1]
  all_goals first | rfl | simp only [h _ hne]
theorem tp_set {k : Nat} (hk : k < 9 + 15 * n) {I' : Nat → Nat → Int32} (h : ∀ j, j ≠ k → I j = I' j) {e : va_E} (he : tp_c cy n ad I' o k = e) : (tp_w cy n ad I o).set k (ad k, e) = tp_w cy n ad I' o := by
  subst he
  apply List.ext_getElem?
  intro q
  by_cases hq : q = k
  · subst hq
    rw [tp_at hk, List.getElem?_set_self (by unfold tp_w; simpa using hk)]
  · rw [List.getElem?_set_ne (Ne.symm hq)]
    by_cases hl : q < 9 + 15 * n
    · rw [tp_at hl, tp_at hl, tp_own hq h]
    · rw [List.getElem?_eq_none (by unfold tp_w; simpa using hl), List.getElem?_eq_none (by unfold tp_w; simpa using hl)]
theorem tp_e0 : (tp_w cy n ad I o)[0]? = some (ad 0, .inr (1, [.ref (ad 1), .int (I 0 1), .int (I 0 2)])) := tp_at (by omega)
theorem tp_eh {i : Nat} (hi : i < n) : (tp_w cy n ad I o)[9 + 15 * i]? = some (ad (9 + 15 * i), .inr (0, [.ref (ad (9 + 15 * i + 1)), .ref (ad (9 + 15 * i + 7)), .int (I (9 + 15 * i) 2), .int (I (9 + 15 * i) 3), .ref (ad (9 + 15 * i + 13)), .ref (ad (9 + 15 * i + 14)), .int (I (9 + 15 * i) 6), .int (I (9 + 15 * i) 7), .int (I (9 + 15 * i) 8)])) := by
  rw [tp_at (by omega), tp_cH0]
  rfl
end TPW
/-- one place of I written -/
def tp_u (I : Nat → Nat → Int32) (k j : Nat) (x : Int32) : Nat → Nat → Int32 := va_up I k (upd (I k) j x)
theorem tp_u_ne {I : Nat → Nat → Int32} {k j : Nat} {x : Int32} : ∀ a, a ≠ k → I a = tp_u I k j x a := fun a h => (va_up_ne I _ h).symm
theorem tp_u_at {I : Nat → Nat → Int32} {k j : Nat} {x : Int32} : tp_u I k j x k = upd (I k) j x := va_up_self I k _
theorem tp_u_oth {I : Nat → Nat → Int32} {k j a : Nat} {x : Int32} (h : a ≠ k) : tp_u I k j x a = I a := va_up_ne I _ h
theorem tp_u_s {I : Nat → Nat → Int32} {k j : Nat} {x : Int32} : tp_u I k j x k j = x := by rw [tp_u_at]; exact pk_us
theorem tp_u_n {I : Nat → Nat → Int32} {k j b : Nat} {x : Int32} (h : b ≠ j) : tp_u I k j x k b = I k b := by rw [tp_u_at]; exact pk_un h
/-- a world in a heap, of a state -/
def tp_P (D : va_G) (cy : Nat → ClassId) (n : Nat) (ad : Nat → Nat) (I : Nat → Nat → Int32) (o : Int64) (sz : Nat) (U : State) : Prop := U.heap.size = sz ∧ va_P D vwCl (tp_w cy n ad I o) U.heap ∧ va_K D vwCl (tp_ty cy) U ∧ va_D (fun _ => True) (tp_w cy n ad I o)
def tp_B (D : va_G) (cy : Nat → ClassId) (n : Nat) (ad : Nat → Nat) (o : Int64) (A : Nat → Prop) (I : Nat → Nat → Int32) (t : State) : Prop := va_P D vwCl (tp_w cy n ad I o) t.heap ∧ va_K D vwCl (tp_ty cy) t ∧ va_D A (tp_w cy n ad I o)
/-- a contract: the answer r, the numbers I' behind it -/
def tp_I (l : Launch) (y : MethodName) (ws : List Cond) (rm : Room) (D : va_G) (cy : Nat → ClassId) (n : Nat) (ad : Nat → Nat) (o : Int64) (as : List Value) (I : Nat → Nat → Int32) (r : Int32) (I' : Nat → Nat → Int32) : Prop :=
  ∀ sz : Nat, Met l y ws rm (va_Pc as (tp_P D cy n ad I o sz)) (va_Qi (fun x u => x = r ∧ u = I') (tp_B D cy n ad o (va_A (tp_w cy n ad I o) sz)) (va_A (tp_w cy n ad I o) sz)) 0 0 (va_A (tp_w cy n ad I o) sz)
def tp_V (l : Launch) (y : MethodName) (ws : List Cond) (rm : Room) (D : va_G) (cy : Nat → ClassId) (n : Nat) (ad : Nat → Nat) (o : Int64) (as : List Value) (I : Nat → Nat → Int32) (I' : Nat → Nat → Int32) : Prop :=
  ∀ sz : Nat, Met l y ws rm (va_Pc as (tp_P D cy n ad I o sz)) (va_Qv (fun u => u = I') (tp_B D cy n ad o (va_A (tp_w cy n ad I o) sz)) (va_A (tp_w cy n ad I o) sz)) 0 0 (va_A (tp_w cy n ad I o) sz)
abbrev tp_rm (fr lo : Nat) : Room := { frames := fr, cells := 0, slots := 0, locals := lo }
/-- a body's start -/
def tp_S (p : Program) (s : State) (m : MethodId) (args : Array Value) (meth : Method) (c : Code) (y : MethodName) (ws : List Cond) (cc : ByteArray) (maxL : Nat) (ret : Option FieldType) (D : va_G) (cy : Nat → ClassId) (n : Nat) (ad : Nat → Nat) (o : Int64) (I : Nat → Nat → Int32) (A : Nat → Prop) (ls : Array Slot) (lv : List (Nat × Value)) : Prop :=
  p.tables.exec = Jvm.exec ∧ c.code = cc ∧ meth.sig.returnType = ret ∧ c.maxLocals = maxL ∧ s.vm.findClass y.cls = some m.cls ∧ (∀ w ∈ ws, w.before args s = true) ∧ meth.locks = false ∧ (∀ q : Nat, s.heap.size ≤ q → A q) ∧ va_K D vwCl (tp_ty cy) s ∧ va_P D vwCl (tp_w cy n ad I o) s.heap ∧ va_D A (tp_w cy n ad I o) ∧ va_S A s.heap s.heap [] ∧ lv_has ls maxL lv
theorem tp_ofI {l : Launch} {y : MethodName} {ws ws' : List Cond} {fr lo : Nat} {D : va_G} {cy : Nat → ClassId} {n : Nat} {ad : Nat → Nat} {o : Int64} {I I' : Nat → Nat → Int32} {as : List Value} {r : Int32} {cc : ByteArray} {maxL : Nat} {ret : Option FieldType} {lv : List (Nat × Value)}
    (hy : plainName y.cls = true) (hw : ws = Cond.code y cc maxL ret :: ws') (hlen : (lg_sl as).length ≤ maxL) (hlv : lv_args 0 as = lv)
    (body : ∀ (p : Program) (e : Env) (s : State) (m : MethodId) (args : Array Value) (below : List Frame) (meth : Method) (c : Code) (A : Nat → Prop) (ls : Array Slot), tp_S p s m args meth c y ws cc maxL ret D cy n ad o I A ls lv →
      W p l e (tp_rm fr lo) s m args below meth c s.heap [] 0 0 (MQ below (va_Qi (fun x u => x = r ∧ u = I') (tp_B D cy n ad o A) A) args s 0 0 A) (F0 m 0 ls [])) :
    tp_I l y ws (tp_rm fr lo) D cy n ad o as I r I' := by
  intro sz
  refine Met.ofW (cc := cc) (maxL := maxL) (ret := ret) hy hw ?_
  intro p e s m args below meth c s₁ B hml hv
  obtain ⟨rfl, hsz, hP, hK, hD0⟩ := hv
  subst hsz
  have hown : s.vm.findClass y.cls = some m.cls := findClass_of_methodNamed B.named
  have hD := hD0.self (sz := s.heap.size)
  generalize hAe : va_A (tp_w cy n ad I o) s.heap.size = A at hD ⊢
  have hA : ∀ q : Nat, s.heap.size ≤ q → A q := fun q h => by rw [← hAe]; exact Or.inr h
  have hl := lv_entry as (n := maxL) hlen
  rw [hlv] at hl
  rw [lg_entry_eq]
  exact body p e s m _ below meth c A _ ⟨B.exec, B.bytes, B.returns, hml, hown, atoms_spec (ws := ws) B.pre, B.notSynchronized, hA, hK, hP, hD, va_S.rf, hl⟩
theorem tp_ofV {l : Launch} {y : MethodName} {ws ws' : List Cond} {fr lo : Nat} {D : va_G} {cy : Nat → ClassId} {n : Nat} {ad : Nat → Nat} {o : Int64} {I I' : Nat → Nat → Int32} {as : List Value} {cc : ByteArray} {maxL : Nat} {ret : Option FieldType} {lv : List (Nat × Value)}
    (hy : plainName y.cls = true) (hw : ws = Cond.code y cc maxL ret :: ws') (hlen : (lg_sl as).length ≤ maxL) (hlv : lv_args 0 as = lv)
    (body : ∀ (p : Program) (e : Env) (s : State) (m : MethodId) (args : Array Value) (below : List Frame) (meth : Method) (c : Code) (A : Nat → Prop) (ls : Array Slot), tp_S p s m args meth c y ws cc maxL ret D cy n ad o I A ls lv →
      W p l e (tp_rm fr lo) s m args below meth c s.heap [] 0 0 (MQ below (va_Qv (fun u => u = I') (tp_B D cy n ad o A) A) args s 0 0 A) (F0 m 0 ls [])) :
    tp_V l y ws (tp_rm fr lo) D cy n ad o as I I' := by
  intro sz
  refine Met.ofW (cc := cc) (maxL := maxL) (ret := ret) hy hw ?_
  intro p e s m args below meth c s₁ B hml hv
  obtain ⟨rfl, hsz, hP, hK, hD0⟩ := hv
  subst hsz
  have hown : s.vm.findClass y.cls = some m.cls := findClass_of_methodNamed B.named
  have hD := hD0.self (sz := s.heap.size)
  generalize hAe : va_A (tp_w cy n ad I o) s.heap.size = A at hD ⊢
  have hA : ∀ q : Nat, s.heap.size ≤ q → A q := fun q h => by rw [← hAe]; exact Or.inr h
  have hl := lv_entry as (n := maxL) hlen
  rw [hlv] at hl
  rw [lg_entry_eq]
  exact body p e s m _ below meth c A _ ⟨B.exec, B.bytes, B.returns, hml, hown, atoms_spec (ws := ws) B.pre, B.notSynchronized, hA, hK, hP, hD, va_S.rf, hl⟩
section TPR
variable {p : Program} {l : Launch} {e : Env} {R : Room} {s : State} {m : MethodId} {args : Array Value} {below : List Frame} {meth : Method} {c : Code} {H : Heap} {locs : List Loc} {cells slots : Nat} {Q : State → Prop}
variable {cc : ByteArray} {pc : Nat} {ls : Array Slot} {rest : List Value} {D : va_G} {A : Nat → Prop} {H0 : Heap}
variable {cy : Nat → ClassId} {n : Nat} {ad : Nat → Nat} {I : Nat → Nat → Int32} {o : Int64}
/-- ends -/
theorem tp_reti {I1 I' : Nat → Nat → Int32} {v r : Int32} {ty : FieldType} (hx : p.tables.exec = Jvm.exec) (hb : c.code = cc) (hr : meth.sig.returnType = some ty) (hlocks : meth.locks = false) (hK : va_K D vwCl (tp_ty cy) s) (hP : va_P D vwCl (tp_w cy n ad I1 o) H) (hD : va_D A (tp_w cy n ad I1 o)) (hS : va_S A s.heap H locs) (hn : narrow ty (.int v) = .int v) (ev : v = r) (eI : I1 = I') (hdg : decode cc pc = .ok (.ireturn, 1)) :
    W p l e R s m args below meth c H locs 0 0 (MQ below (va_Qi (fun x u => x = r ∧ u = I') (tp_B D cy n ad o A) A) args s 0 0 A) (F0 m pc ls [.int v]) := by
  subst ev
  subst eI
  exact W.zret (v := v) hx hb hr hn (fun t ht hW => ⟨⟨v, I1, rfl, ⟨rfl, rfl⟩, by rw [ht]; exact hP, va_K.moved hW.alike hK, hD⟩, hS.F ht⟩) hS.2.2 hdg
theorem tp_retv {I1 I' : Nat → Nat → Int32} (hx : p.tables.exec = Jvm.exec) (hb : c.code = cc) (hr : meth.sig.returnType = none) (hlocks : meth.locks = false) (hK : va_K D vwCl (tp_ty cy) s) (hP : va_P D vwCl (tp_w cy n ad I1 o) H) (hD : va_D A (tp_w cy n ad I1 o)) (hS : va_S A s.heap H locs) (eI : I1 = I') (hdg : decode cc pc = .ok (.return_, 1)) :
    W p l e R s m args below meth c H locs 0 0 (MQ below (va_Qv (fun u => u = I') (tp_B D cy n ad o A) A) args s 0 0 A) (F0 m pc ls []) := by
  subst eI
  exact W.vret hx hb hr (fun t ht hW => ⟨⟨I1, rfl, rfl, by rw [ht]; exact hP, va_K.moved hW.alike hK, hD⟩, hS.F ht⟩) hS.2.2 hdg
/-- a value by a name, with what is known of it, where two ways meet -/
theorem tp_join {α : Sort _} {g0 : JFrame} (x : α) (g : α → JFrame) (k : ∀ y : α, y = x → W p l e R s m args below meth c H locs cells slots Q (g y)) (h : (∀ y : α, y = x → W p l e R s m args below meth c H locs cells slots Q (g y)) → W p l e R s m args below meth c H locs cells slots Q g0) : W p l e R s m args below meth c H locs cells slots Q g0 := h k
/-- arrays -/
theorem tp_iald {f : Nat → Int32} {x : Int32} (hx : p.tables.exec = Jvm.exec) (hb : c.code = cc) (hK : va_K D vwCl (tp_ty cy) s) (hP : va_P D vwCl (tp_w cy n ad I o) H) (k N j : Nat) (hk : k < 9 + 15 * n) (hc : tp_c cy n ad I o k = .inl (cy 0, N, .inl f)) (hj : x = nI j) (hlt : j < N) (hN : N < 2 ^ 31) (hdg : decode cc pc = .ok (.iaload, 1))
    (kk : W p l e R s m args below meth c H locs cells slots Q (F0 m (pc + 1) ls (.int (f j) :: rest))) : W p l e R s m args below meth c H locs cells slots Q (F0 m pc ls (.int x :: .ref (ad k) :: rest)) := by
  subst hj
  refine va_iald hx hb hK hP k 0 (by rw [tp_at hk, hc]) rfl (vp_in_nI hlt hN) hdg ?_
  rw [nI_clamp (by omega)]
  exact kk
/-- a row of an array of arrays -/
theorem tp_aald {f : Nat → Nat} {x : Int32} (hx : p.tables.exec = Jvm.exec) (hb : c.code = cc) (hK : va_K D vwCl (tp_ty cy) s) (hP : va_P D vwCl (tp_w cy n ad I o) H) (k N j : Nat) (hk : k < 9 + 15 * n) (hc : tp_c cy n ad I o k = .inl (cy 4, N, .inr (.inr (.inr (.inr (tp_rf N f)))))) (hj : x = nI j) (hlt : j < N) (hN : N < 2 ^ 31) (hdg : decode cc pc = .ok (.aaload, 1))
    (kk : W p l e R s m args below meth c H locs cells slots Q (F0 m (pc + 1) ls (.ref (f j) :: rest))) : W p l e R s m args below meth c H locs cells slots Q (F0 m pc ls (.int x :: .ref (ad k) :: rest)) := by
  subst hj
  have hh : (tp_w cy n ad I o)[k]? = some (ad k, .inl (cy 4, N, .inr (.inr (.inr (.inr (tp_rf N f)))))) := by rw [tp_at hk, hc]
  have e1 : tp_rf N f j = some (f j) := if_pos hlt
  exact W.aald (v := .ref (f j)) (ty := .array .int) hx hb (hP k _ hh) ((hK.2 4 _ rfl).1 N (fun j => va_rf (tp_rf N f j))) rfl (fun q => by cases q) (by show ¬ (_ ∨ (arrV _ _ _).slots.size ≤ _); rw [arrV_size]; exact vp_in_nI hlt hN) (by show (arrV _ _ _).slots[_]? = _; rw [nI_clamp (by omega), arrV_read _ _ hlt, e1]; rfl) rfl rfl hdg kk
theorem tp_iast {x v : Int32} (hx : p.tables.exec = Jvm.exec) (hb : c.code = cc) (hK : va_K D vwCl (tp_ty cy) s) (hP : va_P D vwCl (tp_w cy n ad I o) H) (hD : va_D A (tp_w cy n ad I o)) (hS : va_S A H0 H locs) (k N j : Nat) (hk : k < 9 + 15 * n) (hc : ∀ I : Nat → Nat → Int32, tp_c cy n ad I o k = .inl (cy 0, N, .inl (I k))) (hj : x = nI j) (hlt : j < N) (hN : N < 2 ^ 31) (hdg : decode cc pc = .ok (.iastore, 1))
    (kk : ∀ (H1 : Heap) (locs1 : List Loc), va_P D vwCl (tp_w cy n ad (tp_u I k j v) o) H1 → va_D A (tp_w cy n ad (tp_u I k j v) o) → va_S A H0 H1 locs1 → W p l e R s m args below meth c H1 locs1 cells slots Q (F0 m (pc + 1) ls rest)) : W p l e R s m args below meth c H locs cells slots Q (F0 m pc ls (.int v :: .int x :: .ref (ad k) :: rest)) := by
  subst hj
  refine va_iast hx hb hK hP hD hS k 0 (by rw [tp_at hk, hc]) rfl (vp_in_nI hlt hN) hdg (fun H1 locs1 hP hD hS => ?_)
  rw [nI_clamp (by omega), tp_set hk (I' := tp_u I k j v) tp_u_ne (by rw [hc, tp_u_at])] at hP hD
  exact kk H1 locs1 hP hD hS
end TPR
end
section
section TPC
variable {p : Program} {l : Launch} {e : Env} {R : Room} {s : State} {m : MethodId} {args : Array Value} {below : List Frame} {meth : Method} {c : Code} {H : Heap} {locs : List Loc} {cells slots : Nat} {Q : State → Prop}
variable {cc : ByteArray} {pc : Nat} {ls : Array Slot} {rest : List Value} {D : va_G} {A : Nat → Prop} {H0 : Heap}
variable {cy : Nat → ClassId} {n : Nat} {ad : Nat → Nat} {I : Nat → Nat → Int32} {o : Int64}
theorem tp_fr (hD : va_D A (tp_w cy n ad I o)) (hS : va_S A H0 H locs) (hA : ∀ q : Nat, H0.size ≤ q → A q) : ∀ q : Nat, va_A (tp_w cy n ad I o) H.size q → A q := by
  intro q h
  rcases h with ⟨k, e, hk⟩ | h
  · exact hD.2 k _ hk
  · exact hA q (Nat.le_trans hS.1 h)
theorem tp_blind {as : List Value} {sz : Nat} : FrameBlind (va_Pc as (tp_P D cy n ad I o sz)) := fun a U g mk q => by
  obtain ⟨q0, q1, qP, qK, qD⟩ := q
  exact ⟨q0, q1, qP, va_K.moved (u := U) (U := U.calling g mk a) (Vm.Alike.refl U.vm) qK, qD⟩
/-- a field of an int, written -/
theorem tp_put {own C : String} {T : u_T} {N ci index : Nat} {Ts : List Cond} (hx : p.tables.exec = Jvm.exec) (hb : c.code = cc) (hts : ∀ w ∈ Ts, w.before args s = true) (hin : ∀ w ∈ u_ws C T N, w ∈ Ts) (ty0 : Nat → FieldType) (hty : ∀ k, k < N → parseFieldDescriptor (T k).2.2.1 = some (ty0 k)) (hnm : ∀ a, a < N → ∀ b, b < N → a ≠ b → (T a).2.1 ≠ (T b).2.1) (hown : s.vm.findClass own = some m.cls)
    (hK : va_K D vwCl (tp_ty cy) s) (hP : va_P D vwCl (tp_w cy n ad I o) H) (hD : va_D A (tp_w cy n ad I o)) (hS : va_S A H0 H locs) (k : Nat) {fs : List Value} (he : (tp_w cy n ad I o)[k]? = some (ad k, .inr (ci, fs))) (hk : k < 9 + 15 * n) (hc : vwCl[ci]? = some (C, T, N)) (j : Nat) (hj : j < N) (hlink : (Cond.fieldLink own index (T j).1 (T j).2.1 (T j).2.2.1).before args s = true) (hfin : (T j).2.2.2 = false) {ty : FieldType} {v : Int32} (hd : parseFieldDescriptor (T j).2.2.1 = some ty) (hn : narrow ty (.int v) = .int v) (hfit : fits ty (.int v) = true) (hl : j < fs.length)
    (hcell : tp_c cy n ad (tp_u I k j v) o k = .inr (ci, fs.set j (.int v))) (hdg : decode cc pc = .ok (.putfield index, 3))
    (kk : ∀ (H1 : Heap) (locs1 : List Loc), va_P D vwCl (tp_w cy n ad (tp_u I k j v) o) H1 → va_D A (tp_w cy n ad (tp_u I k j v) o) → va_S A H0 H1 locs1 → W p l e R s m args below meth c H1 locs1 cells slots Q (F0 m (pc + 3) ls rest)) : W p l e R s m args below meth c H locs cells slots Q (F0 m pc ls (.int v :: .ref (ad k) :: rest)) := by
  refine va_put (D := D) (ci := ci) (v := .int v) (ty := ty) (C := C) (T := T) (N := N) hx hb hts hin ty0 hty hnm hown hK hP hD hS k he hc j hj hlink (fun _ h9 => h9) hfin hd hn hfit hl hdg (fun H1 locs1 hP hD hS => ?_)
  rw [tp_set hk (I' := tp_u I k j v) tp_u_ne hcell] at hP hD
  exact kk H1 locs1 hP hD hS
theorem tp_putN {own C host : String} {T : u_T} {N ci index : Nat} {Ts : List Cond} (hx : p.tables.exec = Jvm.exec) (hb : c.code = cc) (hts : ∀ w ∈ Ts, w.before args s = true) (hin : ∀ w ∈ u_ws C T N, w ∈ Ts) (ty0 : Nat → FieldType) (hty : ∀ k, k < N → parseFieldDescriptor (T k).2.2.1 = some (ty0 k)) (hnm : ∀ a, a < N → ∀ b, b < N → a ≠ b → (T a).2.1 ≠ (T b).2.1) (hown : s.vm.findClass own = some m.cls)
    (hK : va_K D vwCl (tp_ty cy) s) (hP : va_P D vwCl (tp_w cy n ad I o) H) (hD : va_D A (tp_w cy n ad I o)) (hS : va_S A H0 H locs) (k : Nat) {fs : List Value} (he : (tp_w cy n ad I o)[k]? = some (ad k, .inr (ci, fs))) (hk : k < 9 + 15 * n) (hc : vwCl[ci]? = some (C, T, N)) (j : Nat) (hj : j < N) (hlink : (Cond.fieldLinkNest own index (T j).1 (T j).2.1 (T j).2.2.1 host).before args s = true) (hfin : (T j).2.2.2 = false) {ty : FieldType} {v : Int32} (hd : parseFieldDescriptor (T j).2.2.1 = some ty) (hn : narrow ty (.int v) = .int v) (hfit : fits ty (.int v) = true) (hl : j < fs.length)
    (hcell : tp_c cy n ad (tp_u I k j v) o k = .inr (ci, fs.set j (.int v))) (hdg : decode cc pc = .ok (.putfield index, 3))
    (kk : ∀ (H1 : Heap) (locs1 : List Loc), va_P D vwCl (tp_w cy n ad (tp_u I k j v) o) H1 → va_D A (tp_w cy n ad (tp_u I k j v) o) → va_S A H0 H1 locs1 → W p l e R s m args below meth c H1 locs1 cells slots Q (F0 m (pc + 3) ls rest)) : W p l e R s m args below meth c H locs cells slots Q (F0 m pc ls (.int v :: .ref (ad k) :: rest)) := by
  refine va_putN (D := D) (ci := ci) (v := .int v) (ty := ty) (C := C) (T := T) (N := N) hx hb hts hin ty0 hty hnm hown hK hP hD hS k he hc j hj hlink (fun _ h9 => h9) hfin hd hn hfit hl hdg (fun H1 locs1 hP hD hS => ?_)
  rw [tp_set hk (I' := tp_u I k j v) tp_u_ne hcell] at hP hD
  exact kk H1 locs1 hP hD hS
theorem tp_callV {own C : String} {index nA nL maxL fr lo : Nat} {y : MethodName} {bytes : ByteArray} {ret : Option FieldType} {ws Ts : List Cond} {b : Nat} {As st fs : List Value} {r : Int32} {I' : Nat → Nat → Int32} {q : vw_C}
    (S : CallFix p m c cc nL s args Ts own) (hM : tp_I l y ws (tp_rm fr lo) D cy n ad o (.ref b :: As) I r I') (cw : CallW R s args own C index y bytes maxL ret ws (tp_rm fr lo) 0 0 nA) (hK : va_K D vwCl (tp_ty cy) s) (hP : va_P D vwCl (tp_w cy n ad I o) H) (hD : va_D A (tp_w cy n ad I o)) (hS : va_S A H0 H locs) (hA : ∀ q : Nat, H0.size ≤ q → A q)
    (k0 ci : Nat) (he : (tp_w cy n ad I o)[k0]? = some (b, .inr (ci, fs))) (hci : vwCl[ci]? = some q) (hqC : q.1 = C) (hn : As.length = nA) (hls : ls.size = nL) (hst : st = As.reverse ++ .ref b :: rest) (hroom : (rest.map fun v => v.category).sum ≤ 8) (hdg : decode cc pc = .ok (.invokevirtual index, 3)) (hcs : cells ≤ R.cells ∧ slots ≤ R.slots)
    (kk : ∀ I1 : Nat → Nat → Int32, I' = I1 → ∀ (H1 : Heap) (locs1 : List Loc), va_P D vwCl (tp_w cy n ad I1 o) H1 → va_D A (tp_w cy n ad I1 o) → va_S A H0 H1 locs1 → W p l e R s m args below meth c H1 locs1 cells slots Q (F0 m (pc + 3) ls (.int r :: rest))) : W p l e R s m args below meth c H locs cells slots Q (F0 m pc ls st) := by
  subst hst
  subst hqC
  have hF := tp_fr hD hS hA
  refine va_calli (va_runV (As := As) (rest := rest) S (hM H.size) cw ⟨tp_blind, va_recv hK hP hci he, fun U hU hW => ⟨rfl, by rw [hU], by rw [hU]; exact hP, va_K.moved hW.alike hK, hD.weaken (fun _ _ _ _ => trivial)⟩⟩ rfl hn hls rfl (lv_room hroom) hdg hcs) hS (fun q _ h => hF q h) hF (fun r1 u t H1 locs1 ht hvm hw hB hz1 hk1 hS1 => ?_)
  obtain ⟨rfl, rfl⟩ := hw
  obtain ⟨hP1, hK1, hD1⟩ := hB
  rw [ht] at hP1
  exact kk _ rfl H1 locs1 hP1 (hD1.weaken (fun _ _ _ h => hF _ h)) hS1
theorem tp_callVv {own C : String} {index nA nL maxL fr lo : Nat} {y : MethodName} {bytes : ByteArray} {ret : Option FieldType} {ws Ts : List Cond} {b : Nat} {As st fs : List Value} {I' : Nat → Nat → Int32} {q : vw_C}
    (S : CallFix p m c cc nL s args Ts own) (hM : tp_V l y ws (tp_rm fr lo) D cy n ad o (.ref b :: As) I I') (cw : CallW R s args own C index y bytes maxL ret ws (tp_rm fr lo) 0 0 nA) (hK : va_K D vwCl (tp_ty cy) s) (hP : va_P D vwCl (tp_w cy n ad I o) H) (hD : va_D A (tp_w cy n ad I o)) (hS : va_S A H0 H locs) (hA : ∀ q : Nat, H0.size ≤ q → A q)
    (k0 ci : Nat) (he : (tp_w cy n ad I o)[k0]? = some (b, .inr (ci, fs))) (hci : vwCl[ci]? = some q) (hqC : q.1 = C) (hn : As.length = nA) (hls : ls.size = nL) (hst : st = As.reverse ++ .ref b :: rest) (hroom : (rest.map fun v => v.category).sum ≤ 8) (hdg : decode cc pc = .ok (.invokevirtual index, 3)) (hcs : cells ≤ R.cells ∧ slots ≤ R.slots)
    (kk : ∀ I1 : Nat → Nat → Int32, I' = I1 → ∀ (H1 : Heap) (locs1 : List Loc), va_P D vwCl (tp_w cy n ad I1 o) H1 → va_D A (tp_w cy n ad I1 o) → va_S A H0 H1 locs1 → W p l e R s m args below meth c H1 locs1 cells slots Q (F0 m (pc + 3) ls rest)) : W p l e R s m args below meth c H locs cells slots Q (F0 m pc ls st) := by
  subst hst
  subst hqC
  have hF := tp_fr hD hS hA
  refine va_callv (va_runV (As := As) (rest := rest) S (hM H.size) cw ⟨tp_blind, va_recv hK hP hci he, fun U hU hW => ⟨rfl, by rw [hU], by rw [hU]; exact hP, va_K.moved hW.alike hK, hD.weaken (fun _ _ _ _ => trivial)⟩⟩ rfl hn hls rfl (lv_room hroom) hdg hcs) hS (fun q _ h => hF q h) hF (fun u t H1 locs1 ht hvm hw hB hz1 hk1 hS1 => ?_)
  subst hw
  obtain ⟨hP1, hK1, hD1⟩ := hB
  rw [ht] at hP1
  exact kk _ rfl H1 locs1 hP1 (hD1.weaken (fun _ _ _ h => hF _ h)) hS1
theorem tp_callS {own : String} {index nA nL maxL fr lo : Nat} {y : MethodName} {bytes : ByteArray} {ret : Option FieldType} {ws Ts : List Cond} {As st : List Value} {r : Int32} {I' : Nat → Nat → Int32}
    (S : CallFix p m c cc nL s args Ts own) (hM : tp_I l y ws (tp_rm fr lo) D cy n ad o As I r I') (cw : CallB R s args own index y bytes maxL ret ws (tp_rm fr lo) 0 0 nA ∧ (Cond.static y).before args s = true) (hK : va_K D vwCl (tp_ty cy) s) (hP : va_P D vwCl (tp_w cy n ad I o) H) (hD : va_D A (tp_w cy n ad I o)) (hS : va_S A H0 H locs) (hA : ∀ q : Nat, H0.size ≤ q → A q)
    (hn : As.length = nA) (hls : ls.size = nL) (hst : st = As.reverse ++ rest) (hroom : (rest.map fun v => v.category).sum ≤ 8) (hdg : decode cc pc = .ok (.invokestatic index, 3)) (hcs : cells ≤ R.cells ∧ slots ≤ R.slots)
    (kk : ∀ I1 : Nat → Nat → Int32, I' = I1 → ∀ (H1 : Heap) (locs1 : List Loc), va_P D vwCl (tp_w cy n ad I1 o) H1 → va_D A (tp_w cy n ad I1 o) → va_S A H0 H1 locs1 → W p l e R s m args below meth c H1 locs1 cells slots Q (F0 m (pc + 3) ls (.int r :: rest))) : W p l e R s m args below meth c H locs cells slots Q (F0 m pc ls st) := by
  subst hst
  have hF := tp_fr hD hS hA
  refine va_calli (va_runS (As := As) (rest := rest) S (hM H.size) cw ⟨tp_blind, fun U hU hW => ⟨rfl, by rw [hU], by rw [hU]; exact hP, va_K.moved hW.alike hK, hD.weaken (fun _ _ _ _ => trivial)⟩⟩ rfl hn hls rfl (lv_room hroom) hdg hcs) hS (fun q _ h => hF q h) hF (fun r1 u t H1 locs1 ht hvm hw hB hz1 hk1 hS1 => ?_)
  obtain ⟨rfl, rfl⟩ := hw
  obtain ⟨hP1, hK1, hD1⟩ := hB
  rw [ht] at hP1
  exact kk _ rfl H1 locs1 hP1 (hD1.weaken (fun _ _ _ h => hF _ h)) hS1
/-- a loop of N turns; J, V: the numbers and the locals behind t turns -/
theorem tp_for {nL pcH : Nat} (N : Nat) (J : Nat → Nat → Nat → Int32) (V : Nat → List (Nat × Value))
    (step : ∀ t : Nat, t < N → ∀ (ls : Array Slot) (H : Heap) (locs : List Loc), lv_has ls nL (V t) → va_P D vwCl (tp_w cy n ad (J t) o) H → va_D A (tp_w cy n ad (J t) o) → va_S A H0 H locs → (∀ (ls : Array Slot) (H : Heap) (locs : List Loc), lv_has ls nL (V (t + 1)) → va_P D vwCl (tp_w cy n ad (J (t + 1)) o) H → va_D A (tp_w cy n ad (J (t + 1)) o) → va_S A H0 H locs → W p l e R s m args below meth c H locs cells slots Q (F0 m pcH ls [])) → W p l e R s m args below meth c H locs cells slots Q (F0 m pcH ls []))
    (exit : ∀ (ls : Array Slot) (H : Heap) (locs : List Loc), lv_has ls nL (V N) → va_P D vwCl (tp_w cy n ad (J N) o) H → va_D A (tp_w cy n ad (J N) o) → va_S A H0 H locs → W p l e R s m args below meth c H locs cells slots Q (F0 m pcH ls []))
    (hl : lv_has ls nL (V 0)) (hP : va_P D vwCl (tp_w cy n ad (J 0) o) H) (hD : va_D A (tp_w cy n ad (J 0) o)) (hS : va_S A H0 H locs) : W p l e R s m args below meth c H locs cells slots Q (F0 m pcH ls []) := by
  have key : ∀ k t : Nat, t + k = N → ∀ (ls : Array Slot) (H : Heap) (locs : List Loc), lv_has ls nL (V t) → va_P D vwCl (tp_w cy n ad (J t) o) H → va_D A (tp_w cy n ad (J t) o) → va_S A H0 H locs → W p l e R s m args below meth c H locs cells slots Q (F0 m pcH ls []) := by
    intro k
    induction k with
    | zero =>
      intro t h ls H locs h1 h2 h3 h4
      have ht : t = N := h
      subst ht
      exact exit ls H locs h1 h2 h3 h4
    | succ k ih =>
      intro t h ls H locs h1 h2 h3 h4
      exact step t (by omega) ls H locs h1 h2 h3 h4 (ih (t + 1) (by omega))
  exact key N 0 (by omega) ls H locs hl hP hD hS
end TPC
section TPF
variable {cy : Nat → ClassId} {n : Nat} {ad : Nat → Nat} {I : Nat → Nat → Int32} {o : Int64}
/-- a household's number written, in its cell -/
theorem tp_ch2 (i : Nat) (v : Int32) : tp_c cy n ad (tp_u I (9 + 15 * i) 2 v) o (9 + 15 * i) = .inr (0, [.ref (ad (9 + 15 * i + 1)), .ref (ad (9 + 15 * i + 7)), .int v, .int (I (9 + 15 * i) 3), .ref (ad (9 + 15 * i + 13)), .ref (ad (9 + 15 * i + 14)), .int (I (9 + 15 * i) 6), .int (I (9 + 15 * i) 7), .int (I (9 + 15 * i) 8)]) := by
  rw [tp_cH0]
  unfold tp_hc
  simp only [tp_u_at]
  rfl
theorem tp_ch6 (i : Nat) (v : Int32) : tp_c cy n ad (tp_u I (9 + 15 * i) 6 v) o (9 + 15 * i) = .inr (0, [.ref (ad (9 + 15 * i + 1)), .ref (ad (9 + 15 * i + 7)), .int (I (9 + 15 * i) 2), .int (I (9 + 15 * i) 3), .ref (ad (9 + 15 * i + 13)), .ref (ad (9 + 15 * i + 14)), .int v, .int (I (9 + 15 * i) 7), .int (I (9 + 15 * i) 8)]) := by
  rw [tp_cH0]
  unfold tp_hc
  simp only [tp_u_at]
  rfl
theorem tp_ch7 (i : Nat) (v : Int32) : tp_c cy n ad (tp_u I (9 + 15 * i) 7 v) o (9 + 15 * i) = .inr (0, [.ref (ad (9 + 15 * i + 1)), .ref (ad (9 + 15 * i + 7)), .int (I (9 + 15 * i) 2), .int (I (9 + 15 * i) 3), .ref (ad (9 + 15 * i + 13)), .ref (ad (9 + 15 * i + 14)), .int (I (9 + 15 * i) 6), .int v, .int (I (9 + 15 * i) 8)]) := by
  rw [tp_cH0]
  unfold tp_hc
  simp only [tp_u_at]
  rfl
theorem tp_ch8 (i : Nat) (v : Int32) : tp_c cy n ad (tp_u I (9 + 15 * i) 8 v) o (9 + 15 * i) = .inr (0, [.ref (ad (9 + 15 * i + 1)), .ref (ad (9 + 15 * i + 7)), .int (I (9 + 15 * i) 2), .int (I (9 + 15 * i) 3), .ref (ad (9 + 15 * i + 13)), .ref (ad (9 + 15 * i + 14)), .int (I (9 + 15 * i) 6), .int (I (9 + 15 * i) 7), .int v]) := by
  rw [tp_cH0]
  unfold tp_hc
  simp only [tp_u_at]
  rfl
theorem tp_hVo (i : Nat) : tp_c cy n ad I o (9 + 15 * i + 1) = .inl (cy 4, 5, .inr (.inr (.inr (.inr (tp_rf 5 (fun f => ad (9 + 15 * i + 2 + f))))))) := by
  rw [tp_cH i (by decide)]
  rfl
theorem tp_hSo (i : Nat) : tp_c cy n ad I o (9 + 15 * i + 7) = .inl (cy 4, 5, .inr (.inr (.inr (.inr (tp_rf 5 (fun f => ad (9 + 15 * i + 8 + f))))))) := by
  rw [tp_cH i (by decide)]
  rfl
end TPF
end
section
/-! WHAT A HOUSEHOLD'S METHODS ANSWER: b is its first cell, m a month -/
def tp_need (I : Nat → Nat → Int32) (b m : Nat) : Int32 := (if I (b + 2 + 0) m ≤ 1 then 30000 + I (b + 2 + 1) m * 8000 else 30000 + I (b + 2 + 1) m * 8000 + 12000) + (if 60000 < I (b + 2 + 2) m then 60000 else I (b + 2 + 2) m)
def tp_pos (x : Int32) : Int32 := if 0 < x then x else 0
def tp_min (x y : Int32) : Int32 := if y < x then y else x
def tp_taper (I : Nat → Nat → Int32) (b m : Nat) : Int32 := tp_pos (I (b + 2 + 3) m - 20000) * 60 / 100
def tp_tariff (I : Nat → Nat → Int32) (b m : Nat) : Int32 := (tp_pos (I (b + 2 + 4) m - 600000) + 25000 - 1) / 25000 * 500
def tp_due (I : Nat → Nat → Int32) (b m : Nat) : Int32 := if I (b + 2 + 4) m ≤ 1600000 then (if 500 ≤ tp_need I b m - tp_taper I b m - tp_tariff I b m then tp_need I b m - tp_taper I b m - tp_tariff I b m else 0) else 0
def tp_sum (g : Nat → Int32) (a : Nat) : Nat → Int32
  | 0 => 0
  | k + 1 => tp_sum g a k + g (a + k)
/-- what is due for the months from a to e - 1, less what was assessed -/
def tp_open (I : Nat → Nat → Int32) (b a e : Nat) : Int32 := tp_sum (fun m => tp_due I b m - I (b + 13) m) a (e - a)
def tp_owed (I : Nat → Nat → Int32) (b : Nat) (x : Int32) : Int32 := tp_pos (I b 6 - x)
def tp_arr (I : Nat → Nat → Int32) (b : Nat) (x : Int32) : Int32 := tp_pos (x - I b 6)
def tp_rec (I : Nat → Nat → Int32) (b m : Nat) (x : Int32) : Int32 := if I b 8 = 0 then tp_min x (tp_min (tp_due I b m * 15 / 100) (tp_pos (tp_due I b m + I (b + 2 + 3) m - 25000))) else 0
def tp_paym (I : Nat → Nat → Int32) (b a m : Nat) : Int32 := tp_due I b m - tp_rec I b m (tp_owed I b (tp_open I b a m)) + tp_arr I b (tp_open I b a m)
end
section
/-! WHERE WAYS MEET -/
section TPM
variable {p : Program} {l : Launch} {e : Env} {R : Room} {s : State} {m : MethodId} {args : Array Value} {below : List Frame} {meth : Method} {c : Code} {H : Heap} {locs : List Loc} {cells slots : Nat} {Q : State → Prop}
variable {pc : Nat} {ls : Array Slot} {rest : List Value}
/-- where ways meet -/
theorem tp_meet {α : Sort _} {g0 : JFrame} (x : α) (g : α → JFrame) (h : (∀ y : α, y = x → W p l e R s m args below meth c H locs cells slots Q (g y)) → W p l e R s m args below meth c H locs cells slots Q g0) (k : W p l e R s m args below meth c H locs cells slots Q (g x)) : W p l e R s m args below meth c H locs cells slots Q g0 := h (fun y ey => by subst ey; exact k)
theorem tp_meetH {D : va_G} {A : Nat → Prop} {H0 : Heap} {cy : Nat → ClassId} {n : Nat} {ad : Nat → Nat} {I : Nat → Nat → Int32} {o : Int64} {α : Sort _} {g0 : JFrame} (x : α) (g : α → JFrame)
    (h : (∀ y : α, y = x → ∀ (H : Heap) (locs : List Loc), va_P D vwCl (tp_w cy n ad I o) H → va_D A (tp_w cy n ad I o) → va_S A H0 H locs → W p l e R s m args below meth c H locs cells slots Q (g y)) → W p l e R s m args below meth c H locs cells slots Q g0)
    (k : ∀ (H : Heap) (locs : List Loc), va_P D vwCl (tp_w cy n ad I o) H → va_D A (tp_w cy n ad I o) → va_S A H0 H locs → W p l e R s m args below meth c H locs cells slots Q (g x)) : W p l e R s m args below meth c H locs cells slots Q g0 := h (fun y ey => by subst ey; exact k)
theorem tp_eqi {x y : Int32} (h : x = y) (k : W p l e R s m args below meth c H locs cells slots Q (F0 m pc ls (.int y :: rest))) : W p l e R s m args below meth c H locs cells slots Q (F0 m pc ls (.int x :: rest)) := by
  subst h
  exact k
end TPM
theorem tp_eqI {l : Launch} {y : MethodName} {ws : List Cond} {rm : Room} {D : va_G} {cy : Nat → ClassId} {n : Nat} {ad : Nat → Nat} {o : Int64} {as : List Value} {I : Nat → Nat → Int32} {r r' : Int32} {I1 I2 : Nat → Nat → Int32} (h : tp_I l y ws rm D cy n ad o as I r I1) (hr : r = r') (hI : I1 = I2) : tp_I l y ws rm D cy n ad o as I r' I2 := by
  subst hr
  subst hI
  exact h
end
section
set_option maxHeartbeats 4000000 in
set_option maxRecDepth 100000 in
/-- needIn(month) -/
theorem hc_needIn (l : Launch) (D : va_G) (cy : Nat → ClassId) (n : Nat) (ad : Nat → Nat) (o : Int64) (I : Nat → Nat → Int32) (i : Nat) (hi : i < n) (m0 : Nat) (hm : m0 < 48) : tp_I l yX0_needIn wsX0_needIn (tp_rm 1 21) D cy n ad o [.ref (ad (9 + 15 * i)), .int (nI m0)] I (tp_need I (9 + 15 * i) m0) (I) := by
  refine tp_ofI (lv := [(0, .ref (ad (9 + 15 * i))), (1, .int (nI m0))]) (by decide) rfl (Nat.le_of_ble_eq_true rfl) rfl (fun p e s m args below meth c A ls S0 => ?_)
  obtain ⟨hx, hb, hr, hml, hown, hts, hlocks, hA, hK, hP, hD, hS, hl⟩ := S0
  refine lv_sipush (v := 30000) hx hb dX0_needIn_0 (by decide) ?_
  refine lv_aload_n hx hb dX0_needIn_3 rfl (lv_at hl 0 rfl) ?_
  refine va_get (D := D) (ci := 0) (v := .ref (ad (9 + 15 * i + 1))) (C := RX0) (T := TX0) (N := 9) hx hb hts (fun _ h => List.mem_cons_of_mem _ (List.mem_append_right _ (h))) hown hK hP (9 + 15 * i) (tp_eh hi) rfl 0 (by decide) (hts _ (List.mem_of_getElem? (i := 1) rfl)) (fun _ h9 => h9) rfl dX0_needIn_4 ?_
  refine lv_iconst (v := 1) hx hb dX0_needIn_7 (by decide) ?_
  refine tp_aald hx hb hK hP (9 + 15 * i + 1) 5 (1) (by omega) (tp_hVo i) (by decide) (by decide) (by decide) dX0_needIn_8 ?_
  refine lv_iload_n hx hb dX0_needIn_9 rfl (lv_at hl 1 rfl) ?_
  refine tp_iald hx hb hK hP (9 + 15 * i + 2 + 1) 48 (m0) (by omega) (tp_hV i (f := 1) (by decide)) rfl (by omega) (by decide) dX0_needIn_10 ?_
  refine lv_sipush (v := 8000) hx hb dX0_needIn_11 (by decide) ?_
  refine lv_imul hx hb dX0_needIn_14 ?_
  refine lv_iadd hx hb dX0_needIn_15 ?_
  refine lv_istore_n (lv' := [(2, .int (30000 + ((I (9 + 15 * i + 2 + 1) m0) * 8000))), (0, .ref (ad (9 + 15 * i))), (1, .int (nI m0))]) hx hb dX0_needIn_16 rfl hl (by decide) rfl (fun ls hl => ?_)
  refine lv_aload_n hx hb dX0_needIn_17 rfl (lv_at hl 1 rfl) ?_
  refine va_get (D := D) (ci := 0) (v := .ref (ad (9 + 15 * i + 1))) (C := RX0) (T := TX0) (N := 9) hx hb hts (fun _ h => List.mem_cons_of_mem _ (List.mem_append_right _ (h))) hown hK hP (9 + 15 * i) (tp_eh hi) rfl 0 (by decide) (hts _ (List.mem_of_getElem? (i := 1) rfl)) (fun _ h9 => h9) rfl dX0_needIn_18 ?_
  refine lv_iconst (v := 0) hx hb dX0_needIn_21 (by decide) ?_
  refine tp_aald hx hb hK hP (9 + 15 * i + 1) 5 (0) (by omega) (tp_hVo i) (by decide) (by decide) (by decide) dX0_needIn_22 ?_
  refine lv_iload_n hx hb dX0_needIn_23 rfl (lv_at hl 2 rfl) ?_
  refine tp_iald hx hb hK hP (9 + 15 * i + 2 + 0) 48 (m0) (by omega) (tp_hV i (f := 0) (by decide)) rfl (by omega) (by decide) dX0_needIn_24 ?_
  refine lv_iconst (v := 1) hx hb dX0_needIn_25 (by decide) ?_
  refine lv_icmp_le (tgt := 35) hx hb dX0_needIn_26 (by decide) (fun c26_1 => ?_) (fun c26_1 => ?_)
  · refine lv_iload_n hx hb dX0_needIn_35 rfl (lv_at hl 0 rfl) ?_
    refine lv_aload_n hx hb dX0_needIn_36 rfl (lv_at hl 1 rfl) ?_
    refine va_get (D := D) (ci := 0) (v := .ref (ad (9 + 15 * i + 1))) (C := RX0) (T := TX0) (N := 9) hx hb hts (fun _ h => List.mem_cons_of_mem _ (List.mem_append_right _ (h))) hown hK hP (9 + 15 * i) (tp_eh hi) rfl 0 (by decide) (hts _ (List.mem_of_getElem? (i := 1) rfl)) (fun _ h9 => h9) rfl dX0_needIn_37 ?_
    refine lv_iconst (v := 2) hx hb dX0_needIn_40 (by decide) ?_
    refine tp_aald hx hb hK hP (9 + 15 * i + 1) 5 (2) (by omega) (tp_hVo i) (by decide) (by decide) (by decide) dX0_needIn_41 ?_
    refine lv_iload_n hx hb dX0_needIn_42 rfl (lv_at hl 2 rfl) ?_
    refine tp_iald hx hb hK hP (9 + 15 * i + 2 + 2) 48 (m0) (by omega) (tp_hV i (f := 2) (by decide)) rfl (by omega) (by decide) dX0_needIn_43 ?_
    refine lv_ldc (v := 60000) hx hb hown (hts _ (List.mem_of_getElem? (i := 2) rfl)) dX0_needIn_44 ?_
    refine va_mmin hx hb (hml.trans hl.1.symm) hown (hts _ (List.mem_of_getElem? (i := 3) rfl)) (hts _ (List.mem_of_getElem? (i := 4) rfl)) (hts _ (List.mem_of_getElem? (i := 5) rfl)) (hts _ (List.mem_of_getElem? (i := 6) rfl)) (Nat.le_of_ble_eq_true rfl) (Nat.le_of_ble_eq_true rfl) (Nat.zero_le _) (Nat.zero_le _) dX0_needIn_46 ?_
    refine lv_iadd hx hb dX0_needIn_49 ?_
    exact tp_reti hx hb hr hlocks hK hP hD hS rfl (by unfold tp_need; rw [if_pos c26_1]) rfl dX0_needIn_50
  · refine lv_iincW (v := ((30000 + ((I (9 + 15 * i + 2 + 1) m0) * 8000)) + 12000)) (lv' := [(2, .int ((30000 + ((I (9 + 15 * i + 2 + 1) m0) * 8000)) + 12000)), (0, .ref (ad (9 + 15 * i))), (1, .int (nI m0))]) hx hb dX0_needIn_29 hl (k := 0) rfl rfl (by decide) rfl (fun ls hl => ?_)
    refine lv_iload_n hx hb dX0_needIn_35 rfl (lv_at hl 0 rfl) ?_
    refine lv_aload_n hx hb dX0_needIn_36 rfl (lv_at hl 1 rfl) ?_
    refine va_get (D := D) (ci := 0) (v := .ref (ad (9 + 15 * i + 1))) (C := RX0) (T := TX0) (N := 9) hx hb hts (fun _ h => List.mem_cons_of_mem _ (List.mem_append_right _ (h))) hown hK hP (9 + 15 * i) (tp_eh hi) rfl 0 (by decide) (hts _ (List.mem_of_getElem? (i := 1) rfl)) (fun _ h9 => h9) rfl dX0_needIn_37 ?_
    refine lv_iconst (v := 2) hx hb dX0_needIn_40 (by decide) ?_
    refine tp_aald hx hb hK hP (9 + 15 * i + 1) 5 (2) (by omega) (tp_hVo i) (by decide) (by decide) (by decide) dX0_needIn_41 ?_
    refine lv_iload_n hx hb dX0_needIn_42 rfl (lv_at hl 2 rfl) ?_
    refine tp_iald hx hb hK hP (9 + 15 * i + 2 + 2) 48 (m0) (by omega) (tp_hV i (f := 2) (by decide)) rfl (by omega) (by decide) dX0_needIn_43 ?_
    refine lv_ldc (v := 60000) hx hb hown (hts _ (List.mem_of_getElem? (i := 2) rfl)) dX0_needIn_44 ?_
    refine va_mmin hx hb (hml.trans hl.1.symm) hown (hts _ (List.mem_of_getElem? (i := 3) rfl)) (hts _ (List.mem_of_getElem? (i := 4) rfl)) (hts _ (List.mem_of_getElem? (i := 5) rfl)) (hts _ (List.mem_of_getElem? (i := 6) rfl)) (Nat.le_of_ble_eq_true rfl) (Nat.le_of_ble_eq_true rfl) (Nat.zero_le _) (Nat.zero_le _) dX0_needIn_46 ?_
    refine lv_iadd hx hb dX0_needIn_49 ?_
    exact tp_reti hx hb hr hlocks hK hP hD hS rfl (by unfold tp_need; rw [if_neg c26_1]) rfl dX0_needIn_50
set_option maxHeartbeats 4000000 in
set_option maxRecDepth 100000 in
/-- taperIn(month) -/
theorem hc_taperIn (l : Launch) (D : va_G) (cy : Nat → ClassId) (n : Nat) (ad : Nat → Nat) (o : Int64) (I : Nat → Nat → Int32) (i : Nat) (hi : i < n) (m0 : Nat) (hm : m0 < 48) : tp_I l yX0_taperIn wsX0_taperIn (tp_rm 1 21) D cy n ad o [.ref (ad (9 + 15 * i)), .int (nI m0)] I (tp_taper I (9 + 15 * i) m0) (I) := by
  refine tp_ofI (lv := [(0, .ref (ad (9 + 15 * i))), (1, .int (nI m0))]) (by decide) rfl (Nat.le_of_ble_eq_true rfl) rfl (fun p e s m args below meth c A ls S0 => ?_)
  obtain ⟨hx, hb, hr, hml, hown, hts, hlocks, hA, hK, hP, hD, hS, hl⟩ := S0
  refine lv_iconst (v := 0) hx hb dX0_taperIn_0 (by decide) ?_
  refine lv_aload_n hx hb dX0_taperIn_1 rfl (lv_at hl 0 rfl) ?_
  refine va_get (D := D) (ci := 0) (v := .ref (ad (9 + 15 * i + 1))) (C := RX0) (T := TX0) (N := 9) hx hb hts (fun _ h => List.mem_cons_of_mem _ (List.mem_append_right _ (h))) hown hK hP (9 + 15 * i) (tp_eh hi) rfl 0 (by decide) (hts _ (List.mem_of_getElem? (i := 1) rfl)) (fun _ h9 => h9) rfl dX0_taperIn_2 ?_
  refine lv_iconst (v := 3) hx hb dX0_taperIn_5 (by decide) ?_
  refine tp_aald hx hb hK hP (9 + 15 * i + 1) 5 (3) (by omega) (tp_hVo i) (by decide) (by decide) (by decide) dX0_taperIn_6 ?_
  refine lv_iload_n hx hb dX0_taperIn_7 rfl (lv_at hl 1 rfl) ?_
  refine tp_iald hx hb hK hP (9 + 15 * i + 2 + 3) 48 (m0) (by omega) (tp_hV i (f := 3) (by decide)) rfl (by omega) (by decide) dX0_taperIn_8 ?_
  refine lv_sipush (v := 20000) hx hb dX0_taperIn_9 (by decide) ?_
  refine lv_isub hx hb dX0_taperIn_12 ?_
  refine va_mmax hx hb (hml.trans hl.1.symm) hown (hts _ (List.mem_of_getElem? (i := 2) rfl)) (hts _ (List.mem_of_getElem? (i := 3) rfl)) (hts _ (List.mem_of_getElem? (i := 4) rfl)) (hts _ (List.mem_of_getElem? (i := 5) rfl)) (Nat.le_of_ble_eq_true rfl) (Nat.le_of_ble_eq_true rfl) (Nat.zero_le _) (Nat.zero_le _) dX0_taperIn_13 ?_
  refine lv_istore_n (lv' := [(2, .int (if 0 < ((I (9 + 15 * i + 2 + 3) m0) - 20000) then ((I (9 + 15 * i + 2 + 3) m0) - 20000) else 0)), (0, .ref (ad (9 + 15 * i))), (1, .int (nI m0))]) hx hb dX0_taperIn_16 rfl hl (by decide) rfl (fun ls hl => ?_)
  refine lv_iload_n hx hb dX0_taperIn_17 rfl (lv_at hl 0 rfl) ?_
  refine lv_bipush (v := 60) hx hb dX0_taperIn_18 (by decide) ?_
  refine lv_imul hx hb dX0_taperIn_20 ?_
  refine lv_bipush (v := 100) hx hb dX0_taperIn_21 (by decide) ?_
  refine lv_idiv hx hb dX0_taperIn_23 (by decide) ?_
  exact tp_reti hx hb hr hlocks hK hP hD hS rfl (by rfl) rfl dX0_taperIn_24
set_option maxHeartbeats 4000000 in
set_option maxRecDepth 100000 in
/-- tariffIn(month) -/
theorem hc_tariffIn (l : Launch) (D : va_G) (cy : Nat → ClassId) (n : Nat) (ad : Nat → Nat) (o : Int64) (I : Nat → Nat → Int32) (i : Nat) (hi : i < n) (m0 : Nat) (hm : m0 < 48) : tp_I l yX0_tariffIn wsX0_tariffIn (tp_rm 1 21) D cy n ad o [.ref (ad (9 + 15 * i)), .int (nI m0)] I (tp_tariff I (9 + 15 * i) m0) (I) := by
  refine tp_ofI (lv := [(0, .ref (ad (9 + 15 * i))), (1, .int (nI m0))]) (by decide) rfl (Nat.le_of_ble_eq_true rfl) rfl (fun p e s m args below meth c A ls S0 => ?_)
  obtain ⟨hx, hb, hr, hml, hown, hts, hlocks, hA, hK, hP, hD, hS, hl⟩ := S0
  refine lv_iconst (v := 0) hx hb dX0_tariffIn_0 (by decide) ?_
  refine lv_aload_n hx hb dX0_tariffIn_1 rfl (lv_at hl 0 rfl) ?_
  refine va_get (D := D) (ci := 0) (v := .ref (ad (9 + 15 * i + 1))) (C := RX0) (T := TX0) (N := 9) hx hb hts (fun _ h => List.mem_cons_of_mem _ (List.mem_append_right _ (h))) hown hK hP (9 + 15 * i) (tp_eh hi) rfl 0 (by decide) (hts _ (List.mem_of_getElem? (i := 1) rfl)) (fun _ h9 => h9) rfl dX0_tariffIn_2 ?_
  refine lv_iconst (v := 4) hx hb dX0_tariffIn_5 (by decide) ?_
  refine tp_aald hx hb hK hP (9 + 15 * i + 1) 5 (4) (by omega) (tp_hVo i) (by decide) (by decide) (by decide) dX0_tariffIn_6 ?_
  refine lv_iload_n hx hb dX0_tariffIn_7 rfl (lv_at hl 1 rfl) ?_
  refine tp_iald hx hb hK hP (9 + 15 * i + 2 + 4) 48 (m0) (by omega) (tp_hV i (f := 4) (by decide)) rfl (by omega) (by decide) dX0_tariffIn_8 ?_
  refine lv_ldc (v := 600000) hx hb hown (hts _ (List.mem_of_getElem? (i := 2) rfl)) dX0_tariffIn_9 ?_
  refine lv_isub hx hb dX0_tariffIn_11 ?_
  refine va_mmax hx hb (hml.trans hl.1.symm) hown (hts _ (List.mem_of_getElem? (i := 3) rfl)) (hts _ (List.mem_of_getElem? (i := 4) rfl)) (hts _ (List.mem_of_getElem? (i := 5) rfl)) (hts _ (List.mem_of_getElem? (i := 6) rfl)) (Nat.le_of_ble_eq_true rfl) (Nat.le_of_ble_eq_true rfl) (Nat.zero_le _) (Nat.zero_le _) dX0_tariffIn_12 ?_
  refine lv_istore_n (lv' := [(2, .int (if 0 < ((I (9 + 15 * i + 2 + 4) m0) - 600000) then ((I (9 + 15 * i + 2 + 4) m0) - 600000) else 0)), (0, .ref (ad (9 + 15 * i))), (1, .int (nI m0))]) hx hb dX0_tariffIn_15 rfl hl (by decide) rfl (fun ls hl => ?_)
  refine lv_iload_n hx hb dX0_tariffIn_16 rfl (lv_at hl 0 rfl) ?_
  refine lv_sipush (v := 25000) hx hb dX0_tariffIn_17 (by decide) ?_
  refine lv_iadd hx hb dX0_tariffIn_20 ?_
  refine lv_iconst (v := 1) hx hb dX0_tariffIn_21 (by decide) ?_
  refine lv_isub hx hb dX0_tariffIn_22 ?_
  refine lv_sipush (v := 25000) hx hb dX0_tariffIn_23 (by decide) ?_
  refine lv_idiv hx hb dX0_tariffIn_26 (by decide) ?_
  refine lv_istore_n (lv' := [(3, .int ((((if 0 < ((I (9 + 15 * i + 2 + 4) m0) - 600000) then ((I (9 + 15 * i + 2 + 4) m0) - 600000) else 0) + 25000) - 1) / 25000)), (2, .int (if 0 < ((I (9 + 15 * i + 2 + 4) m0) - 600000) then ((I (9 + 15 * i + 2 + 4) m0) - 600000) else 0)), (0, .ref (ad (9 + 15 * i))), (1, .int (nI m0))]) hx hb dX0_tariffIn_27 rfl hl (by decide) rfl (fun ls hl => ?_)
  refine lv_iload_n hx hb dX0_tariffIn_28 rfl (lv_at hl 0 rfl) ?_
  refine lv_sipush (v := 500) hx hb dX0_tariffIn_29 (by decide) ?_
  refine lv_imul hx hb dX0_tariffIn_32 ?_
  exact tp_reti hx hb hr hlocks hK hP hD hS rfl (by rfl) rfl dX0_tariffIn_33
set_option maxHeartbeats 4000000 in
set_option maxRecDepth 100000 in
/-- dueIn(month) -/
theorem hc_dueIn (l : Launch) (D : va_G) (cy : Nat → ClassId) (n : Nat) (ad : Nat → Nat) (o : Int64) (I : Nat → Nat → Int32) (i : Nat) (hi : i < n) (m0 : Nat) (hm : m0 < 48) : tp_I l yX0_dueIn wsX0_dueIn (tp_rm 2 44) D cy n ad o [.ref (ad (9 + 15 * i)), .int (nI m0)] I (tp_due I (9 + 15 * i) m0) (I) := by
  refine tp_ofI (lv := [(0, .ref (ad (9 + 15 * i))), (1, .int (nI m0))]) (by decide) rfl (Nat.le_of_ble_eq_true rfl) rfl (fun p e s m args below meth c A ls S0 => ?_)
  obtain ⟨hx, hb, hr, hml, hown, hts, hlocks, hA, hK, hP, hD, hS, hl⟩ := S0
  refine lv_aload_n hx hb dX0_dueIn_0 rfl (lv_at hl 0 rfl) ?_
  refine va_get (D := D) (ci := 0) (v := .ref (ad (9 + 15 * i + 1))) (C := RX0) (T := TX0) (N := 9) hx hb hts (fun _ h => List.mem_cons_of_mem _ (List.mem_append_right _ (h))) hown hK hP (9 + 15 * i) (tp_eh hi) rfl 0 (by decide) (hts _ (List.mem_of_getElem? (i := 1) rfl)) (fun _ h9 => h9) rfl dX0_dueIn_1 ?_
  refine lv_iconst (v := 4) hx hb dX0_dueIn_4 (by decide) ?_
  refine tp_aald hx hb hK hP (9 + 15 * i + 1) 5 (4) (by omega) (tp_hVo i) (by decide) (by decide) (by decide) dX0_dueIn_5 ?_
  refine lv_iload_n hx hb dX0_dueIn_6 rfl (lv_at hl 1 rfl) ?_
  refine tp_iald hx hb hK hP (9 + 15 * i + 2 + 4) 48 (m0) (by omega) (tp_hV i (f := 4) (by decide)) rfl (by omega) (by decide) dX0_dueIn_7 ?_
  refine lv_ldc (v := 1600000) hx hb hown (hts _ (List.mem_of_getElem? (i := 2) rfl)) dX0_dueIn_8 ?_
  refine lv_icmp_le (tgt := 15) hx hb dX0_dueIn_10 (by decide) (fun c10_1 => ?_) (fun c10_1 => ?_)
  · refine lv_aload_n hx hb dX0_dueIn_15 rfl (lv_at hl 0 rfl) ?_
    refine lv_iload_n hx hb dX0_dueIn_16 rfl (lv_at hl 1 rfl) ?_
    refine tp_callV ⟨hx, hb, hml, hown, hts⟩ (hc_needIn l D cy n ad o I i hi m0 (by omega)) (cwV 1 hts gX0_dueIn_X0_needIn rfl rfl rfl (by decide +kernel) ⟨Nat.le_of_ble_eq_true rfl, Nat.le_of_ble_eq_true rfl⟩) hK hP hD hS hA (9 + 15 * i) 0 (tp_eh hi) rfl rfl rfl hl.1 rfl (Nat.le_of_ble_eq_true rfl) dX0_dueIn_17 ⟨Nat.zero_le _, Nat.zero_le _⟩ (fun I9 e9 H locs hP hD hS => ?_)
    subst e9
    refine lv_aload_n hx hb dX0_dueIn_20 rfl (lv_at hl 0 rfl) ?_
    refine lv_iload_n hx hb dX0_dueIn_21 rfl (lv_at hl 1 rfl) ?_
    refine tp_callV ⟨hx, hb, hml, hown, hts⟩ (hc_taperIn l D cy n ad o I i hi m0 (by omega)) (cwV 1 hts gX0_dueIn_X0_taperIn rfl rfl rfl (by decide +kernel) ⟨Nat.le_of_ble_eq_true rfl, Nat.le_of_ble_eq_true rfl⟩) hK hP hD hS hA (9 + 15 * i) 0 (tp_eh hi) rfl rfl rfl hl.1 rfl (Nat.le_of_ble_eq_true rfl) dX0_dueIn_22 ⟨Nat.zero_le _, Nat.zero_le _⟩ (fun I9 e9 H locs hP hD hS => ?_)
    subst e9
    refine lv_isub hx hb dX0_dueIn_25 ?_
    refine lv_aload_n hx hb dX0_dueIn_26 rfl (lv_at hl 0 rfl) ?_
    refine lv_iload_n hx hb dX0_dueIn_27 rfl (lv_at hl 1 rfl) ?_
    refine tp_callV ⟨hx, hb, hml, hown, hts⟩ (hc_tariffIn l D cy n ad o I i hi m0 (by omega)) (cwV 1 hts gX0_dueIn_X0_tariffIn rfl rfl rfl (by decide +kernel) ⟨Nat.le_of_ble_eq_true rfl, Nat.le_of_ble_eq_true rfl⟩) hK hP hD hS hA (9 + 15 * i) 0 (tp_eh hi) rfl rfl rfl hl.1 rfl (Nat.le_of_ble_eq_true rfl) dX0_dueIn_28 ⟨Nat.zero_le _, Nat.zero_le _⟩ (fun I9 e9 H locs hP hD hS => ?_)
    subst e9
    refine lv_isub hx hb dX0_dueIn_31 ?_
    refine lv_istore_n (lv' := [(2, .int (((tp_need I (9 + 15 * i) m0) - (tp_taper I (9 + 15 * i) m0)) - (tp_tariff I (9 + 15 * i) m0))), (0, .ref (ad (9 + 15 * i))), (1, .int (nI m0))]) hx hb dX0_dueIn_32 rfl hl (by decide) rfl (fun ls hl => ?_)
    refine lv_iload_n hx hb dX0_dueIn_33 rfl (lv_at hl 0 rfl) ?_
    refine lv_sipush (v := 500) hx hb dX0_dueIn_34 (by decide) ?_
    refine lv_icmp_ge (tgt := 44) hx hb dX0_dueIn_37 (by decide) (fun c37_2 => ?_) (fun c37_2 => ?_)
    · refine lv_iload_n hx hb dX0_dueIn_44 rfl (lv_at hl 0 rfl) ?_
      exact tp_reti hx hb hr hlocks hK hP hD hS rfl (by unfold tp_due; rw [if_pos c10_1, if_pos c37_2]) rfl dX0_dueIn_45
    · refine lv_iconst (v := 0) hx hb dX0_dueIn_40 (by decide) ?_
      refine lv_goto (tgt := 45) hx hb dX0_dueIn_41 (by decide) ?_
      exact tp_reti hx hb hr hlocks hK hP hD hS rfl (by unfold tp_due; rw [if_pos c10_1, if_neg c37_2]) rfl dX0_dueIn_45
  · refine lv_iconst (v := 0) hx hb dX0_dueIn_13 (by decide) ?_
    exact tp_reti hx hb hr hlocks hK hP hD hS rfl (by unfold tp_due; rw [if_neg c10_1]) rfl dX0_dueIn_14
set_option maxHeartbeats 4000000 in
set_option maxRecDepth 100000 in
/-- unassessedBefore(end) -/
theorem hc_unassessedBefore (l : Launch) (D : va_G) (cy : Nat → ClassId) (n : Nat) (ad : Nat → Nat) (o : Int64) (I : Nat → Nat → Int32) (i : Nat) (hi : i < n) (a0 e0 : Nat) (ha : I (9 + 15 * i) 3 = nI a0) (ha8 : a0 ≤ 48) (he8 : e0 ≤ 48) : tp_I l yX0_unassessedBefore wsX0_unassessedBefore (tp_rm 3 66) D cy n ad o [.ref (ad (9 + 15 * i)), .int (nI e0)] I (tp_open I (9 + 15 * i) a0 e0) (I) := by
  refine tp_ofI (lv := [(0, .ref (ad (9 + 15 * i))), (1, .int (nI e0))]) (by decide) rfl (Nat.le_of_ble_eq_true rfl) rfl (fun p e s m args below meth c A ls S0 => ?_)
  obtain ⟨hx, hb, hr, hml, hown, hts, hlocks, hA, hK, hP, hD, hS, hl⟩ := S0
  refine lv_iconst (v := 0) hx hb dX0_unassessedBefore_0 (by decide) ?_
  refine lv_istore_n (lv' := [(2, .int 0), (0, .ref (ad (9 + 15 * i))), (1, .int (nI e0))]) hx hb dX0_unassessedBefore_1 rfl hl (by decide) rfl (fun ls hl => ?_)
  refine lv_aload_n hx hb dX0_unassessedBefore_2 rfl (lv_at hl 1 rfl) ?_
  refine va_get (D := D) (ci := 0) (v := .int (I (9 + 15 * i) 3)) (C := RX0) (T := TX0) (N := 9) hx hb hts (fun _ h => List.mem_cons_of_mem _ (List.mem_append_right _ (h))) hown hK hP (9 + 15 * i) (tp_eh hi) rfl 3 (by decide) (hts _ (List.mem_of_getElem? (i := 1) rfl)) (fun _ h9 => h9) rfl dX0_unassessedBefore_3 ?_
  rw [ha]
  refine lv_istore_n (lv' := [(3, .int (nI a0)), (2, .int 0), (0, .ref (ad (9 + 15 * i))), (1, .int (nI e0))]) hx hb dX0_unassessedBefore_6 rfl hl (by decide) rfl (fun ls hl => ?_)
  refine tp_for (nL := 4) (e0 - a0) (fun _ => I) (fun t => [(3, .int (nI (a0 + t))), (2, .int (tp_sum (fun m => tp_due I (9 + 15 * i) m - I (9 + 15 * i + 13) m) a0 t)), (0, .ref (ad (9 + 15 * i))), (1, .int (nI e0))]) (fun t ht ls H locs hl hP hD hS ih => ?_) (fun ls H locs hl hP hD hS => ?_) hl hP hD hS
  · refine lv_iload_n hx hb dX0_unassessedBefore_7 rfl (lv_at hl 0 rfl) ?_
    refine lv_iload_n hx hb dX0_unassessedBefore_8 rfl (lv_at hl 3 rfl) ?_
    refine lv_icmp_ge (tgt := 33) hx hb dX0_unassessedBefore_9 (by decide) (fun c9_1 => ?_) (fun c9_1 => ?_)
    · exact absurd c9_1 (nI_ge (by omega) (by omega))
    · refine lv_iload_n hx hb dX0_unassessedBefore_12 rfl (lv_at hl 1 rfl) ?_
      refine lv_aload_n hx hb dX0_unassessedBefore_13 rfl (lv_at hl 2 rfl) ?_
      refine lv_iload_n hx hb dX0_unassessedBefore_14 rfl (lv_at hl 0 rfl) ?_
      refine tp_callV ⟨hx, hb, hml, hown, hts⟩ (hc_dueIn l D cy n ad o I i hi (a0 + t) (by omega)) (cwV 1 hts gX0_unassessedBefore_X0_dueIn rfl rfl rfl (by decide +kernel) ⟨Nat.le_of_ble_eq_true rfl, Nat.le_of_ble_eq_true rfl⟩) hK hP hD hS hA (9 + 15 * i) 0 (tp_eh hi) rfl rfl rfl hl.1 rfl (Nat.le_of_ble_eq_true rfl) dX0_unassessedBefore_15 ⟨Nat.zero_le _, Nat.zero_le _⟩ (fun I9 e9 H locs hP hD hS => ?_)
      subst e9
      refine lv_aload_n hx hb dX0_unassessedBefore_18 rfl (lv_at hl 2 rfl) ?_
      refine va_get (D := D) (ci := 0) (v := .ref (ad (9 + 15 * i + 13))) (C := RX0) (T := TX0) (N := 9) hx hb hts (fun _ h => List.mem_cons_of_mem _ (List.mem_append_right _ (h))) hown hK hP (9 + 15 * i) (tp_eh hi) rfl 4 (by decide) (hts _ (List.mem_of_getElem? (i := 2) rfl)) (fun _ h9 => h9) rfl dX0_unassessedBefore_19 ?_
      refine lv_iload_n hx hb dX0_unassessedBefore_22 rfl (lv_at hl 0 rfl) ?_
      refine tp_iald hx hb hK hP (9 + 15 * i + 13) 48 ((a0 + t)) (by omega) (tp_hA i) rfl (by omega) (by decide) dX0_unassessedBefore_23 ?_
      refine lv_isub hx hb dX0_unassessedBefore_24 ?_
      refine lv_iadd hx hb dX0_unassessedBefore_25 ?_
      refine lv_istore_n (lv' := [(2, .int ((tp_sum (fun m => tp_due I (9 + 15 * i) m - I (9 + 15 * i + 13) m) a0 t) + ((tp_due I (9 + 15 * i) (a0 + t)) - (I (9 + 15 * i + 13) (a0 + t))))), (3, .int (nI (a0 + t))), (0, .ref (ad (9 + 15 * i))), (1, .int (nI e0))]) hx hb dX0_unassessedBefore_26 rfl hl (by decide) rfl (fun ls hl => ?_)
      refine lv_iinc (v := (nI ((a0 + t) + 1))) (lv' := [(3, .int (nI ((a0 + t) + 1))), (2, .int ((tp_sum (fun m => tp_due I (9 + 15 * i) m - I (9 + 15 * i + 13) m) a0 t) + ((tp_due I (9 + 15 * i) (a0 + t)) - (I (9 + 15 * i + 13) (a0 + t))))), (0, .ref (ad (9 + 15 * i))), (1, .int (nI e0))]) hx hb dX0_unassessedBefore_27 hl (k := 1) rfl (nI_1 _) (by decide) rfl (fun ls hl => ?_)
      refine lv_goto (tgt := 7) hx hb dX0_unassessedBefore_30 (by decide) ?_
      exact ih ls H locs (lv_sub hl [0, 1, 2, 3] rfl) hP hD hS
  · refine lv_iload_n hx hb dX0_unassessedBefore_7 rfl (lv_at hl 0 rfl) ?_
    refine lv_iload_n hx hb dX0_unassessedBefore_8 rfl (lv_at hl 3 rfl) ?_
    refine lv_icmp_ge (tgt := 33) hx hb dX0_unassessedBefore_9 (by decide) (fun c9_1 => ?_) (fun c9_1 => ?_)
    · refine lv_iload_n hx hb dX0_unassessedBefore_33 rfl (lv_at hl 1 rfl) ?_
      exact tp_reti hx hb hr hlocks hK hP hD hS rfl rfl rfl dX0_unassessedBefore_34
    · exact absurd (nI_le (by omega) (by omega)) c9_1
set_option maxHeartbeats 4000000 in
set_option maxRecDepth 100000 in
/-- owedAfter -/
theorem hc_owedAfter (l : Launch) (D : va_G) (cy : Nat → ClassId) (n : Nat) (ad : Nat → Nat) (o : Int64) (I : Nat → Nat → Int32) (i : Nat) (hi : i < n) (x : Int32) : tp_I l yX0_owedAfter wsX0_owedAfter (tp_rm 1 21) D cy n ad o [.ref (ad (9 + 15 * i)), .int x] I (tp_owed I (9 + 15 * i) x) (I) := by
  refine tp_ofI (lv := [(0, .ref (ad (9 + 15 * i))), (1, .int x)]) (by decide) rfl (Nat.le_of_ble_eq_true rfl) rfl (fun p e s m args below meth c A ls S0 => ?_)
  obtain ⟨hx, hb, hr, hml, hown, hts, hlocks, hA, hK, hP, hD, hS, hl⟩ := S0
  refine lv_iconst (v := 0) hx hb dX0_owedAfter_0 (by decide) ?_
  refine lv_aload_n hx hb dX0_owedAfter_1 rfl (lv_at hl 0 rfl) ?_
  refine va_get (D := D) (ci := 0) (v := .int (I (9 + 15 * i) 6)) (C := RX0) (T := TX0) (N := 9) hx hb hts (fun _ h => List.mem_cons_of_mem _ (List.mem_append_right _ (h))) hown hK hP (9 + 15 * i) (tp_eh hi) rfl 6 (by decide) (hts _ (List.mem_of_getElem? (i := 1) rfl)) (fun _ h9 => h9) rfl dX0_owedAfter_2 ?_
  refine lv_iload_n hx hb dX0_owedAfter_5 rfl (lv_at hl 1 rfl) ?_
  refine lv_isub hx hb dX0_owedAfter_6 ?_
  refine va_mmax hx hb (hml.trans hl.1.symm) hown (hts _ (List.mem_of_getElem? (i := 2) rfl)) (hts _ (List.mem_of_getElem? (i := 3) rfl)) (hts _ (List.mem_of_getElem? (i := 4) rfl)) (hts _ (List.mem_of_getElem? (i := 5) rfl)) (Nat.le_of_ble_eq_true rfl) (Nat.le_of_ble_eq_true rfl) (Nat.zero_le _) (Nat.zero_le _) dX0_owedAfter_7 ?_
  exact tp_reti hx hb hr hlocks hK hP hD hS rfl rfl rfl dX0_owedAfter_10
set_option maxHeartbeats 4000000 in
set_option maxRecDepth 100000 in
/-- arrearsOf -/
theorem hc_arrearsOf (l : Launch) (D : va_G) (cy : Nat → ClassId) (n : Nat) (ad : Nat → Nat) (o : Int64) (I : Nat → Nat → Int32) (i : Nat) (hi : i < n) (x : Int32) : tp_I l yX0_arrearsOf wsX0_arrearsOf (tp_rm 1 21) D cy n ad o [.ref (ad (9 + 15 * i)), .int x] I (tp_arr I (9 + 15 * i) x) (I) := by
  refine tp_ofI (lv := [(0, .ref (ad (9 + 15 * i))), (1, .int x)]) (by decide) rfl (Nat.le_of_ble_eq_true rfl) rfl (fun p e s m args below meth c A ls S0 => ?_)
  obtain ⟨hx, hb, hr, hml, hown, hts, hlocks, hA, hK, hP, hD, hS, hl⟩ := S0
  refine lv_iconst (v := 0) hx hb dX0_arrearsOf_0 (by decide) ?_
  refine lv_iload_n hx hb dX0_arrearsOf_1 rfl (lv_at hl 1 rfl) ?_
  refine lv_aload_n hx hb dX0_arrearsOf_2 rfl (lv_at hl 0 rfl) ?_
  refine va_get (D := D) (ci := 0) (v := .int (I (9 + 15 * i) 6)) (C := RX0) (T := TX0) (N := 9) hx hb hts (fun _ h => List.mem_cons_of_mem _ (List.mem_append_right _ (h))) hown hK hP (9 + 15 * i) (tp_eh hi) rfl 6 (by decide) (hts _ (List.mem_of_getElem? (i := 1) rfl)) (fun _ h9 => h9) rfl dX0_arrearsOf_3 ?_
  refine lv_isub hx hb dX0_arrearsOf_6 ?_
  refine va_mmax hx hb (hml.trans hl.1.symm) hown (hts _ (List.mem_of_getElem? (i := 2) rfl)) (hts _ (List.mem_of_getElem? (i := 3) rfl)) (hts _ (List.mem_of_getElem? (i := 4) rfl)) (hts _ (List.mem_of_getElem? (i := 5) rfl)) (Nat.le_of_ble_eq_true rfl) (Nat.le_of_ble_eq_true rfl) (Nat.zero_le _) (Nat.zero_le _) dX0_arrearsOf_7 ?_
  exact tp_reti hx hb hr hlocks hK hP hD hS rfl rfl rfl dX0_arrearsOf_10
set_option maxHeartbeats 4000000 in
set_option maxRecDepth 100000 in
/-- recoverableIn(month, owed) -/
theorem hc_recoverableIn (l : Launch) (D : va_G) (cy : Nat → ClassId) (n : Nat) (ad : Nat → Nat) (o : Int64) (I : Nat → Nat → Int32) (i : Nat) (hi : i < n) (m0 : Nat) (hm : m0 < 48) (x : Int32) : tp_I l yX0_recoverableIn wsX0_recoverableIn (tp_rm 3 66) D cy n ad o [.ref (ad (9 + 15 * i)), .int (nI m0), .int x] I (tp_rec I (9 + 15 * i) m0 x) (I) := by
  refine tp_ofI (lv := [(0, .ref (ad (9 + 15 * i))), (1, .int (nI m0)), (2, .int x)]) (by decide) rfl (Nat.le_of_ble_eq_true rfl) rfl (fun p e s m args below meth c A ls S0 => ?_)
  obtain ⟨hx, hb, hr, hml, hown, hts, hlocks, hA, hK, hP, hD, hS, hl⟩ := S0
  refine lv_aload_n hx hb dX0_recoverableIn_0 rfl (lv_at hl 0 rfl) ?_
  refine va_get (D := D) (ci := 0) (v := .int (I (9 + 15 * i) 8)) (C := RX0) (T := TX0) (N := 9) hx hb hts (fun _ h => List.mem_cons_of_mem _ (List.mem_append_right _ (h))) hown hK hP (9 + 15 * i) (tp_eh hi) rfl 8 (by decide) (hts _ (List.mem_of_getElem? (i := 1) rfl)) (fun _ h9 => h9) rfl dX0_recoverableIn_1 ?_
  refine lv_if_eq (tgt := 9) hx hb dX0_recoverableIn_4 (by decide) (fun c4_1 => ?_) (fun c4_1 => ?_)
  · refine lv_aload_n hx hb dX0_recoverableIn_9 rfl (lv_at hl 0 rfl) ?_
    refine lv_iload_n hx hb dX0_recoverableIn_10 rfl (lv_at hl 1 rfl) ?_
    refine tp_callV ⟨hx, hb, hml, hown, hts⟩ (hc_dueIn l D cy n ad o I i hi m0 (by omega)) (cwV 1 hts gX0_recoverableIn_X0_dueIn rfl rfl rfl (by decide +kernel) ⟨Nat.le_of_ble_eq_true rfl, Nat.le_of_ble_eq_true rfl⟩) hK hP hD hS hA (9 + 15 * i) 0 (tp_eh hi) rfl rfl rfl hl.1 rfl (Nat.le_of_ble_eq_true rfl) dX0_recoverableIn_11 ⟨Nat.zero_le _, Nat.zero_le _⟩ (fun I9 e9 H locs hP hD hS => ?_)
    subst e9
    refine lv_istore_n (lv' := [(3, .int (tp_due I (9 + 15 * i) m0)), (0, .ref (ad (9 + 15 * i))), (1, .int (nI m0)), (2, .int x)]) hx hb dX0_recoverableIn_14 rfl hl (by decide) rfl (fun ls hl => ?_)
    refine lv_iload_n hx hb dX0_recoverableIn_15 rfl (lv_at hl 0 rfl) ?_
    refine lv_bipush (v := 15) hx hb dX0_recoverableIn_16 (by decide) ?_
    refine lv_imul hx hb dX0_recoverableIn_18 ?_
    refine lv_bipush (v := 100) hx hb dX0_recoverableIn_19 (by decide) ?_
    refine lv_idiv hx hb dX0_recoverableIn_21 (by decide) ?_
    refine lv_istore (lv' := [(4, .int (((tp_due I (9 + 15 * i) m0) * 15) / 100)), (3, .int (tp_due I (9 + 15 * i) m0)), (0, .ref (ad (9 + 15 * i))), (1, .int (nI m0)), (2, .int x)]) hx hb dX0_recoverableIn_22 hl (by decide) rfl (fun ls hl => ?_)
    refine lv_iconst (v := 0) hx hb dX0_recoverableIn_24 (by decide) ?_
    refine lv_iload_n hx hb dX0_recoverableIn_25 rfl (lv_at hl 1 rfl) ?_
    refine lv_aload_n hx hb dX0_recoverableIn_26 rfl (lv_at hl 2 rfl) ?_
    refine va_get (D := D) (ci := 0) (v := .ref (ad (9 + 15 * i + 1))) (C := RX0) (T := TX0) (N := 9) hx hb hts (fun _ h => List.mem_cons_of_mem _ (List.mem_append_right _ (h))) hown hK hP (9 + 15 * i) (tp_eh hi) rfl 0 (by decide) (hts _ (List.mem_of_getElem? (i := 2) rfl)) (fun _ h9 => h9) rfl dX0_recoverableIn_27 ?_
    refine lv_iconst (v := 3) hx hb dX0_recoverableIn_30 (by decide) ?_
    refine tp_aald hx hb hK hP (9 + 15 * i + 1) 5 (3) (by omega) (tp_hVo i) (by decide) (by decide) (by decide) dX0_recoverableIn_31 ?_
    refine lv_iload_n hx hb dX0_recoverableIn_32 rfl (lv_at hl 3 rfl) ?_
    refine tp_iald hx hb hK hP (9 + 15 * i + 2 + 3) 48 (m0) (by omega) (tp_hV i (f := 3) (by decide)) rfl (by omega) (by decide) dX0_recoverableIn_33 ?_
    refine lv_iadd hx hb dX0_recoverableIn_34 ?_
    refine lv_sipush (v := 25000) hx hb dX0_recoverableIn_35 (by decide) ?_
    refine lv_isub hx hb dX0_recoverableIn_38 ?_
    refine va_mmax hx hb (hml.trans hl.1.symm) hown (hts _ (List.mem_of_getElem? (i := 3) rfl)) (hts _ (List.mem_of_getElem? (i := 4) rfl)) (hts _ (List.mem_of_getElem? (i := 5) rfl)) (hts _ (List.mem_of_getElem? (i := 6) rfl)) (Nat.le_of_ble_eq_true rfl) (Nat.le_of_ble_eq_true rfl) (Nat.zero_le _) (Nat.zero_le _) dX0_recoverableIn_39 ?_
    refine lv_istore (lv' := [(5, .int (if 0 < (((tp_due I (9 + 15 * i) m0) + (I (9 + 15 * i + 2 + 3) m0)) - 25000) then (((tp_due I (9 + 15 * i) m0) + (I (9 + 15 * i + 2 + 3) m0)) - 25000) else 0)), (4, .int (((tp_due I (9 + 15 * i) m0) * 15) / 100)), (3, .int (tp_due I (9 + 15 * i) m0)), (0, .ref (ad (9 + 15 * i))), (1, .int (nI m0)), (2, .int x)]) hx hb dX0_recoverableIn_42 hl (by decide) rfl (fun ls hl => ?_)
    refine lv_iload_n hx hb dX0_recoverableIn_44 rfl (lv_at hl 5 rfl) ?_
    refine lv_iload hx hb dX0_recoverableIn_45 (lv_at hl 1 rfl) ?_
    refine lv_iload hx hb dX0_recoverableIn_47 (lv_at hl 0 rfl) ?_
    refine va_mmin hx hb (hml.trans hl.1.symm) hown (hts _ (List.mem_of_getElem? (i := 7) rfl)) (hts _ (List.mem_of_getElem? (i := 8) rfl)) (hts _ (List.mem_of_getElem? (i := 5) rfl)) (hts _ (List.mem_of_getElem? (i := 9) rfl)) (Nat.le_of_ble_eq_true rfl) (Nat.le_of_ble_eq_true rfl) (Nat.zero_le _) (Nat.zero_le _) dX0_recoverableIn_49 ?_
    refine va_mmin hx hb (hml.trans hl.1.symm) hown (hts _ (List.mem_of_getElem? (i := 7) rfl)) (hts _ (List.mem_of_getElem? (i := 8) rfl)) (hts _ (List.mem_of_getElem? (i := 5) rfl)) (hts _ (List.mem_of_getElem? (i := 9) rfl)) (Nat.le_of_ble_eq_true rfl) (Nat.le_of_ble_eq_true rfl) (Nat.zero_le _) (Nat.zero_le _) dX0_recoverableIn_52 ?_
    exact tp_reti hx hb hr hlocks hK hP hD hS rfl (by unfold tp_rec; rw [if_pos c4_1]; rfl) rfl dX0_recoverableIn_55
  · refine lv_iconst (v := 0) hx hb dX0_recoverableIn_7 (by decide) ?_
    exact tp_reti hx hb hr hlocks hK hP hD hS rfl (by unfold tp_rec; rw [if_neg c4_1]) rfl dX0_recoverableIn_8
set_option maxHeartbeats 4000000 in
set_option maxRecDepth 100000 in
/-- paymentIn(month) -/
theorem hc_paymentIn (l : Launch) (D : va_G) (cy : Nat → ClassId) (n : Nat) (ad : Nat → Nat) (o : Int64) (I : Nat → Nat → Int32) (i : Nat) (hi : i < n) (a0 m0 : Nat) (ha : I (9 + 15 * i) 3 = nI a0) (ha8 : a0 ≤ 48) (hm : m0 < 48) : tp_I l yX0_paymentIn wsX0_paymentIn (tp_rm 4 91) D cy n ad o [.ref (ad (9 + 15 * i)), .int (nI m0)] I (tp_paym I (9 + 15 * i) a0 m0) (I) := by
  refine tp_ofI (lv := [(0, .ref (ad (9 + 15 * i))), (1, .int (nI m0))]) (by decide) rfl (Nat.le_of_ble_eq_true rfl) rfl (fun p e s m args below meth c A ls S0 => ?_)
  obtain ⟨hx, hb, hr, hml, hown, hts, hlocks, hA, hK, hP, hD, hS, hl⟩ := S0
  refine lv_aload_n hx hb dX0_paymentIn_0 rfl (lv_at hl 0 rfl) ?_
  refine lv_iload_n hx hb dX0_paymentIn_1 rfl (lv_at hl 1 rfl) ?_
  refine tp_callV ⟨hx, hb, hml, hown, hts⟩ (hc_unassessedBefore l D cy n ad o I i hi a0 m0 ha (by omega) (by omega)) (cwV 1 hts gX0_paymentIn_X0_unassessedBefore rfl rfl rfl (by decide +kernel) ⟨Nat.le_of_ble_eq_true rfl, Nat.le_of_ble_eq_true rfl⟩) hK hP hD hS hA (9 + 15 * i) 0 (tp_eh hi) rfl rfl rfl hl.1 rfl (Nat.le_of_ble_eq_true rfl) dX0_paymentIn_2 ⟨Nat.zero_le _, Nat.zero_le _⟩ (fun I9 e9 H locs hP hD hS => ?_)
  subst e9
  refine lv_istore_n (lv' := [(2, .int (tp_open I (9 + 15 * i) a0 m0)), (0, .ref (ad (9 + 15 * i))), (1, .int (nI m0))]) hx hb dX0_paymentIn_5 rfl hl (by decide) rfl (fun ls hl => ?_)
  refine lv_aload_n hx hb dX0_paymentIn_6 rfl (lv_at hl 1 rfl) ?_
  refine lv_iload_n hx hb dX0_paymentIn_7 rfl (lv_at hl 2 rfl) ?_
  refine lv_aload_n hx hb dX0_paymentIn_8 rfl (lv_at hl 1 rfl) ?_
  refine lv_iload_n hx hb dX0_paymentIn_9 rfl (lv_at hl 0 rfl) ?_
  refine tp_callV ⟨hx, hb, hml, hown, hts⟩ (hc_owedAfter l D cy n ad o I i hi (tp_open I (9 + 15 * i) a0 m0)) (cwV 1 hts gX0_paymentIn_X0_owedAfter rfl rfl rfl (by decide +kernel) ⟨Nat.le_of_ble_eq_true rfl, Nat.le_of_ble_eq_true rfl⟩) hK hP hD hS hA (9 + 15 * i) 0 (tp_eh hi) rfl rfl rfl hl.1 rfl (Nat.le_of_ble_eq_true rfl) dX0_paymentIn_10 ⟨Nat.zero_le _, Nat.zero_le _⟩ (fun I9 e9 H locs hP hD hS => ?_)
  subst e9
  refine tp_callV ⟨hx, hb, hml, hown, hts⟩ (hc_recoverableIn l D cy n ad o I i hi m0 (by omega) (tp_owed I (9 + 15 * i) (tp_open I (9 + 15 * i) a0 m0))) (cwV 2 hts gX0_paymentIn_X0_recoverableIn rfl rfl rfl (by decide +kernel) ⟨Nat.le_of_ble_eq_true rfl, Nat.le_of_ble_eq_true rfl⟩) hK hP hD hS hA (9 + 15 * i) 0 (tp_eh hi) rfl rfl rfl hl.1 rfl (Nat.le_of_ble_eq_true rfl) dX0_paymentIn_13 ⟨Nat.zero_le _, Nat.zero_le _⟩ (fun I9 e9 H locs hP hD hS => ?_)
  subst e9
  refine lv_istore_n (lv' := [(3, .int (tp_rec I (9 + 15 * i) m0 (tp_owed I (9 + 15 * i) (tp_open I (9 + 15 * i) a0 m0)))), (2, .int (tp_open I (9 + 15 * i) a0 m0)), (0, .ref (ad (9 + 15 * i))), (1, .int (nI m0))]) hx hb dX0_paymentIn_16 rfl hl (by decide) rfl (fun ls hl => ?_)
  refine lv_aload_n hx hb dX0_paymentIn_17 rfl (lv_at hl 2 rfl) ?_
  refine lv_iload_n hx hb dX0_paymentIn_18 rfl (lv_at hl 3 rfl) ?_
  refine tp_callV ⟨hx, hb, hml, hown, hts⟩ (hc_dueIn l D cy n ad o I i hi m0 (by omega)) (cwV 1 hts gX0_paymentIn_X0_dueIn rfl rfl rfl (by decide +kernel) ⟨Nat.le_of_ble_eq_true rfl, Nat.le_of_ble_eq_true rfl⟩) hK hP hD hS hA (9 + 15 * i) 0 (tp_eh hi) rfl rfl rfl hl.1 rfl (Nat.le_of_ble_eq_true rfl) dX0_paymentIn_19 ⟨Nat.zero_le _, Nat.zero_le _⟩ (fun I9 e9 H locs hP hD hS => ?_)
  subst e9
  refine lv_iload_n hx hb dX0_paymentIn_22 rfl (lv_at hl 0 rfl) ?_
  refine lv_isub hx hb dX0_paymentIn_23 ?_
  refine lv_aload_n hx hb dX0_paymentIn_24 rfl (lv_at hl 2 rfl) ?_
  refine lv_iload_n hx hb dX0_paymentIn_25 rfl (lv_at hl 1 rfl) ?_
  refine tp_callV ⟨hx, hb, hml, hown, hts⟩ (hc_arrearsOf l D cy n ad o I i hi (tp_open I (9 + 15 * i) a0 m0)) (cwV 1 hts gX0_paymentIn_X0_arrearsOf rfl rfl rfl (by decide +kernel) ⟨Nat.le_of_ble_eq_true rfl, Nat.le_of_ble_eq_true rfl⟩) hK hP hD hS hA (9 + 15 * i) 0 (tp_eh hi) rfl rfl rfl hl.1 rfl (Nat.le_of_ble_eq_true rfl) dX0_paymentIn_26 ⟨Nat.zero_le _, Nat.zero_le _⟩ (fun I9 e9 H locs hP hD hS => ?_)
  subst e9
  refine lv_iadd hx hb dX0_paymentIn_29 ?_
  exact tp_reti hx hb hr hlocks hK hP hD hS rfl rfl rfl dX0_paymentIn_30
end
section
/-! STRETCHES OF AN ARRAY FILLED, and what doesn't depend on them -/
def tp_fill (I : Nat → Nat → Int32) (c lo : Nat) (g : Nat → Int32) (s : Nat) : Nat → Nat → Int32 := va_up I c (fun j => if lo ≤ j ∧ j < lo + s then g (j - lo) else I c j)
theorem tp_fill_oth {I : Nat → Nat → Int32} {c lo a : Nat} {g : Nat → Int32} {s : Nat} (h : a ≠ c) : tp_fill I c lo g s a = I a := va_up_ne I _ h
theorem tp_fill_at {I : Nat → Nat → Int32} {c lo : Nat} {g : Nat → Int32} {s : Nat} : tp_fill I c lo g s c = fun j => if lo ≤ j ∧ j < lo + s then g (j - lo) else I c j := va_up_self I c _
theorem tp_fill_0 {I : Nat → Nat → Int32} {c lo : Nat} {g : Nat → Int32} : tp_fill I c lo g 0 = I := by
  funext a
  by_cases h : a = c
  · subst h
    rw [tp_fill_at]
    funext j
    rw [if_neg (by omega)]
  · rw [tp_fill_oth h]
theorem tp_fill_s {I : Nat → Nat → Int32} {c lo : Nat} {g : Nat → Int32} {s : Nat} {x : Int32} (hx : x = g s) : tp_u (tp_fill I c lo g s) c (lo + s) x = tp_fill I c lo g (s + 1) := by
  subst hx
  funext a
  by_cases h : a = c
  · subst h
    rw [tp_u_at, tp_fill_at, tp_fill_at]
    funext j
    unfold upd
    dsimp only
    by_cases hj : j = lo + s
    · subst hj
      rw [if_pos rfl, if_pos (by omega), Nat.add_sub_cancel_left]
    · rw [if_neg hj]
      by_cases h2 : lo ≤ j ∧ j < lo + s
      · rw [if_pos h2, if_pos (by omega)]
      · rw [if_neg h2, if_neg (by omega)]
  · rw [tp_u_oth h, tp_fill_oth h, tp_fill_oth h]
/-- two arrays side by side -/
theorem tp_fill_s2 {I : Nat → Nat → Int32} {c c2 lo : Nat} {g g2 : Nat → Int32} {s : Nat} {x x2 : Int32} (hne : c ≠ c2) (hx : x = g s) (hx2 : x2 = g2 s) : tp_u (tp_u (tp_fill (tp_fill I c lo g s) c2 lo g2 s) c (lo + s) x) c2 (lo + s) x2 = tp_fill (tp_fill I c lo g (s + 1)) c2 lo g2 (s + 1) := by
  have e : tp_u (tp_fill (tp_fill I c lo g s) c2 lo g2 s) c (lo + s) x = tp_fill (tp_fill I c lo g (s + 1)) c2 lo g2 s := by
    rw [← tp_fill_s hx]
    funext a
    by_cases h : a = c
    · subst h
      rw [tp_u_at, tp_fill_oth hne, tp_fill_oth hne, tp_u_at]
    · rw [tp_u_oth h]
      by_cases h2 : a = c2
      · subst h2
        rw [tp_fill_at, tp_fill_at, tp_u_oth h]
      · rw [tp_fill_oth h2, tp_fill_oth h2, tp_u_oth h]
  rw [e]
  exact tp_fill_s hx2
theorem tp_sum_cong {g g2 : Nat → Int32} (a : Nat) : ∀ k : Nat, (∀ m, a ≤ m → m < a + k → g m = g2 m) → tp_sum g a k = tp_sum g2 a k
  | 0, _ => rfl
  | k + 1, h => by
    show tp_sum g a k + g (a + k) = tp_sum g2 a k + g2 (a + k)
    rw [tp_sum_cong a k (fun m h1 h2 => h m h1 (by omega)), h (a + k) (by omega) (by omega)]
/-- a household's facts alone count for what is due -/
theorem tp_due_cong {I J : Nat → Nat → Int32} {b m : Nat} (h : ∀ f, f < 5 → I (b + 2 + f) = J (b + 2 + f)) : tp_due I b m = tp_due J b m := by
  unfold tp_due tp_need tp_taper tp_tariff
  rw [h 0 (by omega), h 1 (by omega), h 2 (by omega), h 3 (by omega), h 4 (by omega)]
theorem tp_due_u {I : Nat → Nat → Int32} {b m k j : Nat} {x : Int32} (h : ∀ f, f < 5 → b + 2 + f ≠ k) : tp_due (tp_u I k j x) b m = tp_due I b m := tp_due_cong (fun f hf => tp_u_oth (h f hf))
theorem tp_due_fill {I : Nat → Nat → Int32} {b m c lo s : Nat} {g : Nat → Int32} (h : ∀ f, f < 5 → b + 2 + f ≠ c) : tp_due (tp_fill I c lo g s) b m = tp_due I b m := tp_due_cong (fun f hf => tp_fill_oth (h f hf))
/-! CLOSING -/
/-- a household settled: b its first cell, a its first month, m the current one -/
def tp_settle (I : Nat → Nat → Int32) (b a m : Nat) : Nat → Nat → Int32 :=
  tp_u (tp_fill (tp_u (tp_u (tp_u I b 6 (tp_owed I b (tp_open I b a m))) b 6 (tp_owed I b (tp_open I b a m) - tp_rec I b m (tp_owed I b (tp_open I b a m)))) b 7 (I b 7 + tp_rec I b m (tp_owed I b (tp_open I b a m)))) (b + 13) a (fun s => tp_due I b (a + s)) (m + 1 - a)) (b + 14) m (tp_paym I b a m)
/-- a change entered, up to the month lo + s -/
def tp_chg (I : Nat → Nat → Int32) (b f lo : Nat) (v : Int32) (s : Nat) : Nat → Nat → Int32 :=
  tp_fill (tp_fill (tp_u I b 2 (I b 2 + 1)) (b + 2 + f) lo (fun _ => v) s) (b + 8 + f) lo (fun _ => nI lo) s
theorem tp_rec_u {I : Nat → Nat → Int32} {b m : Nat} {x y : Int32} : tp_rec (tp_u I b 6 x) b m y = tp_rec I b m y := by
  unfold tp_rec
  rw [tp_due_u (fun f hf => by omega), tp_u_n (by decide), tp_u_oth (a := b + 2 + 3) (k := b) (by omega)]
theorem tp_eqV {l : Launch} {y : MethodName} {ws : List Cond} {rm : Room} {D : va_G} {cy : Nat → ClassId} {n : Nat} {ad : Nat → Nat} {o : Int64} {as : List Value} {I I1 I2 : Nat → Nat → Int32} (h : tp_V l y ws rm D cy n ad o as I I1) (hI : I1 = I2) : tp_V l y ws rm D cy n ad o as I I2 := by
  subst hI
  exact h
/-- what stands behind the filled stretch -/
theorem tp_fill_up {I : Nat → Nat → Int32} {c lo s j : Nat} {g : Nat → Int32} (h : lo + s ≤ j) : tp_fill I c lo g s c j = I c j := by
  rw [tp_fill_at]
  exact if_neg (by omega)
end
section
set_option maxHeartbeats 4000000 in
set_option maxRecDepth 100000 in
/-- lowerDebt(cents) -/
theorem hc_lowerDebt (l : Launch) (D : va_G) (cy : Nat → ClassId) (n : Nat) (ad : Nat → Nat) (o : Int64) (I : Nat → Nat → Int32) (i : Nat) (hi : i < n) (x : Int32) : tp_V l yX0_lowerDebt wsX0_lowerDebt (tp_rm 0 0) D cy n ad o [.ref (ad (9 + 15 * i)), .int x] I (tp_u (tp_u I (9 + 15 * i) 6 (I (9 + 15 * i) 6 - x)) (9 + 15 * i) 7 (I (9 + 15 * i) 7 + x)) := by
  refine tp_ofV (lv := [(0, .ref (ad (9 + 15 * i))), (1, .int x)]) (by decide) rfl (Nat.le_of_ble_eq_true rfl) rfl (fun p e s m args below meth c A ls S0 => ?_)
  obtain ⟨hx, hb, hr, hml, hown, hts, hlocks, hA, hK, hP, hD, hS, hl⟩ := S0
  refine lv_aload_n hx hb dX0_lowerDebt_0 rfl (lv_at hl 0 rfl) ?_
  refine lv_dup hx hb dX0_lowerDebt_1 rfl ?_
  refine va_get (D := D) (ci := 0) (v := .int (I (9 + 15 * i) 6)) (C := RX0) (T := TX0) (N := 9) hx hb hts (fun _ h => List.mem_cons_of_mem _ (List.mem_append_right _ (h))) hown hK hP (9 + 15 * i) (tp_eh hi) rfl 6 (by decide) (hts _ (List.mem_of_getElem? (i := 1) rfl)) (fun _ h9 => h9) rfl dX0_lowerDebt_2 ?_
  refine lv_iload_n hx hb dX0_lowerDebt_5 rfl (lv_at hl 1 rfl) ?_
  refine lv_isub hx hb dX0_lowerDebt_6 ?_
  refine tp_put (ci := 0) (v := ((I (9 + 15 * i) 6) - x)) (ty := .int) (C := RX0) (T := TX0) (N := 9) hx hb hts (fun _ h => List.mem_cons_of_mem _ (List.mem_append_right _ (h))) tyX0 tyX0_ok nmX0 hown hK hP hD hS (9 + 15 * i) (tp_eh hi) (by omega) rfl 6 (by decide) (hts _ (List.mem_of_getElem? (i := 1) rfl)) rfl (by decide +kernel) rfl rfl (Nat.le_of_ble_eq_true rfl) (tp_ch6 i _) dX0_lowerDebt_7 (fun H locs hP hD hS => ?_)
  refine lv_aload_n hx hb dX0_lowerDebt_10 rfl (lv_at hl 0 rfl) ?_
  refine lv_dup hx hb dX0_lowerDebt_11 rfl ?_
  refine va_get (D := D) (ci := 0) (v := .int ((tp_u I (9 + 15 * i) 6 ((I (9 + 15 * i) 6) - x)) (9 + 15 * i) 7)) (C := RX0) (T := TX0) (N := 9) hx hb hts (fun _ h => List.mem_cons_of_mem _ (List.mem_append_right _ (h))) hown hK hP (9 + 15 * i) (tp_eh hi) rfl 7 (by decide) (hts _ (List.mem_of_getElem? (i := 2) rfl)) (fun _ h9 => h9) rfl dX0_lowerDebt_12 ?_
  refine tp_eqi (y := (I (9 + 15 * i) 7)) (by rw [tp_u_n (b := 7) (j := 6) (by decide)]) ?_
  refine lv_iload_n hx hb dX0_lowerDebt_15 rfl (lv_at hl 1 rfl) ?_
  refine lv_iadd hx hb dX0_lowerDebt_16 ?_
  refine tp_put (ci := 0) (v := ((I (9 + 15 * i) 7) + x)) (ty := .int) (C := RX0) (T := TX0) (N := 9) hx hb hts (fun _ h => List.mem_cons_of_mem _ (List.mem_append_right _ (h))) tyX0 tyX0_ok nmX0 hown hK hP hD hS (9 + 15 * i) (tp_eh hi) (by omega) rfl 7 (by decide) (hts _ (List.mem_of_getElem? (i := 2) rfl)) rfl (by decide +kernel) rfl rfl (Nat.le_of_ble_eq_true rfl) (tp_ch7 i _) dX0_lowerDebt_17 (fun H locs hP hD hS => ?_)
  exact tp_retv hx hb hr hlocks hK hP hD hS rfl dX0_lowerDebt_20
set_option maxHeartbeats 4000000 in
set_option maxRecDepth 100000 in
/-- settle(month) -/
theorem hc_settle (l : Launch) (D : va_G) (cy : Nat → ClassId) (n : Nat) (ad : Nat → Nat) (o : Int64) (I : Nat → Nat → Int32) (i : Nat) (hi : i < n) (a0 m0 : Nat) (ha : I (9 + 15 * i) 3 = nI a0) (ha8 : a0 ≤ m0) (hm : m0 < 48) : tp_I l yX0_settle wsX0_settle (tp_rm 5 114) D cy n ad o [.ref (ad (9 + 15 * i)), .int (nI m0)] I (tp_paym I (9 + 15 * i) a0 m0) (tp_settle I (9 + 15 * i) a0 m0) := by
  refine tp_ofI (lv := [(0, .ref (ad (9 + 15 * i))), (1, .int (nI m0))]) (by decide) rfl (Nat.le_of_ble_eq_true rfl) rfl (fun p e s m args below meth c A ls S0 => ?_)
  obtain ⟨hx, hb, hr, hml, hown, hts, hlocks, hA, hK, hP, hD, hS, hl⟩ := S0
  refine lv_aload_n hx hb dX0_settle_0 rfl (lv_at hl 0 rfl) ?_
  refine lv_iload_n hx hb dX0_settle_1 rfl (lv_at hl 1 rfl) ?_
  refine tp_callV ⟨hx, hb, hml, hown, hts⟩ (hc_paymentIn l D cy n ad o I i hi a0 m0 ha (by omega) (by omega)) (cwV 1 hts gX0_settle_X0_paymentIn rfl rfl rfl (by decide +kernel) ⟨Nat.le_of_ble_eq_true rfl, Nat.le_of_ble_eq_true rfl⟩) hK hP hD hS hA (9 + 15 * i) 0 (tp_eh hi) rfl rfl rfl hl.1 rfl (Nat.le_of_ble_eq_true rfl) dX0_settle_2 ⟨Nat.zero_le _, Nat.zero_le _⟩ (fun I9 e9 H locs hP hD hS => ?_)
  subst e9
  refine lv_istore_n (lv' := [(2, .int (tp_paym I (9 + 15 * i) a0 m0)), (0, .ref (ad (9 + 15 * i))), (1, .int (nI m0))]) hx hb dX0_settle_5 rfl hl (by decide) rfl (fun ls hl => ?_)
  refine lv_aload_n hx hb dX0_settle_6 rfl (lv_at hl 1 rfl) ?_
  refine lv_aload_n hx hb dX0_settle_7 rfl (lv_at hl 1 rfl) ?_
  refine lv_aload_n hx hb dX0_settle_8 rfl (lv_at hl 1 rfl) ?_
  refine lv_iload_n hx hb dX0_settle_9 rfl (lv_at hl 2 rfl) ?_
  refine tp_callV ⟨hx, hb, hml, hown, hts⟩ (hc_unassessedBefore l D cy n ad o I i hi a0 m0 ha (by omega) (by omega)) (cwV 1 hts gX0_settle_X0_unassessedBefore rfl rfl rfl (by decide +kernel) ⟨Nat.le_of_ble_eq_true rfl, Nat.le_of_ble_eq_true rfl⟩) hK hP hD hS hA (9 + 15 * i) 0 (tp_eh hi) rfl rfl rfl hl.1 rfl (Nat.le_of_ble_eq_true rfl) dX0_settle_10 ⟨Nat.zero_le _, Nat.zero_le _⟩ (fun I9 e9 H locs hP hD hS => ?_)
  subst e9
  refine tp_callV ⟨hx, hb, hml, hown, hts⟩ (hc_owedAfter l D cy n ad o I i hi (tp_open I (9 + 15 * i) a0 m0)) (cwV 1 hts gX0_settle_X0_owedAfter rfl rfl rfl (by decide +kernel) ⟨Nat.le_of_ble_eq_true rfl, Nat.le_of_ble_eq_true rfl⟩) hK hP hD hS hA (9 + 15 * i) 0 (tp_eh hi) rfl rfl rfl hl.1 rfl (Nat.le_of_ble_eq_true rfl) dX0_settle_13 ⟨Nat.zero_le _, Nat.zero_le _⟩ (fun I9 e9 H locs hP hD hS => ?_)
  subst e9
  refine tp_put (ci := 0) (v := (tp_owed I (9 + 15 * i) (tp_open I (9 + 15 * i) a0 m0))) (ty := .int) (C := RX0) (T := TX0) (N := 9) hx hb hts (fun _ h => List.mem_cons_of_mem _ (List.mem_append_right _ (h))) tyX0 tyX0_ok nmX0 hown hK hP hD hS (9 + 15 * i) (tp_eh hi) (by omega) rfl 6 (by decide) (hts _ (List.mem_of_getElem? (i := 1) rfl)) rfl (by decide +kernel) rfl rfl (Nat.le_of_ble_eq_true rfl) (tp_ch6 i _) dX0_settle_16 (fun H locs hP hD hS => ?_)
  refine lv_aload_n hx hb dX0_settle_19 rfl (lv_at hl 1 rfl) ?_
  refine lv_aload_n hx hb dX0_settle_20 rfl (lv_at hl 1 rfl) ?_
  refine lv_iload_n hx hb dX0_settle_21 rfl (lv_at hl 2 rfl) ?_
  refine lv_aload_n hx hb dX0_settle_22 rfl (lv_at hl 1 rfl) ?_
  refine va_get (D := D) (ci := 0) (v := .int ((tp_u I (9 + 15 * i) 6 (tp_owed I (9 + 15 * i) (tp_open I (9 + 15 * i) a0 m0))) (9 + 15 * i) 6)) (C := RX0) (T := TX0) (N := 9) hx hb hts (fun _ h => List.mem_cons_of_mem _ (List.mem_append_right _ (h))) hown hK hP (9 + 15 * i) (tp_eh hi) rfl 6 (by decide) (hts _ (List.mem_of_getElem? (i := 1) rfl)) (fun _ h9 => h9) rfl dX0_settle_23 ?_
  refine tp_eqi (y := (tp_owed I (9 + 15 * i) (tp_open I (9 + 15 * i) a0 m0))) (by rw [tp_u_s]) ?_
  refine tp_callV ⟨hx, hb, hml, hown, hts⟩ (hc_recoverableIn l D cy n ad o (tp_u I (9 + 15 * i) 6 (tp_owed I (9 + 15 * i) (tp_open I (9 + 15 * i) a0 m0))) i hi m0 (by omega) (tp_owed I (9 + 15 * i) (tp_open I (9 + 15 * i) a0 m0))) (cwV 2 hts gX0_settle_X0_recoverableIn rfl rfl rfl (by decide +kernel) ⟨Nat.le_of_ble_eq_true rfl, Nat.le_of_ble_eq_true rfl⟩) hK hP hD hS hA (9 + 15 * i) 0 (tp_eh hi) rfl rfl rfl hl.1 rfl (Nat.le_of_ble_eq_true rfl) dX0_settle_26 ⟨Nat.zero_le _, Nat.zero_le _⟩ (fun I9 e9 H locs hP hD hS => ?_)
  subst e9
  refine tp_eqi (y := tp_rec I (9 + 15 * i) m0 (tp_owed I (9 + 15 * i) (tp_open I (9 + 15 * i) a0 m0))) tp_rec_u ?_
  refine tp_callVv ⟨hx, hb, hml, hown, hts⟩ (tp_eqV (hc_lowerDebt l D cy n ad o (tp_u I (9 + 15 * i) 6 (tp_owed I (9 + 15 * i) (tp_open I (9 + 15 * i) a0 m0))) i hi (tp_rec I (9 + 15 * i) m0 (tp_owed I (9 + 15 * i) (tp_open I (9 + 15 * i) a0 m0)))) (by rw [tp_u_s, tp_u_n (j := 6) (b := 7) (by decide)])) (cwV 1 hts gX0_settle_X0_lowerDebt rfl rfl rfl (by decide +kernel) ⟨Nat.le_of_ble_eq_true rfl, Nat.le_of_ble_eq_true rfl⟩) hK hP hD hS hA (9 + 15 * i) 0 (tp_eh hi) rfl rfl rfl hl.1 rfl (Nat.le_of_ble_eq_true rfl) dX0_settle_29 ⟨Nat.zero_le _, Nat.zero_le _⟩ (fun I9 e9 H locs hP hD hS => ?_)
  subst e9
  refine lv_aload_n hx hb dX0_settle_32 rfl (lv_at hl 1 rfl) ?_
  refine va_get (D := D) (ci := 0) (v := .int ((tp_u (tp_u (tp_u I (9 + 15 * i) 6 (tp_owed I (9 + 15 * i) (tp_open I (9 + 15 * i) a0 m0))) (9 + 15 * i) 6 ((tp_owed I (9 + 15 * i) (tp_open I (9 + 15 * i) a0 m0)) - (tp_rec I (9 + 15 * i) m0 (tp_owed I (9 + 15 * i) (tp_open I (9 + 15 * i) a0 m0))))) (9 + 15 * i) 7 (I (9 + 15 * i) 7 + (tp_rec I (9 + 15 * i) m0 (tp_owed I (9 + 15 * i) (tp_open I (9 + 15 * i) a0 m0))))) (9 + 15 * i) 3)) (C := RX0) (T := TX0) (N := 9) hx hb hts (fun _ h => List.mem_cons_of_mem _ (List.mem_append_right _ (h))) hown hK hP (9 + 15 * i) (tp_eh hi) rfl 3 (by decide) (hts _ (List.mem_of_getElem? (i := 2) rfl)) (fun _ h9 => h9) rfl dX0_settle_33 ?_
  refine tp_eqi (y := (I (9 + 15 * i) 3)) (by rw [tp_u_n (b := 3) (j := 7) (by decide), tp_u_n (b := 3) (j := 6) (by decide), tp_u_n (b := 3) (j := 6) (by decide)]) ?_
  refine tp_eqi (y := nI a0) ha ?_
  refine lv_istore_n (lv' := [(3, .int (nI a0)), (2, .int (tp_paym I (9 + 15 * i) a0 m0)), (0, .ref (ad (9 + 15 * i))), (1, .int (nI m0))]) hx hb dX0_settle_36 rfl hl (by decide) rfl (fun ls hl => ?_)
  have hl : lv_has ls 4 [(3, .int (nI (a0 + 0))), (2, .int (tp_paym I (9 + 15 * i) a0 m0)), (0, .ref (ad (9 + 15 * i))), (1, .int (nI m0))] := hl
  rw [← tp_fill_0 (I := tp_u (tp_u (tp_u I (9 + 15 * i) 6 (tp_owed I (9 + 15 * i) (tp_open I (9 + 15 * i) a0 m0))) (9 + 15 * i) 6 ((tp_owed I (9 + 15 * i) (tp_open I (9 + 15 * i) a0 m0)) - (tp_rec I (9 + 15 * i) m0 (tp_owed I (9 + 15 * i) (tp_open I (9 + 15 * i) a0 m0))))) (9 + 15 * i) 7 (I (9 + 15 * i) 7 + (tp_rec I (9 + 15 * i) m0 (tp_owed I (9 + 15 * i) (tp_open I (9 + 15 * i) a0 m0))))) (c := 9 + 15 * i + 13) (lo := a0) (g := (fun s => tp_due I (9 + 15 * i) (a0 + s)))] at hP hD
  refine tp_for (nL := 4) (m0 + 1 - a0) (fun t => tp_fill (tp_u (tp_u (tp_u I (9 + 15 * i) 6 (tp_owed I (9 + 15 * i) (tp_open I (9 + 15 * i) a0 m0))) (9 + 15 * i) 6 ((tp_owed I (9 + 15 * i) (tp_open I (9 + 15 * i) a0 m0)) - (tp_rec I (9 + 15 * i) m0 (tp_owed I (9 + 15 * i) (tp_open I (9 + 15 * i) a0 m0))))) (9 + 15 * i) 7 (I (9 + 15 * i) 7 + (tp_rec I (9 + 15 * i) m0 (tp_owed I (9 + 15 * i) (tp_open I (9 + 15 * i) a0 m0))))) (9 + 15 * i + 13) a0 (fun s => tp_due I (9 + 15 * i) (a0 + s)) t) (fun t => [(3, .int (nI (a0 + t))), (2, .int (tp_paym I (9 + 15 * i) a0 m0)), (0, .ref (ad (9 + 15 * i))), (1, .int (nI m0))]) (fun t ht ls H locs hl hP hD hS ih => ?_) (fun ls H locs hl hP hD hS => ?_) hl hP hD hS
  · refine lv_iload_n hx hb dX0_settle_37 rfl (lv_at hl 0 rfl) ?_
    refine lv_iload_n hx hb dX0_settle_38 rfl (lv_at hl 3 rfl) ?_
    refine lv_icmp_gt (tgt := 59) hx hb dX0_settle_39 (by decide) (fun c39_1 => ?_) (fun c39_1 => ?_)
    · exact absurd c39_1 (nI_nlt (by omega) (by omega))
    · refine lv_aload_n hx hb dX0_settle_42 rfl (lv_at hl 2 rfl) ?_
      refine va_get (D := D) (ci := 0) (v := .ref (ad (9 + 15 * i + 13))) (C := RX0) (T := TX0) (N := 9) hx hb hts (fun _ h => List.mem_cons_of_mem _ (List.mem_append_right _ (h))) hown hK hP (9 + 15 * i) (tp_eh hi) rfl 4 (by decide) (hts _ (List.mem_of_getElem? (i := 3) rfl)) (fun _ h9 => h9) rfl dX0_settle_43 ?_
      refine lv_iload_n hx hb dX0_settle_46 rfl (lv_at hl 0 rfl) ?_
      refine lv_aload_n hx hb dX0_settle_47 rfl (lv_at hl 2 rfl) ?_
      refine lv_iload_n hx hb dX0_settle_48 rfl (lv_at hl 0 rfl) ?_
      refine tp_callV ⟨hx, hb, hml, hown, hts⟩ (hc_dueIn l D cy n ad o (tp_fill (tp_u (tp_u (tp_u I (9 + 15 * i) 6 (tp_owed I (9 + 15 * i) (tp_open I (9 + 15 * i) a0 m0))) (9 + 15 * i) 6 ((tp_owed I (9 + 15 * i) (tp_open I (9 + 15 * i) a0 m0)) - (tp_rec I (9 + 15 * i) m0 (tp_owed I (9 + 15 * i) (tp_open I (9 + 15 * i) a0 m0))))) (9 + 15 * i) 7 (I (9 + 15 * i) 7 + (tp_rec I (9 + 15 * i) m0 (tp_owed I (9 + 15 * i) (tp_open I (9 + 15 * i) a0 m0))))) (9 + 15 * i + 13) a0 (fun s => tp_due I (9 + 15 * i) (a0 + s)) t) i hi (a0 + t) (by omega)) (cwV 1 hts gX0_settle_X0_dueIn rfl rfl rfl (by decide +kernel) ⟨Nat.le_of_ble_eq_true rfl, Nat.le_of_ble_eq_true rfl⟩) hK hP hD hS hA (9 + 15 * i) 0 (tp_eh hi) rfl rfl rfl hl.1 rfl (Nat.le_of_ble_eq_true rfl) dX0_settle_49 ⟨Nat.zero_le _, Nat.zero_le _⟩ (fun I9 e9 H locs hP hD hS => ?_)
      subst e9
      refine tp_eqi (y := tp_due I (9 + 15 * i) (a0 + t)) (by rw [tp_due_fill (fun f hf => by omega), tp_due_u (fun f hf => by omega), tp_due_u (fun f hf => by omega), tp_due_u (fun f hf => by omega)]) ?_
      refine tp_iast hx hb hK hP hD hS (9 + 15 * i + 13) 48 ((a0 + t)) (by omega) (fun I => tp_hA (I := I) i) rfl (by omega) (by decide) dX0_settle_52 (fun H locs hP hD hS => ?_)
      rw [tp_fill_s rfl] at hP hD
      refine lv_iinc (v := (nI ((a0 + t) + 1))) (lv' := [(3, .int (nI ((a0 + t) + 1))), (2, .int (tp_paym I (9 + 15 * i) a0 m0)), (0, .ref (ad (9 + 15 * i))), (1, .int (nI m0))]) hx hb dX0_settle_53 hl (k := 0) rfl (nI_1 _) (by decide) rfl (fun ls hl => ?_)
      refine lv_goto (tgt := 37) hx hb dX0_settle_56 (by decide) ?_
      exact ih ls H locs (lv_sub hl [0, 1, 2, 3] rfl) hP hD hS
  · refine lv_iload_n hx hb dX0_settle_37 rfl (lv_at hl 0 rfl) ?_
    refine lv_iload_n hx hb dX0_settle_38 rfl (lv_at hl 3 rfl) ?_
    refine lv_icmp_gt (tgt := 59) hx hb dX0_settle_39 (by decide) (fun c39_2 => ?_) (fun c39_2 => ?_)
    · refine lv_aload_n hx hb dX0_settle_59 rfl (lv_at hl 2 rfl) ?_
      refine va_get (D := D) (ci := 0) (v := .ref (ad (9 + 15 * i + 14))) (C := RX0) (T := TX0) (N := 9) hx hb hts (fun _ h => List.mem_cons_of_mem _ (List.mem_append_right _ (h))) hown hK hP (9 + 15 * i) (tp_eh hi) rfl 5 (by decide) (hts _ (List.mem_of_getElem? (i := 4) rfl)) (fun _ h9 => h9) rfl dX0_settle_60 ?_
      refine lv_iload_n hx hb dX0_settle_63 rfl (lv_at hl 3 rfl) ?_
      refine lv_iload_n hx hb dX0_settle_64 rfl (lv_at hl 1 rfl) ?_
      refine tp_iast hx hb hK hP hD hS (9 + 15 * i + 14) 48 (m0) (by omega) (fun I => tp_hP (I := I) i) rfl (by omega) (by decide) dX0_settle_65 (fun H locs hP hD hS => ?_)
      refine lv_iload_n hx hb dX0_settle_66 rfl (lv_at hl 1 rfl) ?_
      exact tp_reti hx hb hr hlocks hK hP hD hS rfl rfl rfl dX0_settle_67
    · exact absurd (nI_lt (by omega) (by omega)) c39_2
set_option maxHeartbeats 4000000 in
set_option maxRecDepth 100000 in
/-- change(fact, from, value) -/
theorem hc_change (l : Launch) (D : va_G) (cy : Nat → ClassId) (n : Nat) (ad : Nat → Nat) (o : Int64) (I : Nat → Nat → Int32) (i : Nat) (hi : i < n) (f0 r0 z0 : Nat) (hf5 : f0 < 5) (v : Int32) (hz1 : r0 ≤ z0) (hz2 : z0 ≤ 48) (hz3 : ∀ m, r0 ≤ m → m < z0 → I (9 + 15 * i + 8 + f0) m ≤ nI r0) (hz4 : z0 = 48 ∨ ¬ I (9 + 15 * i + 8 + f0) z0 ≤ nI r0) : tp_V l yX0_change wsX0_change (tp_rm 0 0) D cy n ad o [.ref (ad (9 + 15 * i)), .int (nI f0), .int (nI r0), .int v] I (tp_chg I (9 + 15 * i) f0 r0 v (z0 - r0)) := by
  refine tp_ofV (lv := [(0, .ref (ad (9 + 15 * i))), (1, .int (nI f0)), (2, .int (nI r0)), (3, .int v)]) (by decide) rfl (Nat.le_of_ble_eq_true rfl) rfl (fun p e s m args below meth c A ls S0 => ?_)
  obtain ⟨hx, hb, hr, hml, hown, hts, hlocks, hA, hK, hP, hD, hS, hl⟩ := S0
  refine lv_aload_n hx hb dX0_change_0 rfl (lv_at hl 0 rfl) ?_
  refine lv_dup hx hb dX0_change_1 rfl ?_
  refine va_get (D := D) (ci := 0) (v := .int (I (9 + 15 * i) 2)) (C := RX0) (T := TX0) (N := 9) hx hb hts (fun _ h => List.mem_cons_of_mem _ (List.mem_append_right _ (h))) hown hK hP (9 + 15 * i) (tp_eh hi) rfl 2 (by decide) (hts _ (List.mem_of_getElem? (i := 1) rfl)) (fun _ h9 => h9) rfl dX0_change_2 ?_
  refine lv_iconst (v := 1) hx hb dX0_change_5 (by decide) ?_
  refine lv_iadd hx hb dX0_change_6 ?_
  refine tp_put (ci := 0) (v := ((I (9 + 15 * i) 2) + 1)) (ty := .int) (C := RX0) (T := TX0) (N := 9) hx hb hts (fun _ h => List.mem_cons_of_mem _ (List.mem_append_right _ (h))) tyX0 tyX0_ok nmX0 hown hK hP hD hS (9 + 15 * i) (tp_eh hi) (by omega) rfl 2 (by decide) (hts _ (List.mem_of_getElem? (i := 1) rfl)) rfl (by decide +kernel) rfl rfl (Nat.le_of_ble_eq_true rfl) (tp_ch2 i _) dX0_change_7 (fun H locs hP hD hS => ?_)
  refine lv_iload_n hx hb dX0_change_10 rfl (lv_at hl 2 rfl) ?_
  refine lv_istore (lv' := [(4, .int (nI r0)), (0, .ref (ad (9 + 15 * i))), (1, .int (nI f0)), (2, .int (nI r0)), (3, .int v)]) hx hb dX0_change_11 hl (by decide) rfl (fun ls hl => ?_)
  have hl : lv_has ls 5 [(4, .int (nI (r0 + 0))), (0, .ref (ad (9 + 15 * i))), (1, .int (nI f0)), (2, .int (nI r0)), (3, .int v)] := hl
  have e0 : tp_fill (tp_fill (tp_u I (9 + 15 * i) 2 ((I (9 + 15 * i) 2) + 1)) (9 + 15 * i + 2 + f0) r0 (fun _ => v) 0) (9 + 15 * i + 8 + f0) r0 (fun _ => nI r0) 0 = tp_u I (9 + 15 * i) 2 ((I (9 + 15 * i) 2) + 1) := by rw [tp_fill_0, tp_fill_0]
  rw [← e0] at hP hD
  refine tp_for (nL := 5) (z0 - r0) (fun t => tp_fill (tp_fill (tp_u I (9 + 15 * i) 2 ((I (9 + 15 * i) 2) + 1)) (9 + 15 * i + 2 + f0) r0 (fun _ => v) t) (9 + 15 * i + 8 + f0) r0 (fun _ => nI r0) t) (fun t => [(4, .int (nI (r0 + t))), (0, .ref (ad (9 + 15 * i))), (1, .int (nI f0)), (2, .int (nI r0)), (3, .int v)]) (fun t ht ls H locs hl hP hD hS ih => ?_) (fun ls H locs hl hP hD hS => ?_) hl hP hD hS
  · refine lv_iload hx hb dX0_change_13 (lv_at hl 0 rfl) ?_
    refine lv_bipush (v := 48) hx hb dX0_change_15 (by decide) ?_
    refine lv_icmp_ge (tgt := 59) hx hb dX0_change_17 (by decide) (fun c17_1 => ?_) (fun c17_1 => ?_)
    · exact absurd c17_1 (nI_ge (a := r0 + t) (b := 48) (by omega) (by omega))
    · refine lv_aload_n hx hb dX0_change_20 rfl (lv_at hl 1 rfl) ?_
      refine va_get (D := D) (ci := 0) (v := .ref (ad (9 + 15 * i + 7))) (C := RX0) (T := TX0) (N := 9) hx hb hts (fun _ h => List.mem_cons_of_mem _ (List.mem_append_right _ (h))) hown hK hP (9 + 15 * i) (tp_eh hi) rfl 1 (by decide) (hts _ (List.mem_of_getElem? (i := 2) rfl)) (fun _ h9 => h9) rfl dX0_change_21 ?_
      refine lv_iload_n hx hb dX0_change_24 rfl (lv_at hl 2 rfl) ?_
      refine tp_aald hx hb hK hP (9 + 15 * i + 7) 5 (f0) (by omega) (tp_hSo i) rfl (by omega) (by decide) dX0_change_25 ?_
      refine lv_iload hx hb dX0_change_26 (lv_at hl 0 rfl) ?_
      refine tp_iald hx hb hK hP (9 + 15 * i + 8 + f0) 48 ((r0 + t)) (by omega) (tp_hS i (f := f0) (by omega)) rfl (by omega) (by decide) dX0_change_28 ?_
      refine tp_eqi (y := I (9 + 15 * i + 8 + f0) (r0 + t)) (by rw [tp_fill_up (by omega), tp_fill_oth (a := (9 + 15 * i + 8 + f0)) (c := (9 + 15 * i + 2 + f0)) (by omega), tp_u_oth (a := (9 + 15 * i + 8 + f0)) (k := 9 + 15 * i) (by omega)]) ?_
      refine lv_iload_n hx hb dX0_change_29 rfl (lv_at hl 3 rfl) ?_
      refine lv_icmp_gt (tgt := 59) hx hb dX0_change_30 (by decide) (fun c30_2 => ?_) (fun c30_2 => ?_)
      · exact absurd (hz3 (r0 + t) (by omega) (by omega)) (fun z => absurd (Int32.lt_iff_toInt_lt.mp c30_2) (by have := Int32.le_iff_toInt_le.mp z; omega))
      · refine lv_aload_n hx hb dX0_change_33 rfl (lv_at hl 1 rfl) ?_
        refine va_get (D := D) (ci := 0) (v := .ref (ad (9 + 15 * i + 1))) (C := RX0) (T := TX0) (N := 9) hx hb hts (fun _ h => List.mem_cons_of_mem _ (List.mem_append_right _ (h))) hown hK hP (9 + 15 * i) (tp_eh hi) rfl 0 (by decide) (hts _ (List.mem_of_getElem? (i := 3) rfl)) (fun _ h9 => h9) rfl dX0_change_34 ?_
        refine lv_iload_n hx hb dX0_change_37 rfl (lv_at hl 2 rfl) ?_
        refine tp_aald hx hb hK hP (9 + 15 * i + 1) 5 (f0) (by omega) (tp_hVo i) rfl (by omega) (by decide) dX0_change_38 ?_
        refine lv_iload hx hb dX0_change_39 (lv_at hl 0 rfl) ?_
        refine lv_iload_n hx hb dX0_change_41 rfl (lv_at hl 4 rfl) ?_
        refine tp_iast hx hb hK hP hD hS (9 + 15 * i + 2 + f0) 48 ((r0 + t)) (by omega) (fun I => tp_hV (I := I) i (f := f0) (by omega)) rfl (by omega) (by decide) dX0_change_42 (fun H locs hP hD hS => ?_)
        refine lv_aload_n hx hb dX0_change_43 rfl (lv_at hl 1 rfl) ?_
        refine va_get (D := D) (ci := 0) (v := .ref (ad (9 + 15 * i + 7))) (C := RX0) (T := TX0) (N := 9) hx hb hts (fun _ h => List.mem_cons_of_mem _ (List.mem_append_right _ (h))) hown hK hP (9 + 15 * i) (tp_eh hi) rfl 1 (by decide) (hts _ (List.mem_of_getElem? (i := 2) rfl)) (fun _ h9 => h9) rfl dX0_change_44 ?_
        refine lv_iload_n hx hb dX0_change_47 rfl (lv_at hl 2 rfl) ?_
        refine tp_aald hx hb hK hP (9 + 15 * i + 7) 5 (f0) (by omega) (tp_hSo i) rfl (by omega) (by decide) dX0_change_48 ?_
        refine lv_iload hx hb dX0_change_49 (lv_at hl 0 rfl) ?_
        refine lv_iload_n hx hb dX0_change_51 rfl (lv_at hl 3 rfl) ?_
        refine tp_iast hx hb hK hP hD hS (9 + 15 * i + 8 + f0) 48 ((r0 + t)) (by omega) (fun I => tp_hS (I := I) i (f := f0) (by omega)) rfl (by omega) (by decide) dX0_change_52 (fun H locs hP hD hS => ?_)
        rw [tp_fill_s2 (by omega) rfl rfl] at hP hD
        refine lv_iinc (v := (nI ((r0 + t) + 1))) (lv' := [(4, .int (nI ((r0 + t) + 1))), (0, .ref (ad (9 + 15 * i))), (1, .int (nI f0)), (2, .int (nI r0)), (3, .int v)]) hx hb dX0_change_53 hl (k := 0) rfl (nI_1 _) (by decide) rfl (fun ls hl => ?_)
        refine lv_goto (tgt := 13) hx hb dX0_change_56 (by decide) ?_
        exact ih ls H locs (lv_sub hl [0, 1, 2, 3, 4] rfl) hP hD hS
  · refine lv_iload hx hb dX0_change_13 (lv_at hl 0 rfl) ?_
    refine lv_bipush (v := 48) hx hb dX0_change_15 (by decide) ?_
    refine lv_icmp_ge (tgt := 59) hx hb dX0_change_17 (by decide) (fun c17_3 => ?_) (fun c17_3 => ?_)
    · exact tp_retv hx hb hr hlocks hK hP hD hS rfl dX0_change_59
    · have hz8 : z0 < 48 := by
        rcases Nat.lt_or_ge z0 48 with z | z
        · exact z
        · exact absurd (nI_le (a := 48) (b := r0 + (z0 - r0)) (by omega) (by omega)) c17_3
      refine lv_aload_n hx hb dX0_change_20 rfl (lv_at hl 1 rfl) ?_
      refine va_get (D := D) (ci := 0) (v := .ref (ad (9 + 15 * i + 7))) (C := RX0) (T := TX0) (N := 9) hx hb hts (fun _ h => List.mem_cons_of_mem _ (List.mem_append_right _ (h))) hown hK hP (9 + 15 * i) (tp_eh hi) rfl 1 (by decide) (hts _ (List.mem_of_getElem? (i := 2) rfl)) (fun _ h9 => h9) rfl dX0_change_21 ?_
      refine lv_iload_n hx hb dX0_change_24 rfl (lv_at hl 2 rfl) ?_
      refine tp_aald hx hb hK hP (9 + 15 * i + 7) 5 (f0) (by omega) (tp_hSo i) rfl (by omega) (by decide) dX0_change_25 ?_
      refine lv_iload hx hb dX0_change_26 (lv_at hl 0 rfl) ?_
      refine tp_iald hx hb hK hP (9 + 15 * i + 8 + f0) 48 ((r0 + (z0 - r0))) (by omega) (tp_hS i (f := f0) (by omega)) rfl (by omega) (by decide) dX0_change_28 ?_
      refine tp_eqi (y := I (9 + 15 * i + 8 + f0) z0) (by rw [tp_fill_up (by omega), tp_fill_oth (a := (9 + 15 * i + 8 + f0)) (c := (9 + 15 * i + 2 + f0)) (by omega), tp_u_oth (a := (9 + 15 * i + 8 + f0)) (k := 9 + 15 * i) (by omega), show r0 + (z0 - r0) = z0 by omega]) ?_
      refine lv_iload_n hx hb dX0_change_29 rfl (lv_at hl 3 rfl) ?_
      refine lv_icmp_gt (tgt := 59) hx hb dX0_change_30 (by decide) (fun c30_4 => ?_) (fun c30_4 => ?_)
      · exact tp_retv hx hb hr hlocks hK hP hD hS rfl dX0_change_59
      · rcases hz4 with z | z
        · exact absurd z (by omega)
        · exact absurd (Int32.lt_iff_toInt_lt.mpr (by have h1 : ¬ (I (9 + 15 * i + 8 + f0) z0).toInt ≤ (nI r0).toInt := fun q => z (Int32.le_iff_toInt_le.mpr q); omega)) c30_4
end
section
/-! WHAT AN OFFICE'S METHODS NEED OF THE MACHINE BESIDE THE STEADY WORDS -/
def tp_strs : List (Nat × String) := [(24, "there are 6 households"), (29, "there is no current month"), (43, "there is no such day"), (53, "the value is out of the range of the fact"), (58, "100 changes were told of the household"), (73, "the cents are out of range"), (78, "the debt is less than that"), (122, "there is no such household"), (125, "there is no such month"), (127, "there is no such fact")]
def tp_nws : List Cond := [.fieldLinkNest "TaperOffice" 55 "TaperOffice$Household" "changes" "I" "TaperOffice", .fieldLinkNest "TaperOffice" 68 "TaperOffice$Household" "disputes" "Z" "TaperOffice", .fieldLinkNest "TaperOffice" 75 "TaperOffice$Household" "debt" "I" "TaperOffice", .fieldLinkNest "TaperOffice" 89 "TaperOffice$Household" "values" "[[I" "TaperOffice", .fieldLinkNest "TaperOffice" 111 "TaperOffice$Household" "assessments" "[I" "TaperOffice", .fieldLinkNest "TaperOffice" 114 "TaperOffice$Household" "payments" "[I" "TaperOffice", .fieldLinkNest "TaperOffice" 117 "TaperOffice$Household" "takenBack" "I" "TaperOffice",
  .methodLinkNest "TaperOffice" 31 yX0_init "TaperOffice", .methodLinkNest "TaperOffice" 64 yX0_change "TaperOffice", .methodLinkNest "TaperOffice" 80 yX0_lowerDebt "TaperOffice", .methodLinkNest "TaperOffice" 83 yX0_settle "TaperOffice", .methodLinkNest "TaperOffice" 93 yX0_needIn "TaperOffice", .methodLinkNest "TaperOffice" 96 yX0_taperIn "TaperOffice", .methodLinkNest "TaperOffice" 99 yX0_tariffIn "TaperOffice", .methodLinkNest "TaperOffice" 102 yX0_dueIn "TaperOffice", .methodLinkNest "TaperOffice" 105 yX0_unassessedBefore "TaperOffice", .methodLinkNest "TaperOffice" 108 yX0_paymentIn "TaperOffice",
  .castable "java/lang/IllegalStateException" "java/lang/IllegalStateException", .castable "java/lang/IllegalArgumentException" "java/lang/IllegalArgumentException", .castable "java/lang/IndexOutOfBoundsException" "java/lang/IndexOutOfBoundsException", .declares (Bundle.initS "java/lang/RuntimeException"), .declares (Bundle.initS "java/lang/Exception"), .declares (Bundle.initS "java/lang/Throwable")]
def tp_ncs : List (String × String) := [("java/lang/IllegalArgumentException", "java/lang/IndexOutOfBoundsException"), ("java/lang/IllegalStateException", "java/lang/IndexOutOfBoundsException"), ("java/lang/IllegalStateException", "java/lang/IllegalArgumentException")]
def tp_nwk : Cond → Bool
  | .fieldLinkNest .. | .methodLinkNest .. | .declares _ | .castable .. => true
  | _ => false
theorem tp_nwk_ok : ∀ w ∈ tp_nws, tp_nwk w = true := by decide +kernel
theorem tp_nwk_on {w : Cond} (hk : tp_nwk w = true) : w.onTables = true := by
  cases w <;> first | rfl | (simp [tp_nwk] at hk; done)
theorem tp_nw_go {w : Cond} {s U : State} (hk : tp_nwk w = true) (hW : s.WarmedH U.vm) (h : va_Nw w s) : va_Nw w U := by
  cases w <;> first | (simp [tp_nwk] at hk; done) | exact va_Nw.warmF hW h | exact va_Nw.warmM hW h | exact va_Nw.warmD hW h | exact va_Nw.warmC hW h
def tp_vl (j : Nat) : Int32 := if j = 0 then 1 else 0
def tp_vm (j : Nat) : Int32 := if j = 0 then 2 else if j = 1 then 9 else if j = 4 then 10000000 else 1000000
/-- sa: the texts' addresses; tL, tM: the two tables of ranges -/
def tp_EV (sa : Nat → Nat) (tL tM : Nat) (A : Nat → Prop) (U : State) (H : Heap) : Prop :=
  (vx_Zq Bundle.tN "UNASSIGNED_STACK" Bundle.steD A U H ∧ vx_Zq Bundle.tN "SUPPRESSED_SENTINEL" Bundle.listD A U H) ∧
  ((va_Z "TaperOffice" "LEAST_VALUES" "[I" (.ref tL) A U H ∧ va_T .int tL 5 (fun j => .int (tp_vl j)) A U H) ∧ (va_Z "TaperOffice" "MOST_VALUES" "[I" (.ref tM) A U H ∧ va_T .int tM 5 (fun j => .int (tp_vm j)) A U H)) ∧
  (∀ q ∈ tp_strs, vk_R "TaperOffice" q.1 q.2 (sa q.1) U) ∧ (∀ w ∈ tp_nws, va_Nw w U) ∧ (∀ q ∈ tp_ncs, va_Nc q.1 q.2 U) ∧ va_AOA .int U ∧ va_AO "TaperOffice$Household" U
theorem tp_EV.go {sa : Nat → Nat} {tL tM : Nat} {A B : Nat → Prop} {s U : State} {H : Heap} {locs : List Loc} (h : tp_EV sa tL tM A s s.heap) (hW : s.WarmedH U.vm) (hU : U.heap = H) (hS : va_S A s.heap H locs) (hAB : ∀ q, B q → A q) : tp_EV sa tL tM B U U.heap := by
  subst hU
  obtain ⟨⟨h1, h2⟩, ⟨⟨h3, h4⟩, ⟨h5, h6⟩⟩, h7, h8, h9, h10, h11⟩ := h
  exact ⟨⟨((h1.kept hS.2.1).narrow hAB).moved hW.alike, ((h2.kept hS.2.1).narrow hAB).moved hW.alike⟩, ⟨⟨((h3.kept hS.2.1).narrow hAB).moved hW.alike, ((h4.kept hS.2.1).narrow hAB).moved hW.alike⟩, ⟨((h5.kept hS.2.1).narrow hAB).moved hW.alike, ((h6.kept hS.2.1).narrow hAB).moved hW.alike⟩⟩, fun q hq => vk_R.warm hW (h7 q hq), fun w hw => tp_nw_go (tp_nwk_ok w hw) hW (h8 w hw), fun q hq => va_Nc.moved hW.alike (h9 q hq), h10.moved hW.alike, h11.moved hW.alike⟩
theorem tp_EV.same {sa : Nat → Nat} {tL tM : Nat} {A : Nat → Prop} {u U : State} {H : Heap} (h : tp_EV sa tL tM A u H) (hv : U.vm = u.vm) : tp_EV sa tL tM A U H := by
  obtain ⟨⟨h1, h2⟩, ⟨⟨h3, h4⟩, ⟨h5, h6⟩⟩, h7, h8, h9, h10, h11⟩ := h
  have ha : u.vm.Alike U.vm := by rw [hv]; exact Vm.Alike.refl _
  exact ⟨⟨h1.moved ha, h2.moved ha⟩, ⟨⟨h3.moved ha, h4.moved ha⟩, ⟨h5.moved ha, h6.moved ha⟩⟩, fun q hq => vk_R.same hv (h7 q hq), fun w hw => va_Nw.same (tp_nwk_on (tp_nwk_ok w hw)) hv.symm (h8 w hw), fun q hq => va_Nc.moved ha (h9 q hq), h10.moved ha, h11.moved ha⟩
/-- a state that an office's method starts from -/
def tp_PE (D : va_G) (cy : Nat → ClassId) (n : Nat) (ad : Nat → Nat) (I : Nat → Nat → Int32) (o : Int64) (sa : Nat → Nat) (tL tM : Nat) (sz : Nat) (U : State) : Prop := tp_P D cy n ad I o sz U ∧ tp_EV sa tL tM (va_A (tp_w cy n ad I o) sz) U U.heap
def tp_IE (l : Launch) (y : MethodName) (ws : List Cond) (rm : Room) (D : va_G) (cy : Nat → ClassId) (n : Nat) (ad : Nat → Nat) (o : Int64) (sa : Nat → Nat) (tL tM : Nat) (as : List Value) (I : Nat → Nat → Int32) (r : Int32) (I' : Nat → Nat → Int32) : Prop :=
  ∀ sz : Nat, Met l y ws rm (va_Pc as (tp_PE D cy n ad I o sa tL tM sz)) (va_Qi (fun x u => x = r ∧ u = I') (tp_B D cy n ad o (va_A (tp_w cy n ad I o) sz)) (va_A (tp_w cy n ad I o) sz)) 0 0 (va_A (tp_w cy n ad I o) sz)
/-- it answers the cell of the number k -/
def tp_R (l : Launch) (y : MethodName) (ws : List Cond) (rm : Room) (D : va_G) (cy : Nat → ClassId) (n : Nat) (ad : Nat → Nat) (o : Int64) (as : List Value) (I : Nat → Nat → Int32) (k : Nat) : Prop :=
  ∀ sz : Nat, Met l y ws rm (va_Pc as (tp_P D cy n ad I o sz)) (va_Qq (fun x u => x = some (ad k) ∧ u = I) (tp_B D cy n ad o (va_A (tp_w cy n ad I o) sz)) (va_A (tp_w cy n ad I o) sz)) 0 0 (va_A (tp_w cy n ad I o) sz)
def tp_XC (E : String) (D : va_G) (cy : Nat → ClassId) (n : Nat) (ad : Nat → Nat) (I : Nat → Nat → Int32) (o : Int64) (A : Nat → Prop) : String → State → State → Prop := vx_X (S := Unit) (fun _ => True) (fun E' _ t => E' = E ∧ tp_B D cy n ad o A I t) A
abbrev tp_rx (fr lo : Nat) : Room := { frames := fr, cells := 1, slots := 6, locals := lo }
/-- it throws an E, and changes nothing -/
def tp_T (l : Launch) (y : MethodName) (ws : List Cond) (fr lo : Nat) (D : va_G) (cy : Nat → ClassId) (n : Nat) (ad : Nat → Nat) (o : Int64) (sa : Nat → Nat) (tL tM : Nat) (as : List Value) (I : Nat → Nat → Int32) (E : String) : Prop :=
  ∀ sz : Nat, vx_Met l y ws (tp_rx fr lo) (va_Pc as (tp_PE D cy n ad I o sa tL tM sz)) (fun _ _ _ _ => False) (tp_XC E D cy n ad I o (va_A (tp_w cy n ad I o) sz)) 1 6 (va_A (tp_w cy n ad I o) sz)
section TPE
variable {D : va_G} {cy : Nat → ClassId} {n : Nat} {ad : Nat → Nat} {I : Nat → Nat → Int32} {o : Int64} {sa : Nat → Nat} {tL tM : Nat}
theorem tp_blindE {as : List Value} {sz : Nat} : FrameBlind (va_Pc as (tp_PE D cy n ad I o sa tL tM sz)) := fun a U g mk q => by
  obtain ⟨q0, ⟨q1, qP, qK, qD⟩, qE⟩ := q
  exact ⟨q0, ⟨q1, qP, va_K.moved (u := U) (U := U.calling g mk a) (Vm.Alike.refl U.vm) qK, qD⟩, tp_EV.same (u := U) (U := U.calling g mk a) qE rfl⟩
theorem tp_ofIE {l : Launch} {y : MethodName} {ws ws' : List Cond} {fr lo : Nat} {I' : Nat → Nat → Int32} {as : List Value} {r : Int32} {cc : ByteArray} {maxL : Nat} {ret : Option FieldType} {lv : List (Nat × Value)}
    (hy : plainName y.cls = true) (hw : ws = Cond.code y cc maxL ret :: ws') (hlen : (lg_sl as).length ≤ maxL) (hlv : lv_args 0 as = lv)
    (body : ∀ (p : Program) (e : Env) (s : State) (m : MethodId) (args : Array Value) (below : List Frame) (meth : Method) (c : Code) (A : Nat → Prop) (ls : Array Slot), tp_S p s m args meth c y ws cc maxL ret D cy n ad o I A ls lv → tp_EV sa tL tM A s s.heap →
      W p l e (tp_rm fr lo) s m args below meth c s.heap [] 0 0 (MQ below (va_Qi (fun x u => x = r ∧ u = I') (tp_B D cy n ad o A) A) args s 0 0 A) (F0 m 0 ls [])) :
    tp_IE l y ws (tp_rm fr lo) D cy n ad o sa tL tM as I r I' := by
  intro sz
  refine Met.ofW (cc := cc) (maxL := maxL) (ret := ret) hy hw ?_
  intro p e s m args below meth c s₁ B hml hv
  obtain ⟨rfl, ⟨hsz, hP, hK, hD0⟩, hE⟩ := hv
  subst hsz
  have hown : s.vm.findClass y.cls = some m.cls := findClass_of_methodNamed B.named
  have hD := hD0.self (sz := s.heap.size)
  generalize hAe : va_A (tp_w cy n ad I o) s.heap.size = A at hD hE ⊢
  have hA : ∀ q : Nat, s.heap.size ≤ q → A q := fun q h => by rw [← hAe]; exact Or.inr h
  have hl := lv_entry as (n := maxL) hlen
  rw [hlv] at hl
  rw [lg_entry_eq]
  exact body p e s m _ below meth c A _ ⟨B.exec, B.bytes, B.returns, hml, hown, atoms_spec (ws := ws) B.pre, B.notSynchronized, hA, hK, hP, hD, va_S.rf, hl⟩ hE
theorem tp_ofR {l : Launch} {y : MethodName} {ws ws' : List Cond} {fr lo k : Nat} {as : List Value} {cc : ByteArray} {maxL : Nat} {ret : Option FieldType} {lv : List (Nat × Value)}
    (hy : plainName y.cls = true) (hw : ws = Cond.code y cc maxL ret :: ws') (hlen : (lg_sl as).length ≤ maxL) (hlv : lv_args 0 as = lv)
    (body : ∀ (p : Program) (e : Env) (s : State) (m : MethodId) (args : Array Value) (below : List Frame) (meth : Method) (c : Code) (A : Nat → Prop) (ls : Array Slot), tp_S p s m args meth c y ws cc maxL ret D cy n ad o I A ls lv →
      W p l e (tp_rm fr lo) s m args below meth c s.heap [] 0 0 (MQ below (va_Qq (fun x u => x = some (ad k) ∧ u = I) (tp_B D cy n ad o A) A) args s 0 0 A) (F0 m 0 ls [])) :
    tp_R l y ws (tp_rm fr lo) D cy n ad o as I k := by
  intro sz
  refine Met.ofW (cc := cc) (maxL := maxL) (ret := ret) hy hw ?_
  intro p e s m args below meth c s₁ B hml hv
  obtain ⟨rfl, hsz, hP, hK, hD0⟩ := hv
  subst hsz
  have hown : s.vm.findClass y.cls = some m.cls := findClass_of_methodNamed B.named
  have hD := hD0.self (sz := s.heap.size)
  generalize hAe : va_A (tp_w cy n ad I o) s.heap.size = A at hD ⊢
  have hA : ∀ q : Nat, s.heap.size ≤ q → A q := fun q h => by rw [← hAe]; exact Or.inr h
  have hl := lv_entry as (n := maxL) hlen
  rw [hlv] at hl
  rw [lg_entry_eq]
  exact body p e s m _ below meth c A _ ⟨B.exec, B.bytes, B.returns, hml, hown, atoms_spec (ws := ws) B.pre, B.notSynchronized, hA, hK, hP, hD, va_S.rf, hl⟩
theorem tp_ofT {l : Launch} {y : MethodName} {ws ws' : List Cond} {fr lo : Nat} {E : String} {as : List Value} {cc : ByteArray} {maxL : Nat} {ret : Option FieldType} {lv : List (Nat × Value)}
    (hy : plainName y.cls = true) (hw : ws = Cond.code y cc maxL ret :: ws') (hlen : (lg_sl as).length ≤ maxL) (hlv : lv_args 0 as = lv)
    (body : ∀ (p : Program) (e : Env) (s : State) (m : MethodId) (args : Array Value) (below : List Frame) (meth : Method) (c : Code) (A : Nat → Prop) (ls : Array Slot), tp_S p s m args meth c y ws cc maxL ret D cy n ad o I A ls lv → tp_EV sa tL tM A s s.heap → (∀ x ∈ c.exceptionTable.toList, False) →
      W p l e (tp_rx fr lo) s m args below meth c s.heap [] 0 0 (vx_MQ below (fun _ _ _ _ => False) (tp_XC E D cy n ad I o A) args s 1 6 A) (F0 m 0 ls [])) :
    tp_T l y ws fr lo D cy n ad o sa tL tM as I E := by
  intro sz
  refine vx_ofW (cc := cc) (maxL := maxL) (ret := ret) hy hw ?_
  intro p e s m args below meth c s₁ B hml hxt hv
  obtain ⟨rfl, ⟨hsz, hP, hK, hD0⟩, hE⟩ := hv
  subst hsz
  have hown : s.vm.findClass y.cls = some m.cls := findClass_of_methodNamed B.named
  have hD := hD0.self (sz := s.heap.size)
  generalize hAe : va_A (tp_w cy n ad I o) s.heap.size = A at hD hE ⊢
  have hA : ∀ q : Nat, s.heap.size ≤ q → A q := fun q h => by rw [← hAe]; exact Or.inr h
  have hl := lv_entry as (n := maxL) hlen
  rw [hlv] at hl
  rw [lg_entry_eq]
  exact body p e s m _ below meth c A _ ⟨B.exec, B.bytes, B.returns, hml, hown, atoms_spec (ws := ws) B.pre, B.notSynchronized, hA, hK, hP, hD, va_S.rf, hl⟩ hE hxt
section TPER
variable {p : Program} {l : Launch} {e : Env} {R : Room} {s : State} {m : MethodId} {args : Array Value} {below : List Frame} {meth : Method} {c : Code} {H : Heap} {locs : List Loc} {cells slots : Nat} {Q : State → Prop}
variable {cc : ByteArray} {pc : Nat} {ls : Array Slot} {rest : List Value} {A : Nat → Prop} {H0 : Heap}
theorem tp_retq {k : Nat} {rt : FieldType} (hx : p.tables.exec = Jvm.exec) (hb : c.code = cc) (hr : meth.sig.returnType = some rt) (hrt : (∃ n, rt = .object n) ∨ ∃ t, rt = .array t) (hlocks : meth.locks = false) (hK : va_K D vwCl (tp_ty cy) s) (hP : va_P D vwCl (tp_w cy n ad I o) H) (hD : va_D A (tp_w cy n ad I o)) (hS : va_S A s.heap H locs) (hdg : decode cc pc = .ok (.areturn, 1)) :
    W p l e R s m args below meth c H locs 0 0 (MQ below (va_Qq (fun x u => x = some (ad k) ∧ u = I) (tp_B D cy n ad o A) A) args s 0 0 A) (F0 m pc ls [.ref (ad k)]) :=
  W.aret (v := .ref (ad k)) hx hb hr hrt (Or.inr ⟨_, rfl⟩) (fun t ht hW => ⟨⟨some (ad k), I, rfl, ⟨rfl, rfl⟩, by rw [ht]; exact hP, va_K.moved hW.alike hK, hD⟩, hS.F ht⟩) hS.2.2 hdg
/-- a throw of one's own -/
theorem tp_throw {E text : String} {ik is ic : Nat} (hx : p.tables.exec = Jvm.exec) (hb : c.code = cc) (hlt : l.stackTraces = false) (hown : s.vm.findClass "TaperOffice" = some m.cls) (hcls : Bundle.fit E = true)
    (hk : (Cond.classLink "TaperOffice" ik E).before args s = true) (hini : (Cond.initialized E).before args s = true) (hstr : (is, text) ∈ tp_strs) (hat : ∀ w ∈ (vx_atS "TaperOffice" ic E ["java/lang/RuntimeException", "java/lang/Exception"]).filter goodWord, w.before args s = true)
    (hng : ∀ w ∈ (vx_atS "TaperOffice" ic E ["java/lang/RuntimeException", "java/lang/Exception"]).filter (fun w => !goodWord w), w ∈ tp_nws) (hgood : ∀ w ∈ Cond.classLink "TaperOffice" ik E :: Cond.initialized E :: vx_atS "TaperOffice" ic E ["java/lang/RuntimeException", "java/lang/Exception"], vx_ot w = true)
    (hE : tp_EV sa tL tM A s s.heap) (hK : va_K D vwCl (tp_ty cy) s) (hP : va_P D vwCl (tp_w cy n ad I o) H) (hD : va_D A (tp_w cy n ad I o)) (hS : va_S A s.heap H locs) (hsize : ls.size = c.maxLocals)
    (d0 : decode cc pc = .ok (.new ik, 3)) (d3 : decode cc (pc + 3) = .ok (.dup, 1)) (d4 : decode cc (pc + 4) = .ok (.ldc is, 2)) (d6 : decode cc (pc + 6) = .ok (.invokespecial ic, 3)) (d9 : decode cc (pc + 9) = .ok (.athrow, 1)) (hxt : ∀ x ∈ c.exceptionTable.toList, False) (hlocks : meth.locks = false)
    (hRf : 6 ≤ R.frames) (hRl : (rest.map fun v => v.category).sum + 82 ≤ R.locals) (hRc : 1 ≤ R.cells) (hRs : 6 ≤ R.slots) :
    W p l e R s m args below meth c H locs 0 0 (vx_MQ below (fun _ _ _ _ => False) (tp_XC E D cy n ad I o A) args s 1 6 A) (F0 m pc ls rest) := by
  obtain ⟨⟨hU, hN⟩, -, h7, h8, -, -, -⟩ := hE
  refine vx_throwS (names := ["java/lang/RuntimeException", "java/lang/Exception"]) (text := text) (A := A) hx hb hlt hown hcls (by decide +kernel) hk hini (h7 _ hstr) (vx_hat hat hng (fun w hw => va_Nw.use (tp_nwk_on (tp_nwk_ok w hw)) (h8 w hw))) hgood hU hN hS hsize d0 d3 d4 d6 d9 (fun x hx => (hxt x hx).elim) (by simp only [List.length_cons, List.length_nil]; omega) (by simp only [List.length_cons, List.length_nil]; omega) (by omega) (by omega) hlocks (fun t ha hz hk => ?_) hS.2.2 (by omega) (by omega)
  refine ⟨(), trivial, ⟨rfl, hP.kept (fun k q hq => hk q.1 ((hP k q hq).lt)), va_K.moved ha hK, hD⟩, Nat.le_trans hS.1 hz, fun q h1 h2 => (hk q (Nat.lt_of_lt_of_le h1 hS.1)).trans (hS.2.1 q h1 h2)⟩
/-- a callee's throw leaves this method too -/
theorem tp_out {E : String} {ce : Cell} {q9 : Addr} (hxt : ∀ x ∈ c.exceptionTable.toList, False) (hlocks : meth.locks = false) (hce : H[q9]? = some ce) (hcv : ce.vm = .none) (hcl : s.vm.findClass E = some ce.cls) (hK : va_K D vwCl (tp_ty cy) s) (hP : va_P D vwCl (tp_w cy n ad I o) H) (hD : va_D A (tp_w cy n ad I o)) (hS : va_S A s.heap H locs) (hc : cells ≤ 1) (hs : slots ≤ 6) :
    vx_W p l e R s m args below meth c H locs cells slots (vx_MQ below (fun _ _ _ _ => False) (tp_XC E D cy n ad I o A) args s 1 6 A) (F0 m pc ls rest) q9 :=
  vx_out (E := E) (fun x hx => (hxt x hx).elim) hlocks hce hcv hcl (fun t ht ha => ⟨(), trivial, ⟨rfl, by rw [ht]; exact hP, va_K.moved ha hK, hD⟩, hS.F ht⟩) hS.2.2 hc hs
theorem tp_gone {mc ms : Nat} {E : String} {A1 : Nat → Prop} {free : Addr → Prop} {st : List Value} (hr : vx_Run p l e R s m args below meth c H locs cells slots mc ms (F0 m pc ls st) rest (fun _ _ _ => False) (tp_XC E D cy n ad I o A1) free) (hS : va_S A H0 H locs) (hAX : ∀ q, A1 q → A q) (hf : ∀ q, free q → A q)
    (kx : ∀ (ce : Cell) (q9 : Addr) (H1 : Heap) (locs1 : List Loc), H1[q9]? = some ce → ce.vm = .none → s.vm.findClass E = some ce.cls → va_P D vwCl (tp_w cy n ad I o) H1 → va_D A (tp_w cy n ad I o) → va_S A H0 H1 locs1 → vx_W p l e R s m args below meth c H1 locs1 (cells + mc) (slots + ms) Q (F0 m pc ls rest) q9) : W p l e R s m args below meth c H locs cells slots Q (F0 m pc ls st) := by
  intro T hT X
  rcases hr T hT X with ⟨v, st₀, t, T', L, h0, X', hL, e1, e2, hQ, st⟩ | ⟨q, st₀, t, T', L, E', ce, h0, X', hL, e1, e2, ⟨u, -, ⟨rfl, hP1, hK1, hD1⟩, hF⟩, hce, hcv, hcl, st⟩
  · exact hQ.elim
  · obtain ⟨k1, k2, k3⟩ := vx_keep h0 e1 hS (fun q _ h => hAX q h) hf hL hF
    obtain ⟨t2, a1, b1⟩ := kx ce q T'.heap (locs ++ L) (by rw [e1]; exact hce) hcv hcl (by rw [e1]; exact hP1) (hD1.weaken (fun _ _ _ h => hAX _ h)) k3 T' rfl X'
    exact ⟨t2, st.trans a1, b1⟩
theorem tp_callVT {own C E : String} {index nA nL maxL fr lo : Nat} {y : MethodName} {bytes : ByteArray} {ret : Option FieldType} {ws Ts : List Cond} {b : Nat} {As st fs : List Value} {q : vw_C}
    (S : CallFix p m c cc nL s args Ts own) (hM : tp_T l y ws fr lo D cy n ad o sa tL tM (.ref b :: As) I E) (cw : CallW R s args own C index y bytes maxL ret ws (tp_rx fr lo) 1 6 nA) (hE : tp_EV sa tL tM A s s.heap) (hK : va_K D vwCl (tp_ty cy) s) (hP : va_P D vwCl (tp_w cy n ad I o) H) (hD : va_D A (tp_w cy n ad I o)) (hS : va_S A s.heap H locs) (hA : ∀ q : Nat, s.heap.size ≤ q → A q)
    (k0 ci : Nat) (he : (tp_w cy n ad I o)[k0]? = some (b, .inr (ci, fs))) (hci : vwCl[ci]? = some q) (hqC : q.1 = C) (hn : As.length = nA) (hls : ls.size = nL) (hst : st = As.reverse ++ .ref b :: rest) (hroom : (rest.map fun v => v.category).sum ≤ 8) (hdg : decode cc pc = .ok (.invokevirtual index, 3)) (hcs : cells + 1 ≤ R.cells ∧ slots + 6 ≤ R.slots)
    (kx : ∀ (ce : Cell) (q9 : Addr) (H1 : Heap) (locs1 : List Loc), H1[q9]? = some ce → ce.vm = .none → s.vm.findClass E = some ce.cls → va_P D vwCl (tp_w cy n ad I o) H1 → va_D A (tp_w cy n ad I o) → va_S A s.heap H1 locs1 → vx_W p l e R s m args below meth c H1 locs1 (cells + 1) (slots + 6) Q (F0 m pc ls rest) q9) : W p l e R s m args below meth c H locs cells slots Q (F0 m pc ls st) := by
  subst hst
  subst hqC
  have hF := tp_fr hD hS hA
  exact tp_gone (vx_runV (As := As) (rest := rest) S (hM H.size) cw ⟨tp_blindE, va_recv hK hP hci he, fun U hU hW => ⟨rfl, ⟨by rw [hU], by rw [hU]; exact hP, va_K.moved hW.alike hK, hD.weaken (fun _ _ _ _ => trivial)⟩, tp_EV.go hE hW hU hS hF⟩⟩ rfl hn hls rfl (lv_room hroom) hdg hcs) hS hF hF kx
theorem tp_callST {own E : String} {index nA nL maxL fr lo : Nat} {y : MethodName} {bytes : ByteArray} {ret : Option FieldType} {ws Ts : List Cond} {As st : List Value}
    (S : CallFix p m c cc nL s args Ts own) (hM : tp_T l y ws fr lo D cy n ad o sa tL tM As I E) (cw : CallB R s args own index y bytes maxL ret ws (tp_rx fr lo) 1 6 nA ∧ (Cond.static y).before args s = true) (hE : tp_EV sa tL tM A s s.heap) (hK : va_K D vwCl (tp_ty cy) s) (hP : va_P D vwCl (tp_w cy n ad I o) H) (hD : va_D A (tp_w cy n ad I o)) (hS : va_S A s.heap H locs) (hA : ∀ q : Nat, s.heap.size ≤ q → A q)
    (hn : As.length = nA) (hls : ls.size = nL) (hst : st = As.reverse ++ rest) (hroom : (rest.map fun v => v.category).sum ≤ 8) (hdg : decode cc pc = .ok (.invokestatic index, 3)) (hcs : cells + 1 ≤ R.cells ∧ slots + 6 ≤ R.slots)
    (kx : ∀ (ce : Cell) (q9 : Addr) (H1 : Heap) (locs1 : List Loc), H1[q9]? = some ce → ce.vm = .none → s.vm.findClass E = some ce.cls → va_P D vwCl (tp_w cy n ad I o) H1 → va_D A (tp_w cy n ad I o) → va_S A s.heap H1 locs1 → vx_W p l e R s m args below meth c H1 locs1 (cells + 1) (slots + 6) Q (F0 m pc ls rest) q9) : W p l e R s m args below meth c H locs cells slots Q (F0 m pc ls st) := by
  subst hst
  have hF := tp_fr hD hS hA
  exact tp_gone (vx_runS (As := As) (rest := rest) S (hM H.size) cw ⟨tp_blindE, fun U hU hW => ⟨rfl, ⟨by rw [hU], by rw [hU]; exact hP, va_K.moved hW.alike hK, hD.weaken (fun _ _ _ _ => trivial)⟩, tp_EV.go hE hW hU hS hF⟩⟩ rfl hn hls rfl (lv_room hroom) hdg hcs) hS hF hF kx
theorem tp_callR {own C : String} {index nA nL maxL fr lo k : Nat} {y : MethodName} {bytes : ByteArray} {ret : Option FieldType} {ws Ts : List Cond} {b : Nat} {As st fs : List Value} {q : vw_C}
    (S : CallFix p m c cc nL s args Ts own) (hM : tp_R l y ws (tp_rm fr lo) D cy n ad o (.ref b :: As) I k) (cw : CallW R s args own C index y bytes maxL ret ws (tp_rm fr lo) 0 0 nA) (hK : va_K D vwCl (tp_ty cy) s) (hP : va_P D vwCl (tp_w cy n ad I o) H) (hD : va_D A (tp_w cy n ad I o)) (hS : va_S A H0 H locs) (hA : ∀ q : Nat, H0.size ≤ q → A q)
    (k0 ci : Nat) (he : (tp_w cy n ad I o)[k0]? = some (b, .inr (ci, fs))) (hci : vwCl[ci]? = some q) (hqC : q.1 = C) (hn : As.length = nA) (hls : ls.size = nL) (hst : st = As.reverse ++ .ref b :: rest) (hroom : (rest.map fun v => v.category).sum ≤ 8) (hdg : decode cc pc = .ok (.invokevirtual index, 3)) (hcs : cells ≤ R.cells ∧ slots ≤ R.slots)
    (kk : ∀ (H1 : Heap) (locs1 : List Loc), va_P D vwCl (tp_w cy n ad I o) H1 → va_D A (tp_w cy n ad I o) → va_S A H0 H1 locs1 → W p l e R s m args below meth c H1 locs1 cells slots Q (F0 m (pc + 3) ls (.ref (ad k) :: rest))) : W p l e R s m args below meth c H locs cells slots Q (F0 m pc ls st) := by
  subst hst
  subst hqC
  have hF := tp_fr hD hS hA
  refine va_callq (va_runV (As := As) (rest := rest) S (hM H.size) cw ⟨tp_blind, va_recv hK hP hci he, fun U hU hW => ⟨rfl, by rw [hU], by rw [hU]; exact hP, va_K.moved hW.alike hK, hD.weaken (fun _ _ _ _ => trivial)⟩⟩ rfl hn hls rfl (lv_room hroom) hdg hcs) hS (fun q _ h => hF q h) hF (fun r1 u t H1 locs1 ht hvm hw hB hz1 hk1 hS1 => ?_)
  obtain ⟨rfl, rfl⟩ := hw
  obtain ⟨hP1, hK1, hD1⟩ := hB
  rw [ht] at hP1
  exact kk H1 locs1 hP1 (hD1.weaken (fun _ _ _ h => hF _ h)) hS1
/-- a nest mate's private method -/
theorem tp_callN {own C host : String} {index nA nL maxL fr lo : Nat} {y : MethodName} {bytes : ByteArray} {ret : Option FieldType} {ws Ts : List Cond} {b : Nat} {As st fs : List Value} {r : Int32} {I' : Nat → Nat → Int32} {q : vw_C}
    (S : CallFix p m c cc nL s args Ts own) (hM : tp_I l y ws (tp_rm fr lo) D cy n ad o (.ref b :: As) I r I') (cw : va_CN R s args own index y host bytes maxL ret ws (tp_rm fr lo) 0 0 nA ∧ (Cond.instanceMethod y).before args s = true ∧ (Cond.selects C y y).before args s = true) (hK : va_K D vwCl (tp_ty cy) s) (hP : va_P D vwCl (tp_w cy n ad I o) H) (hD : va_D A (tp_w cy n ad I o)) (hS : va_S A H0 H locs) (hA : ∀ q : Nat, H0.size ≤ q → A q)
    (k0 ci : Nat) (he : (tp_w cy n ad I o)[k0]? = some (b, .inr (ci, fs))) (hci : vwCl[ci]? = some q) (hqC : q.1 = C) (hn : As.length = nA) (hls : ls.size = nL) (hst : st = As.reverse ++ .ref b :: rest) (hroom : (rest.map fun v => v.category).sum ≤ 8) (hdg : decode cc pc = .ok (.invokevirtual index, 3)) (hcs : cells ≤ R.cells ∧ slots ≤ R.slots)
    (kk : ∀ I1 : Nat → Nat → Int32, I' = I1 → ∀ (H1 : Heap) (locs1 : List Loc), va_P D vwCl (tp_w cy n ad I1 o) H1 → va_D A (tp_w cy n ad I1 o) → va_S A H0 H1 locs1 → W p l e R s m args below meth c H1 locs1 cells slots Q (F0 m (pc + 3) ls (.int r :: rest))) : W p l e R s m args below meth c H locs cells slots Q (F0 m pc ls st) := by
  subst hst
  subst hqC
  have hF := tp_fr hD hS hA
  refine va_calli (va_runVN (As := As) (rest := rest) S (hM H.size) cw ⟨tp_blind, va_recv hK hP hci he, fun U hU hW => ⟨rfl, by rw [hU], by rw [hU]; exact hP, va_K.moved hW.alike hK, hD.weaken (fun _ _ _ _ => trivial)⟩⟩ rfl hn hls rfl (lv_room hroom) hdg hcs) hS (fun q _ h => hF q h) hF (fun r1 u t H1 locs1 ht hvm hw hB hz1 hk1 hS1 => ?_)
  obtain ⟨rfl, rfl⟩ := hw
  obtain ⟨hP1, hK1, hD1⟩ := hB
  rw [ht] at hP1
  exact kk _ rfl H1 locs1 hP1 (hD1.weaken (fun _ _ _ h => hF _ h)) hS1
theorem tp_callNv {own C host : String} {index nA nL maxL fr lo : Nat} {y : MethodName} {bytes : ByteArray} {ret : Option FieldType} {ws Ts : List Cond} {b : Nat} {As st fs : List Value} {I' : Nat → Nat → Int32} {q : vw_C}
    (S : CallFix p m c cc nL s args Ts own) (hM : tp_V l y ws (tp_rm fr lo) D cy n ad o (.ref b :: As) I I') (cw : va_CN R s args own index y host bytes maxL ret ws (tp_rm fr lo) 0 0 nA ∧ (Cond.instanceMethod y).before args s = true ∧ (Cond.selects C y y).before args s = true) (hK : va_K D vwCl (tp_ty cy) s) (hP : va_P D vwCl (tp_w cy n ad I o) H) (hD : va_D A (tp_w cy n ad I o)) (hS : va_S A H0 H locs) (hA : ∀ q : Nat, H0.size ≤ q → A q)
    (k0 ci : Nat) (he : (tp_w cy n ad I o)[k0]? = some (b, .inr (ci, fs))) (hci : vwCl[ci]? = some q) (hqC : q.1 = C) (hn : As.length = nA) (hls : ls.size = nL) (hst : st = As.reverse ++ .ref b :: rest) (hroom : (rest.map fun v => v.category).sum ≤ 8) (hdg : decode cc pc = .ok (.invokevirtual index, 3)) (hcs : cells ≤ R.cells ∧ slots ≤ R.slots)
    (kk : ∀ I1 : Nat → Nat → Int32, I' = I1 → ∀ (H1 : Heap) (locs1 : List Loc), va_P D vwCl (tp_w cy n ad I1 o) H1 → va_D A (tp_w cy n ad I1 o) → va_S A H0 H1 locs1 → W p l e R s m args below meth c H1 locs1 cells slots Q (F0 m (pc + 3) ls rest)) : W p l e R s m args below meth c H locs cells slots Q (F0 m pc ls st) := by
  subst hst
  subst hqC
  have hF := tp_fr hD hS hA
  refine va_callv (va_runVN (As := As) (rest := rest) S (hM H.size) cw ⟨tp_blind, va_recv hK hP hci he, fun U hU hW => ⟨rfl, by rw [hU], by rw [hU]; exact hP, va_K.moved hW.alike hK, hD.weaken (fun _ _ _ _ => trivial)⟩⟩ rfl hn hls rfl (lv_room hroom) hdg hcs) hS (fun q _ h => hF q h) hF (fun u t H1 locs1 ht hvm hw hB hz1 hk1 hS1 => ?_)
  subst hw
  obtain ⟨hP1, hK1, hD1⟩ := hB
  rw [ht] at hP1
  exact kk _ rfl H1 locs1 hP1 (hD1.weaken (fun _ _ _ h => hF _ h)) hS1
/-- the void static ones -/
theorem tp_callSv {own : String} {index nA nL maxL fr lo : Nat} {y : MethodName} {bytes : ByteArray} {ret : Option FieldType} {ws Ts : List Cond} {As st : List Value} {I' : Nat → Nat → Int32}
    (S : CallFix p m c cc nL s args Ts own) (hM : tp_V l y ws (tp_rm fr lo) D cy n ad o As I I') (cw : CallB R s args own index y bytes maxL ret ws (tp_rm fr lo) 0 0 nA ∧ (Cond.static y).before args s = true) (hK : va_K D vwCl (tp_ty cy) s) (hP : va_P D vwCl (tp_w cy n ad I o) H) (hD : va_D A (tp_w cy n ad I o)) (hS : va_S A H0 H locs) (hA : ∀ q : Nat, H0.size ≤ q → A q)
    (hn : As.length = nA) (hls : ls.size = nL) (hst : st = As.reverse ++ rest) (hroom : (rest.map fun v => v.category).sum ≤ 8) (hdg : decode cc pc = .ok (.invokestatic index, 3)) (hcs : cells ≤ R.cells ∧ slots ≤ R.slots)
    (kk : ∀ I1 : Nat → Nat → Int32, I' = I1 → ∀ (H1 : Heap) (locs1 : List Loc), va_P D vwCl (tp_w cy n ad I1 o) H1 → va_D A (tp_w cy n ad I1 o) → va_S A H0 H1 locs1 → W p l e R s m args below meth c H1 locs1 cells slots Q (F0 m (pc + 3) ls rest)) : W p l e R s m args below meth c H locs cells slots Q (F0 m pc ls st) := by
  subst hst
  have hF := tp_fr hD hS hA
  refine va_callv (va_runS (As := As) (rest := rest) S (hM H.size) cw ⟨tp_blind, fun U hU hW => ⟨rfl, by rw [hU], by rw [hU]; exact hP, va_K.moved hW.alike hK, hD.weaken (fun _ _ _ _ => trivial)⟩⟩ rfl hn hls rfl (lv_room hroom) hdg hcs) hS (fun q _ h => hF q h) hF (fun u t H1 locs1 ht hvm hw hB hz1 hk1 hS1 => ?_)
  subst hw
  obtain ⟨hP1, hK1, hD1⟩ := hB
  rw [ht] at hP1
  exact kk _ rfl H1 locs1 hP1 (hD1.weaken (fun _ _ _ h => hF _ h)) hS1
/-- the rows of the office: their length, a row -/
theorem tp_rlen (hx : p.tables.exec = Jvm.exec) (hb : c.code = cc) (hK : va_K D vwCl (tp_ty cy) s) (hP : va_P D vwCl (tp_w cy n ad I o) H) (hdg : decode cc pc = .ok (.arraylength, 1))
    (kk : W p l e R s m args below meth c H locs cells slots Q (F0 m (pc + 1) ls (.int 6 :: rest))) : W p l e R s m args below meth c H locs cells slots Q (F0 m pc ls (.ref (ad 1) :: rest)) :=
  va_alen hx hb hK hP 1 3 (tp_at (by omega)) rfl (v := 6) rfl hdg kk
theorem tp_rald {x : Int32} (hx : p.tables.exec = Jvm.exec) (hb : c.code = cc) (hK : va_K D vwCl (tp_ty cy) s) (hP : va_P D vwCl (tp_w cy n ad I o) H) (i : Nat) (hi : i < n) (hi6 : i < 6) (hxi : x = nI i) (hdg : decode cc pc = .ok (.aaload, 1))
    (kk : W p l e R s m args below meth c H locs cells slots Q (F0 m (pc + 1) ls (.ref (ad (9 + 15 * i)) :: rest))) : W p l e R s m args below meth c H locs cells slots Q (F0 m pc ls (.int x :: .ref (ad 1) :: rest)) := by
  subst hxi
  refine va_aldq hx hb hK hP 1 3 (tp_at (by omega)) rfl (vp_in_nI hi6 (by decide)) hdg ?_
  rw [nI_clamp (by omega), show tp_rf n (fun j => ad (9 + 15 * j)) i = some (ad (9 + 15 * i)) from if_pos hi]
  exact kk
theorem tp_raldN {x : Int32} (hx : p.tables.exec = Jvm.exec) (hb : c.code = cc) (hK : va_K D vwCl (tp_ty cy) s) (hP : va_P D vwCl (tp_w cy n ad I o) H) (i : Nat) (hi : n ≤ i) (hi6 : i < 6) (hxi : x = nI i) (hdg : decode cc pc = .ok (.aaload, 1))
    (kk : W p l e R s m args below meth c H locs cells slots Q (F0 m (pc + 1) ls (.null :: rest))) : W p l e R s m args below meth c H locs cells slots Q (F0 m pc ls (.int x :: .ref (ad 1) :: rest)) := by
  subst hxi
  refine va_aldq hx hb hK hP 1 3 (tp_at (by omega)) rfl (vp_in_nI hi6 (by decide)) hdg ?_
  rw [nI_clamp (by omega), show tp_rf n (fun j => ad (9 + 15 * j)) i = none from if_neg (by omega)]
  exact kk
end TPER
end TPE
end
section
theorem tp_ix {x : Int32} {N : Nat} (hN : N < 2 ^ 31) (h : ¬ x < 0) (h2 : x < nI N) : ∃ j : Nat, j < N ∧ x = nI j := by
  rcases pk_ix x hN with q | q | q
  · exact absurd q h
  · exact absurd (Int32.lt_iff_toInt_lt.mp h2) (by have := Int32.le_iff_toInt_le.mp q; omega)
  · exact q
set_option maxHeartbeats 4000000 in
set_option maxRecDepth 100000 in
/-- existing(number): a household -/
theorem oc_existing (l : Launch) (D : va_G) (cy : Nat → ClassId) (n : Nat) (ad : Nat → Nat) (o : Int64) (I : Nat → Nat → Int32) (i : Nat) (hi : i < n) (hn6 : n ≤ 6) : tp_R l yX1_existing wsX1_existing (tp_rm 0 0) D cy n ad o [.ref (ad (0)), .int (nI i)] I (9 + 15 * i) := by
  refine tp_ofR (lv := [(0, .ref (ad (0))), (1, .int (nI i))]) (by decide) rfl (Nat.le_of_ble_eq_true rfl) rfl (fun p e s m args below meth c A ls S0 => ?_)
  obtain ⟨hx, hb, hr, hml, hown, hts, hlocks, hA, hK, hP, hD, hS, hl⟩ := S0
  refine lv_iload_n hx hb dX1_existing_0 rfl (lv_at hl 1 rfl) ?_
  refine lv_if_lt (tgt := 13) hx hb dX1_existing_1 (by decide) (fun c1_1 => ?_) (fun c1_1 => ?_)
  · exact absurd c1_1 (nI_pos (by omega))
  · refine lv_iload_n hx hb dX1_existing_4 rfl (lv_at hl 1 rfl) ?_
    refine lv_aload_n hx hb dX1_existing_5 rfl (lv_at hl 0 rfl) ?_
    refine va_get (D := D) (ci := 1) (v := .ref (ad (1))) (C := RX1) (T := TX1) (N := 3) hx hb hts (fun _ h => List.mem_cons_of_mem _ (List.mem_append_left _ (List.mem_append_right _ (h)))) hown hK hP 0 tp_e0 rfl 0 (by decide) (hts _ (List.mem_of_getElem? (i := 3) rfl)) (fun _ h9 => h9) rfl dX1_existing_6 ?_
    refine tp_rlen hx hb hK hP dX1_existing_9 ?_
    refine lv_icmp_lt (tgt := 23) hx hb dX1_existing_10 (by decide) (fun c10_2 => ?_) (fun c10_2 => ?_)
    · refine lv_aload_n hx hb dX1_existing_23 rfl (lv_at hl 0 rfl) ?_
      refine va_get (D := D) (ci := 1) (v := .ref (ad (1))) (C := RX1) (T := TX1) (N := 3) hx hb hts (fun _ h => List.mem_cons_of_mem _ (List.mem_append_left _ (List.mem_append_right _ (h)))) hown hK hP 0 tp_e0 rfl 0 (by decide) (hts _ (List.mem_of_getElem? (i := 3) rfl)) (fun _ h9 => h9) rfl dX1_existing_24 ?_
      refine lv_iload_n hx hb dX1_existing_27 rfl (lv_at hl 1 rfl) ?_
      refine tp_rald hx hb hK hP i hi (by omega) rfl dX1_existing_28 ?_
      refine lv_astore_n (lv' := [(2, .ref (ad (9 + 15 * i))), (0, .ref (ad (0))), (1, .int (nI i))]) hx hb dX1_existing_29 rfl hl (by decide) rfl (fun ls hl => ?_)
      refine lv_aload_n hx hb dX1_existing_30 rfl (lv_at hl 0 rfl) ?_
      refine lv_ifnonnull (tgt := 44) hx hb dX1_existing_31 (by decide) ?_
      refine lv_aload_n hx hb dX1_existing_44 rfl (lv_at hl 0 rfl) ?_
      exact tp_retq hx hb hr (Or.inl ⟨_, rfl⟩) hlocks hK hP hD hS dX1_existing_45
    · exact absurd (nI_lt (a := i) (b := 6) (by omega) (by decide)) c10_2
set_option maxHeartbeats 4000000 in
set_option maxRecDepth 100000 in
/-- existing(number): none -/
theorem oc_existing_no (l : Launch) (D : va_G) (cy : Nat → ClassId) (n : Nat) (ad : Nat → Nat) (o : Int64) (I : Nat → Nat → Int32) (sa : Nat → Nat) (tL tM : Nat) (hlt : l.stackTraces = false) (x : Int32) (hx0 : ∀ i, i < n → x ≠ nI i) (hn6 : n ≤ 6) : tp_T l yX1_existing wsX1_existing 6 90 D cy n ad o sa tL tM [.ref (ad (0)), .int x] I "java/lang/IndexOutOfBoundsException" := by
  refine tp_ofT (lv := [(0, .ref (ad (0))), (1, .int x)]) (by decide) rfl (Nat.le_of_ble_eq_true rfl) rfl (fun p e s m args below meth c A ls S0 hE hxt => ?_)
  obtain ⟨hx, hb, hr, hml, hown, hts, hlocks, hA, hK, hP, hD, hS, hl⟩ := S0
  obtain ⟨-, ⟨hEL, hEM⟩, -, hEw, -, hEa, hEo⟩ := id hE
  refine lv_iload_n hx hb dX1_existing_0 rfl (lv_at hl 1 rfl) ?_
  refine lv_if_lt (tgt := 13) hx hb dX1_existing_1 (by decide) (fun c1_1 => ?_) (fun c1_1 => ?_)
  · exact tp_throw (text := "there is no such household") (ik := 120) (is := 122) (ic := 124) hx hb hlt hown (by decide +kernel) (hts _ (List.mem_of_getElem? (i := 1) rfl)) (hts _ (List.mem_of_getElem? (i := 2) rfl)) (by decide) (fun w h => hts w (List.mem_cons_of_mem _ (List.mem_append_right _ (h)))) (by decide +kernel) (by decide +kernel) hE hK hP hD hS (hl.1.trans hml.symm) dX1_existing_13 dX1_existing_16 dX1_existing_17 dX1_existing_19 dX1_existing_22 hxt hlocks (Nat.le_of_ble_eq_true rfl) (Nat.le_of_ble_eq_true rfl) (Nat.le_of_ble_eq_true rfl) (Nat.le_of_ble_eq_true rfl)
  · refine lv_iload_n hx hb dX1_existing_4 rfl (lv_at hl 1 rfl) ?_
    refine lv_aload_n hx hb dX1_existing_5 rfl (lv_at hl 0 rfl) ?_
    refine va_get (D := D) (ci := 1) (v := .ref (ad (1))) (C := RX1) (T := TX1) (N := 3) hx hb hts (fun _ h => List.mem_cons_of_mem _ (List.mem_append_left _ (List.mem_append_right _ (h)))) hown hK hP 0 tp_e0 rfl 0 (by decide) (hts _ (List.mem_of_getElem? (i := 3) rfl)) (fun _ h9 => h9) rfl dX1_existing_6 ?_
    refine tp_rlen hx hb hK hP dX1_existing_9 ?_
    refine lv_icmp_lt (tgt := 23) hx hb dX1_existing_10 (by decide) (fun c10_2 => ?_) (fun c10_2 => ?_)
    · obtain ⟨j, hj6, hjx⟩ := tp_ix (N := 6) (by decide) c1_1 c10_2
      have hjn : n ≤ j := by
        rcases Nat.lt_or_ge j n with z | z
        · exact absurd hjx (hx0 j z)
        · exact z
      refine lv_aload_n hx hb dX1_existing_23 rfl (lv_at hl 0 rfl) ?_
      refine va_get (D := D) (ci := 1) (v := .ref (ad (1))) (C := RX1) (T := TX1) (N := 3) hx hb hts (fun _ h => List.mem_cons_of_mem _ (List.mem_append_left _ (List.mem_append_right _ (h)))) hown hK hP 0 tp_e0 rfl 0 (by decide) (hts _ (List.mem_of_getElem? (i := 3) rfl)) (fun _ h9 => h9) rfl dX1_existing_24 ?_
      refine lv_iload_n hx hb dX1_existing_27 rfl (lv_at hl 1 rfl) ?_
      refine tp_raldN hx hb hK hP j hjn hj6 hjx dX1_existing_28 ?_
      refine lv_astore_nN (lv' := [(2, .null), (0, .ref (ad (0))), (1, .int x)]) hx hb dX1_existing_29 rfl hl (by decide) rfl (fun ls hl => ?_)
      refine lv_aload_nN hx hb dX1_existing_30 rfl (lv_at hl 0 rfl) ?_
      refine lv_ifnonnullN hx hb dX1_existing_31 ?_
      exact tp_throw (text := "there is no such household") (ik := 120) (is := 122) (ic := 124) hx hb hlt hown (by decide +kernel) (hts _ (List.mem_of_getElem? (i := 1) rfl)) (hts _ (List.mem_of_getElem? (i := 2) rfl)) (by decide) (fun w h => hts w (List.mem_cons_of_mem _ (List.mem_append_right _ (h)))) (by decide +kernel) (by decide +kernel) hE hK hP hD hS (hl.1.trans hml.symm) dX1_existing_34 dX1_existing_37 dX1_existing_38 dX1_existing_40 dX1_existing_43 hxt hlocks (Nat.le_of_ble_eq_true rfl) (Nat.le_of_ble_eq_true rfl) (Nat.le_of_ble_eq_true rfl) (Nat.le_of_ble_eq_true rfl)
    · exact tp_throw (text := "there is no such household") (ik := 120) (is := 122) (ic := 124) hx hb hlt hown (by decide +kernel) (hts _ (List.mem_of_getElem? (i := 1) rfl)) (hts _ (List.mem_of_getElem? (i := 2) rfl)) (by decide) (fun w h => hts w (List.mem_cons_of_mem _ (List.mem_append_right _ (h)))) (by decide +kernel) (by decide +kernel) hE hK hP hD hS (hl.1.trans hml.symm) dX1_existing_13 dX1_existing_16 dX1_existing_17 dX1_existing_19 dX1_existing_22 hxt hlocks (Nat.le_of_ble_eq_true rfl) (Nat.le_of_ble_eq_true rfl) (Nat.le_of_ble_eq_true rfl) (Nat.le_of_ble_eq_true rfl)
set_option maxHeartbeats 4000000 in
set_option maxRecDepth 100000 in
/-- checkMonth -/
theorem oc_checkMonth (l : Launch) (D : va_G) (cy : Nat → ClassId) (n : Nat) (ad : Nat → Nat) (o : Int64) (I : Nat → Nat → Int32) (q0 : Nat) (hq0 : q0 < 48) : tp_V l yX1_checkMonth wsX1_checkMonth (tp_rm 0 0) D cy n ad o [.int (nI q0)] I (I) := by
  refine tp_ofV (lv := [(0, .int (nI q0))]) (by decide) rfl (Nat.le_of_ble_eq_true rfl) rfl (fun p e s m args below meth c A ls S0 => ?_)
  obtain ⟨hx, hb, hr, hml, hown, hts, hlocks, hA, hK, hP, hD, hS, hl⟩ := S0
  refine lv_iload_n hx hb dX1_checkMonth_0 rfl (lv_at hl 0 rfl) ?_
  refine lv_if_lt (tgt := 10) hx hb dX1_checkMonth_1 (by decide) (fun c1_1 => ?_) (fun c1_1 => ?_)
  · exact absurd c1_1 (nI_pos (by omega))
  · refine lv_iload_n hx hb dX1_checkMonth_4 rfl (lv_at hl 0 rfl) ?_
    refine lv_bipush (v := 48) hx hb dX1_checkMonth_5 (by decide) ?_
    refine lv_icmp_lt (tgt := 20) hx hb dX1_checkMonth_7 (by decide) (fun c7_2 => ?_) (fun c7_2 => ?_)
    · exact tp_retv hx hb hr hlocks hK hP hD hS rfl dX1_checkMonth_20
    · exact absurd (nI_lt (a := q0) (b := 48) (by omega) (by decide)) c7_2
set_option maxHeartbeats 4000000 in
set_option maxRecDepth 100000 in
/-- checkMonth: no -/
theorem oc_checkMonth_no (l : Launch) (D : va_G) (cy : Nat → ClassId) (n : Nat) (ad : Nat → Nat) (o : Int64) (I : Nat → Nat → Int32) (sa : Nat → Nat) (tL tM : Nat) (hlt : l.stackTraces = false) (x : Int32) (hx0 : ∀ j, j < 48 → x ≠ nI j) : tp_T l yX1_checkMonth wsX1_checkMonth 6 90 D cy n ad o sa tL tM [.int x] I "java/lang/IndexOutOfBoundsException" := by
  refine tp_ofT (lv := [(0, .int x)]) (by decide) rfl (Nat.le_of_ble_eq_true rfl) rfl (fun p e s m args below meth c A ls S0 hE hxt => ?_)
  obtain ⟨hx, hb, hr, hml, hown, hts, hlocks, hA, hK, hP, hD, hS, hl⟩ := S0
  obtain ⟨-, ⟨hEL, hEM⟩, -, hEw, -, hEa, hEo⟩ := id hE
  refine lv_iload_n hx hb dX1_checkMonth_0 rfl (lv_at hl 0 rfl) ?_
  refine lv_if_lt (tgt := 10) hx hb dX1_checkMonth_1 (by decide) (fun c1_1 => ?_) (fun c1_1 => ?_)
  · exact tp_throw (text := "there is no such month") (ik := 120) (is := 125) (ic := 124) hx hb hlt hown (by decide +kernel) (hts _ (List.mem_of_getElem? (i := 1) rfl)) (hts _ (List.mem_of_getElem? (i := 2) rfl)) (by decide) (fun w h => hts w (List.mem_cons_of_mem _ (List.mem_append_right _ (h)))) (by decide +kernel) (by decide +kernel) hE hK hP hD hS (hl.1.trans hml.symm) dX1_checkMonth_10 dX1_checkMonth_13 dX1_checkMonth_14 dX1_checkMonth_16 dX1_checkMonth_19 hxt hlocks (Nat.le_of_ble_eq_true rfl) (Nat.le_of_ble_eq_true rfl) (Nat.le_of_ble_eq_true rfl) (Nat.le_of_ble_eq_true rfl)
  · refine lv_iload_n hx hb dX1_checkMonth_4 rfl (lv_at hl 0 rfl) ?_
    refine lv_bipush (v := 48) hx hb dX1_checkMonth_5 (by decide) ?_
    refine lv_icmp_lt (tgt := 20) hx hb dX1_checkMonth_7 (by decide) (fun c7_2 => ?_) (fun c7_2 => ?_)
    · obtain ⟨j, hj6, hjx⟩ := tp_ix (N := 48) (by decide) c1_1 c7_2
      exact absurd hjx (hx0 j hj6)
    · exact tp_throw (text := "there is no such month") (ik := 120) (is := 125) (ic := 124) hx hb hlt hown (by decide +kernel) (hts _ (List.mem_of_getElem? (i := 1) rfl)) (hts _ (List.mem_of_getElem? (i := 2) rfl)) (by decide) (fun w h => hts w (List.mem_cons_of_mem _ (List.mem_append_right _ (h)))) (by decide +kernel) (by decide +kernel) hE hK hP hD hS (hl.1.trans hml.symm) dX1_checkMonth_10 dX1_checkMonth_13 dX1_checkMonth_14 dX1_checkMonth_16 dX1_checkMonth_19 hxt hlocks (Nat.le_of_ble_eq_true rfl) (Nat.le_of_ble_eq_true rfl) (Nat.le_of_ble_eq_true rfl) (Nat.le_of_ble_eq_true rfl)
set_option maxHeartbeats 4000000 in
set_option maxRecDepth 100000 in
/-- checkFact -/
theorem oc_checkFact (l : Launch) (D : va_G) (cy : Nat → ClassId) (n : Nat) (ad : Nat → Nat) (o : Int64) (I : Nat → Nat → Int32) (q0 : Nat) (hq0 : q0 < 5) : tp_V l yX1_checkFact wsX1_checkFact (tp_rm 0 0) D cy n ad o [.int (nI q0)] I (I) := by
  refine tp_ofV (lv := [(0, .int (nI q0))]) (by decide) rfl (Nat.le_of_ble_eq_true rfl) rfl (fun p e s m args below meth c A ls S0 => ?_)
  obtain ⟨hx, hb, hr, hml, hown, hts, hlocks, hA, hK, hP, hD, hS, hl⟩ := S0
  refine lv_iload_n hx hb dX1_checkFact_0 rfl (lv_at hl 0 rfl) ?_
  refine lv_if_lt (tgt := 9) hx hb dX1_checkFact_1 (by decide) (fun c1_1 => ?_) (fun c1_1 => ?_)
  · exact absurd c1_1 (nI_pos (by omega))
  · refine lv_iload_n hx hb dX1_checkFact_4 rfl (lv_at hl 0 rfl) ?_
    refine lv_iconst (v := 5) hx hb dX1_checkFact_5 (by decide) ?_
    refine lv_icmp_lt (tgt := 19) hx hb dX1_checkFact_6 (by decide) (fun c6_2 => ?_) (fun c6_2 => ?_)
    · exact tp_retv hx hb hr hlocks hK hP hD hS rfl dX1_checkFact_19
    · exact absurd (nI_lt (a := q0) (b := 5) (by omega) (by decide)) c6_2
set_option maxHeartbeats 4000000 in
set_option maxRecDepth 100000 in
/-- checkFact: no -/
theorem oc_checkFact_no (l : Launch) (D : va_G) (cy : Nat → ClassId) (n : Nat) (ad : Nat → Nat) (o : Int64) (I : Nat → Nat → Int32) (sa : Nat → Nat) (tL tM : Nat) (hlt : l.stackTraces = false) (x : Int32) (hx0 : ∀ j, j < 5 → x ≠ nI j) : tp_T l yX1_checkFact wsX1_checkFact 6 90 D cy n ad o sa tL tM [.int x] I "java/lang/IllegalArgumentException" := by
  refine tp_ofT (lv := [(0, .int x)]) (by decide) rfl (Nat.le_of_ble_eq_true rfl) rfl (fun p e s m args below meth c A ls S0 hE hxt => ?_)
  obtain ⟨hx, hb, hr, hml, hown, hts, hlocks, hA, hK, hP, hD, hS, hl⟩ := S0
  obtain ⟨-, ⟨hEL, hEM⟩, -, hEw, -, hEa, hEo⟩ := id hE
  refine lv_iload_n hx hb dX1_checkFact_0 rfl (lv_at hl 0 rfl) ?_
  refine lv_if_lt (tgt := 9) hx hb dX1_checkFact_1 (by decide) (fun c1_1 => ?_) (fun c1_1 => ?_)
  · exact tp_throw (text := "there is no such fact") (ik := 41) (is := 127) (ic := 45) hx hb hlt hown (by decide +kernel) (hts _ (List.mem_of_getElem? (i := 1) rfl)) (hts _ (List.mem_of_getElem? (i := 2) rfl)) (by decide) (fun w h => hts w (List.mem_cons_of_mem _ (List.mem_append_right _ (h)))) (by decide +kernel) (by decide +kernel) hE hK hP hD hS (hl.1.trans hml.symm) dX1_checkFact_9 dX1_checkFact_12 dX1_checkFact_13 dX1_checkFact_15 dX1_checkFact_18 hxt hlocks (Nat.le_of_ble_eq_true rfl) (Nat.le_of_ble_eq_true rfl) (Nat.le_of_ble_eq_true rfl) (Nat.le_of_ble_eq_true rfl)
  · refine lv_iload_n hx hb dX1_checkFact_4 rfl (lv_at hl 0 rfl) ?_
    refine lv_iconst (v := 5) hx hb dX1_checkFact_5 (by decide) ?_
    refine lv_icmp_lt (tgt := 19) hx hb dX1_checkFact_6 (by decide) (fun c6_2 => ?_) (fun c6_2 => ?_)
    · obtain ⟨j, hj6, hjx⟩ := tp_ix (N := 5) (by decide) c1_1 c6_2
      exact absurd hjx (hx0 j hj6)
    · exact tp_throw (text := "there is no such fact") (ik := 41) (is := 127) (ic := 45) hx hb hlt hown (by decide +kernel) (hts _ (List.mem_of_getElem? (i := 1) rfl)) (hts _ (List.mem_of_getElem? (i := 2) rfl)) (by decide) (fun w h => hts w (List.mem_cons_of_mem _ (List.mem_append_right _ (h)))) (by decide +kernel) (by decide +kernel) hE hK hP hD hS (hl.1.trans hml.symm) dX1_checkFact_9 dX1_checkFact_12 dX1_checkFact_13 dX1_checkFact_15 dX1_checkFact_18 hxt hlocks (Nat.le_of_ble_eq_true rfl) (Nat.le_of_ble_eq_true rfl) (Nat.le_of_ble_eq_true rfl) (Nat.le_of_ble_eq_true rfl)
/-- the month that a day counts from -/
def tp_r0 (d : Nat) : Nat := if 15 ≤ d % 30 then d / 30 + 1 else d / 30
set_option maxHeartbeats 4000000 in
set_option maxRecDepth 100000 in
/-- monthCountedFrom(day) -/
theorem oc_monthCountedFrom (l : Launch) (D : va_G) (cy : Nat → ClassId) (n : Nat) (ad : Nat → Nat) (o : Int64) (I : Nat → Nat → Int32) (d0 : Nat) (hd0 : d0 < 1440) : tp_I l yX1_monthCountedFrom wsX1_monthCountedFrom (tp_rm 0 0) D cy n ad o [.int (nI d0)] I (nI (tp_r0 d0)) (I) := by
  refine tp_ofI (lv := [(0, .int (nI d0))]) (by decide) rfl (Nat.le_of_ble_eq_true rfl) rfl (fun p e s m args below meth c A ls S0 => ?_)
  obtain ⟨hx, hb, hr, hml, hown, hts, hlocks, hA, hK, hP, hD, hS, hl⟩ := S0
  refine lv_iload_n hx hb dX1_monthCountedFrom_0 rfl (lv_at hl 0 rfl) ?_
  refine lv_bipush (v := 30) hx hb dX1_monthCountedFrom_1 (by decide) ?_
  refine lv_idiv hx hb dX1_monthCountedFrom_3 (by decide) ?_
  refine tp_eqi (y := nI (d0 / 30)) (pk_div (d := 30) (by omega) (by decide) (by decide)) ?_
  refine lv_istore_n (lv' := [(1, .int (nI (d0 / 30))), (0, .int (nI d0))]) hx hb dX1_monthCountedFrom_4 rfl hl (by decide) rfl (fun ls hl => ?_)
  refine lv_iload_n hx hb dX1_monthCountedFrom_5 rfl (lv_at hl 1 rfl) ?_
  refine lv_bipush (v := 30) hx hb dX1_monthCountedFrom_6 (by decide) ?_
  refine lv_irem hx hb dX1_monthCountedFrom_8 (by decide) ?_
  refine tp_eqi (y := nI (d0 % 30)) (pk_rem (d := 30) (by omega) (by decide) (by decide)) ?_
  refine lv_bipush (v := 15) hx hb dX1_monthCountedFrom_9 (by decide) ?_
  refine lv_icmp_ge (tgt := 18) hx hb dX1_monthCountedFrom_11 (by decide) (fun c11_1 => ?_) (fun c11_1 => ?_)
  · refine lv_iload_n hx hb dX1_monthCountedFrom_18 rfl (lv_at hl 0 rfl) ?_
    refine lv_iconst (v := 1) hx hb dX1_monthCountedFrom_19 (by decide) ?_
    refine lv_iadd hx hb dX1_monthCountedFrom_20 ?_
    exact tp_reti hx hb hr hlocks hK hP hD hS rfl (by rw [show tp_r0 d0 = d0 / 30 + 1 from if_pos (by rcases Nat.lt_or_ge (d0 % 30) 15 with z | z; exact absurd c11_1 (nI_ge (a := d0 % 30) (b := 15) z (by decide)); exact z)]; exact nI_1 _) rfl dX1_monthCountedFrom_21
  · refine lv_iload_n hx hb dX1_monthCountedFrom_14 rfl (lv_at hl 0 rfl) ?_
    refine lv_goto (tgt := 21) hx hb dX1_monthCountedFrom_15 (by decide) ?_
    exact tp_reti hx hb hr hlocks hK hP hD hS rfl (by rw [show tp_r0 d0 = d0 / 30 from if_neg (fun z => c11_1 (nI_le (a := 15) (b := d0 % 30) z (by omega)))]) rfl dX1_monthCountedFrom_21
set_option maxHeartbeats 4000000 in
set_option maxRecDepth 100000 in
/-- households() -/
theorem op_households (l : Launch) (D : va_G) (cy : Nat → ClassId) (n : Nat) (ad : Nat → Nat) (o : Int64) (I : Nat → Nat → Int32)  : tp_I l yX1_households wsX1_households (tp_rm 0 0) D cy n ad o [.ref (ad (0))] I (I 0 1) (I) := by
  refine tp_ofI (lv := [(0, .ref (ad (0)))]) (by decide) rfl (Nat.le_of_ble_eq_true rfl) rfl (fun p e s m args below meth c A ls S0 => ?_)
  obtain ⟨hx, hb, hr, hml, hown, hts, hlocks, hA, hK, hP, hD, hS, hl⟩ := S0
  refine lv_aload_n hx hb dX1_households_0 rfl (lv_at hl 0 rfl) ?_
  refine va_get (D := D) (ci := 1) (v := .int (I 0 1)) (C := RX1) (T := TX1) (N := 3) hx hb hts (fun _ h => List.mem_cons_of_mem _ (List.mem_append_right _ (h))) hown hK hP 0 tp_e0 rfl 1 (by decide) (hts _ (List.mem_of_getElem? (i := 1) rfl)) (fun _ h9 => h9) rfl dX1_households_1 ?_
  exact tp_reti hx hb hr hlocks hK hP hD hS rfl rfl rfl dX1_households_4
set_option maxHeartbeats 4000000 in
set_option maxRecDepth 100000 in
/-- month() -/
theorem op_month (l : Launch) (D : va_G) (cy : Nat → ClassId) (n : Nat) (ad : Nat → Nat) (o : Int64) (I : Nat → Nat → Int32)  : tp_I l yX1_month wsX1_month (tp_rm 0 0) D cy n ad o [.ref (ad (0))] I (if 48 ≤ I 0 2 then -1 else I 0 2) (I) := by
  refine tp_ofI (lv := [(0, .ref (ad (0)))]) (by decide) rfl (Nat.le_of_ble_eq_true rfl) rfl (fun p e s m args below meth c A ls S0 => ?_)
  obtain ⟨hx, hb, hr, hml, hown, hts, hlocks, hA, hK, hP, hD, hS, hl⟩ := S0
  refine lv_aload_n hx hb dX1_month_0 rfl (lv_at hl 0 rfl) ?_
  refine va_get (D := D) (ci := 1) (v := .int (I 0 2)) (C := RX1) (T := TX1) (N := 3) hx hb hts (fun _ h => List.mem_cons_of_mem _ (List.mem_append_right _ (h))) hown hK hP 0 tp_e0 rfl 2 (by decide) (hts _ (List.mem_of_getElem? (i := 1) rfl)) (fun _ h9 => h9) rfl dX1_month_1 ?_
  refine lv_bipush (v := 48) hx hb dX1_month_4 (by decide) ?_
  refine lv_icmp_ge (tgt := 16) hx hb dX1_month_6 (by decide) (fun c6_1 => ?_) (fun c6_1 => ?_)
  · refine lv_iconst (v := (-1)) hx hb dX1_month_16 (by decide) ?_
    exact tp_reti hx hb hr hlocks hK hP hD hS rfl (by rw [if_pos c6_1]) rfl dX1_month_17
  · refine lv_aload_n hx hb dX1_month_9 rfl (lv_at hl 0 rfl) ?_
    refine va_get (D := D) (ci := 1) (v := .int (I 0 2)) (C := RX1) (T := TX1) (N := 3) hx hb hts (fun _ h => List.mem_cons_of_mem _ (List.mem_append_right _ (h))) hown hK hP 0 tp_e0 rfl 2 (by decide) (hts _ (List.mem_of_getElem? (i := 1) rfl)) (fun _ h9 => h9) rfl dX1_month_10 ?_
    refine lv_goto (tgt := 17) hx hb dX1_month_13 (by decide) ?_
    exact tp_reti hx hb hr hlocks hK hP hD hS rfl (by rw [if_neg c6_1]) rfl dX1_month_17
set_option maxHeartbeats 4000000 in
set_option maxRecDepth 100000 in
/-- need: no such household -/
theorem op_need_no (l : Launch) (D : va_G) (cy : Nat → ClassId) (n : Nat) (ad : Nat → Nat) (o : Int64) (I : Nat → Nat → Int32) (sa : Nat → Nat) (tL tM : Nat) (hlt : l.stackTraces = false) (x : Int32) (hx0 : ∀ i, i < n → x ≠ nI i) (hn6 : n ≤ 6) (k : Int32) : tp_T l yX1_need wsX1_need 7 112 D cy n ad o sa tL tM [.ref (ad (0)), .int x, .int k] I "java/lang/IndexOutOfBoundsException" := by
  refine tp_ofT (lv := [(0, .ref (ad (0))), (1, .int x), (2, .int k)]) (by decide) rfl (Nat.le_of_ble_eq_true rfl) rfl (fun p e s m args below meth c A ls S0 hE hxt => ?_)
  obtain ⟨hx, hb, hr, hml, hown, hts, hlocks, hA, hK, hP, hD, hS, hl⟩ := S0
  obtain ⟨-, ⟨hEL, hEM⟩, -, hEw, -, hEa, hEo⟩ := id hE
  refine lv_aload_n hx hb dX1_need_0 rfl (lv_at hl 0 rfl) ?_
  refine lv_iload_n hx hb dX1_need_1 rfl (lv_at hl 1 rfl) ?_
  exact tp_callVT ⟨hx, hb, hml, hown, hts⟩ (oc_existing_no l D cy n ad o I sa tL tM hlt x hx0 hn6) (cwV 1 hts gX1_need_X1_existing rfl rfl rfl (by decide +kernel) ⟨Nat.le_of_ble_eq_true rfl, Nat.le_of_ble_eq_true rfl⟩) hE hK hP hD hS hA 0 1 tp_e0 rfl rfl rfl hl.1 rfl (Nat.le_of_ble_eq_true rfl) dX1_need_2 ⟨Nat.le_of_ble_eq_true rfl, Nat.le_of_ble_eq_true rfl⟩ (fun ce q9 H locs hce hcv hcl hP hD hS => tp_out hxt hlocks hce hcv hcl hK hP hD hS (Nat.le_of_ble_eq_true rfl) (Nat.le_of_ble_eq_true rfl))
set_option maxHeartbeats 4000000 in
set_option maxRecDepth 100000 in
/-- need: no such month -/
theorem op_need_nomonth (l : Launch) (D : va_G) (cy : Nat → ClassId) (n : Nat) (ad : Nat → Nat) (o : Int64) (I : Nat → Nat → Int32) (sa : Nat → Nat) (tL tM : Nat) (hlt : l.stackTraces = false) (i : Nat) (hi : i < n) (hn6 : n ≤ 6) (x : Int32) (hx0 : ∀ j, j < 48 → x ≠ nI j) : tp_T l yX1_need wsX1_need 7 110 D cy n ad o sa tL tM [.ref (ad (0)), .int (nI i), .int x] I "java/lang/IndexOutOfBoundsException" := by
  refine tp_ofT (lv := [(0, .ref (ad (0))), (1, .int (nI i)), (2, .int x)]) (by decide) rfl (Nat.le_of_ble_eq_true rfl) rfl (fun p e s m args below meth c A ls S0 hE hxt => ?_)
  obtain ⟨hx, hb, hr, hml, hown, hts, hlocks, hA, hK, hP, hD, hS, hl⟩ := S0
  obtain ⟨-, ⟨hEL, hEM⟩, -, hEw, -, hEa, hEo⟩ := id hE
  refine lv_aload_n hx hb dX1_need_0 rfl (lv_at hl 0 rfl) ?_
  refine lv_iload_n hx hb dX1_need_1 rfl (lv_at hl 1 rfl) ?_
  refine tp_callR ⟨hx, hb, hml, hown, hts⟩ (oc_existing l D cy n ad o I i hi hn6) (cwV 1 hts gX1_need_X1_existing rfl rfl rfl (by decide +kernel) ⟨Nat.le_of_ble_eq_true rfl, Nat.le_of_ble_eq_true rfl⟩) hK hP hD hS hA 0 1 tp_e0 rfl rfl rfl hl.1 rfl (Nat.le_of_ble_eq_true rfl) dX1_need_2 ⟨Nat.zero_le _, Nat.zero_le _⟩ (fun H locs hP hD hS => ?_)
  refine lv_astore_n (lv' := [(3, .ref (ad (9 + 15 * i))), (0, .ref (ad (0))), (1, .int (nI i)), (2, .int x)]) hx hb dX1_need_5 rfl hl (by decide) rfl (fun ls hl => ?_)
  refine lv_iload_n hx hb dX1_need_6 rfl (lv_at hl 3 rfl) ?_
  exact tp_callST ⟨hx, hb, hml, hown, hts⟩ (oc_checkMonth_no l D cy n ad o I sa tL tM hlt x hx0) (va_cwS 1 hts gX1_need_X1_checkMonth rfl rfl rfl (by decide +kernel) ⟨Nat.le_of_ble_eq_true rfl, Nat.le_of_ble_eq_true rfl⟩) hE hK hP hD hS hA rfl hl.1 rfl (Nat.le_of_ble_eq_true rfl) dX1_need_7 ⟨Nat.le_of_ble_eq_true rfl, Nat.le_of_ble_eq_true rfl⟩ (fun ce q9 H locs hce hcv hcl hP hD hS => tp_out hxt hlocks hce hcv hcl hK hP hD hS (Nat.le_of_ble_eq_true rfl) (Nat.le_of_ble_eq_true rfl))
set_option maxHeartbeats 4000000 in
set_option maxRecDepth 100000 in
/-- need -/
theorem op_need_ok (l : Launch) (D : va_G) (cy : Nat → ClassId) (n : Nat) (ad : Nat → Nat) (o : Int64) (I : Nat → Nat → Int32) (sa : Nat → Nat) (tL tM : Nat) (i : Nat) (hi : i < n) (hn6 : n ≤ 6) (m0 : Nat) (hm : m0 < 48) : tp_IE l yX1_need wsX1_need (tp_rm 2 43) D cy n ad o sa tL tM [.ref (ad (0)), .int (nI i), .int (nI m0)] I (tp_need I (9 + 15 * i) m0) (I) := by
  refine tp_ofIE (lv := [(0, .ref (ad (0))), (1, .int (nI i)), (2, .int (nI m0))]) (by decide) rfl (Nat.le_of_ble_eq_true rfl) rfl (fun p e s m args below meth c A ls S0 hE => ?_)
  obtain ⟨hx, hb, hr, hml, hown, hts, hlocks, hA, hK, hP, hD, hS, hl⟩ := S0
  obtain ⟨-, ⟨hEL, hEM⟩, -, hEw, -, hEa, hEo⟩ := id hE
  refine lv_aload_n hx hb dX1_need_0 rfl (lv_at hl 0 rfl) ?_
  refine lv_iload_n hx hb dX1_need_1 rfl (lv_at hl 1 rfl) ?_
  refine tp_callR ⟨hx, hb, hml, hown, hts⟩ (oc_existing l D cy n ad o I i hi hn6) (cwV 1 hts gX1_need_X1_existing rfl rfl rfl (by decide +kernel) ⟨Nat.le_of_ble_eq_true rfl, Nat.le_of_ble_eq_true rfl⟩) hK hP hD hS hA 0 1 tp_e0 rfl rfl rfl hl.1 rfl (Nat.le_of_ble_eq_true rfl) dX1_need_2 ⟨Nat.zero_le _, Nat.zero_le _⟩ (fun H locs hP hD hS => ?_)
  refine lv_astore_n (lv' := [(3, .ref (ad (9 + 15 * i))), (0, .ref (ad (0))), (1, .int (nI i)), (2, .int (nI m0))]) hx hb dX1_need_5 rfl hl (by decide) rfl (fun ls hl => ?_)
  refine lv_iload_n hx hb dX1_need_6 rfl (lv_at hl 3 rfl) ?_
  refine tp_callSv ⟨hx, hb, hml, hown, hts⟩ (oc_checkMonth l D cy n ad o I m0 (by omega)) (va_cwS 1 hts gX1_need_X1_checkMonth rfl rfl rfl (by decide +kernel) ⟨Nat.le_of_ble_eq_true rfl, Nat.le_of_ble_eq_true rfl⟩) hK hP hD hS hA rfl hl.1 rfl (Nat.le_of_ble_eq_true rfl) dX1_need_7 ⟨Nat.zero_le _, Nat.zero_le _⟩ (fun I9 e9 H locs hP hD hS => ?_)
  subst e9
  refine lv_aload_n hx hb dX1_need_10 rfl (lv_at hl 0 rfl) ?_
  refine lv_iload_n hx hb dX1_need_11 rfl (lv_at hl 3 rfl) ?_
  refine tp_callN ⟨hx, hb, hml, hown, hts⟩ (hc_needIn l D cy n ad o I i hi m0 (by omega)) ⟨va_cnB (host := "TaperOffice") 1 hts gX1_need_X0_needIn_n93 rfl rfl rfl (hEw _ (List.mem_of_getElem? (i := 11) rfl)) (hts _ (List.mem_of_getElem? (i := 13) rfl)) (by decide +kernel) ⟨Nat.le_of_ble_eq_true rfl, Nat.le_of_ble_eq_true rfl⟩, (hts _ (List.mem_of_getElem? (i := 12) rfl)), (hts _ (List.mem_of_getElem? (i := 14) rfl))⟩ hK hP hD hS hA (9 + 15 * i) 0 (tp_eh hi) rfl rfl rfl hl.1 rfl (Nat.le_of_ble_eq_true rfl) dX1_need_12 ⟨Nat.zero_le _, Nat.zero_le _⟩ (fun I9 e9 H locs hP hD hS => ?_)
  subst e9
  exact tp_reti hx hb hr hlocks hK hP hD hS rfl rfl rfl dX1_need_15
set_option maxHeartbeats 4000000 in
set_option maxRecDepth 100000 in
/-- taper: no such household -/
theorem op_taper_no (l : Launch) (D : va_G) (cy : Nat → ClassId) (n : Nat) (ad : Nat → Nat) (o : Int64) (I : Nat → Nat → Int32) (sa : Nat → Nat) (tL tM : Nat) (hlt : l.stackTraces = false) (x : Int32) (hx0 : ∀ i, i < n → x ≠ nI i) (hn6 : n ≤ 6) (k : Int32) : tp_T l yX1_taper wsX1_taper 7 112 D cy n ad o sa tL tM [.ref (ad (0)), .int x, .int k] I "java/lang/IndexOutOfBoundsException" := by
  refine tp_ofT (lv := [(0, .ref (ad (0))), (1, .int x), (2, .int k)]) (by decide) rfl (Nat.le_of_ble_eq_true rfl) rfl (fun p e s m args below meth c A ls S0 hE hxt => ?_)
  obtain ⟨hx, hb, hr, hml, hown, hts, hlocks, hA, hK, hP, hD, hS, hl⟩ := S0
  obtain ⟨-, ⟨hEL, hEM⟩, -, hEw, -, hEa, hEo⟩ := id hE
  refine lv_aload_n hx hb dX1_taper_0 rfl (lv_at hl 0 rfl) ?_
  refine lv_iload_n hx hb dX1_taper_1 rfl (lv_at hl 1 rfl) ?_
  exact tp_callVT ⟨hx, hb, hml, hown, hts⟩ (oc_existing_no l D cy n ad o I sa tL tM hlt x hx0 hn6) (cwV 1 hts gX1_taper_X1_existing rfl rfl rfl (by decide +kernel) ⟨Nat.le_of_ble_eq_true rfl, Nat.le_of_ble_eq_true rfl⟩) hE hK hP hD hS hA 0 1 tp_e0 rfl rfl rfl hl.1 rfl (Nat.le_of_ble_eq_true rfl) dX1_taper_2 ⟨Nat.le_of_ble_eq_true rfl, Nat.le_of_ble_eq_true rfl⟩ (fun ce q9 H locs hce hcv hcl hP hD hS => tp_out hxt hlocks hce hcv hcl hK hP hD hS (Nat.le_of_ble_eq_true rfl) (Nat.le_of_ble_eq_true rfl))
set_option maxHeartbeats 4000000 in
set_option maxRecDepth 100000 in
/-- taper: no such month -/
theorem op_taper_nomonth (l : Launch) (D : va_G) (cy : Nat → ClassId) (n : Nat) (ad : Nat → Nat) (o : Int64) (I : Nat → Nat → Int32) (sa : Nat → Nat) (tL tM : Nat) (hlt : l.stackTraces = false) (i : Nat) (hi : i < n) (hn6 : n ≤ 6) (x : Int32) (hx0 : ∀ j, j < 48 → x ≠ nI j) : tp_T l yX1_taper wsX1_taper 7 110 D cy n ad o sa tL tM [.ref (ad (0)), .int (nI i), .int x] I "java/lang/IndexOutOfBoundsException" := by
  refine tp_ofT (lv := [(0, .ref (ad (0))), (1, .int (nI i)), (2, .int x)]) (by decide) rfl (Nat.le_of_ble_eq_true rfl) rfl (fun p e s m args below meth c A ls S0 hE hxt => ?_)
  obtain ⟨hx, hb, hr, hml, hown, hts, hlocks, hA, hK, hP, hD, hS, hl⟩ := S0
  obtain ⟨-, ⟨hEL, hEM⟩, -, hEw, -, hEa, hEo⟩ := id hE
  refine lv_aload_n hx hb dX1_taper_0 rfl (lv_at hl 0 rfl) ?_
  refine lv_iload_n hx hb dX1_taper_1 rfl (lv_at hl 1 rfl) ?_
  refine tp_callR ⟨hx, hb, hml, hown, hts⟩ (oc_existing l D cy n ad o I i hi hn6) (cwV 1 hts gX1_taper_X1_existing rfl rfl rfl (by decide +kernel) ⟨Nat.le_of_ble_eq_true rfl, Nat.le_of_ble_eq_true rfl⟩) hK hP hD hS hA 0 1 tp_e0 rfl rfl rfl hl.1 rfl (Nat.le_of_ble_eq_true rfl) dX1_taper_2 ⟨Nat.zero_le _, Nat.zero_le _⟩ (fun H locs hP hD hS => ?_)
  refine lv_astore_n (lv' := [(3, .ref (ad (9 + 15 * i))), (0, .ref (ad (0))), (1, .int (nI i)), (2, .int x)]) hx hb dX1_taper_5 rfl hl (by decide) rfl (fun ls hl => ?_)
  refine lv_iload_n hx hb dX1_taper_6 rfl (lv_at hl 3 rfl) ?_
  exact tp_callST ⟨hx, hb, hml, hown, hts⟩ (oc_checkMonth_no l D cy n ad o I sa tL tM hlt x hx0) (va_cwS 1 hts gX1_taper_X1_checkMonth rfl rfl rfl (by decide +kernel) ⟨Nat.le_of_ble_eq_true rfl, Nat.le_of_ble_eq_true rfl⟩) hE hK hP hD hS hA rfl hl.1 rfl (Nat.le_of_ble_eq_true rfl) dX1_taper_7 ⟨Nat.le_of_ble_eq_true rfl, Nat.le_of_ble_eq_true rfl⟩ (fun ce q9 H locs hce hcv hcl hP hD hS => tp_out hxt hlocks hce hcv hcl hK hP hD hS (Nat.le_of_ble_eq_true rfl) (Nat.le_of_ble_eq_true rfl))
set_option maxHeartbeats 4000000 in
set_option maxRecDepth 100000 in
/-- taper -/
theorem op_taper_ok (l : Launch) (D : va_G) (cy : Nat → ClassId) (n : Nat) (ad : Nat → Nat) (o : Int64) (I : Nat → Nat → Int32) (sa : Nat → Nat) (tL tM : Nat) (i : Nat) (hi : i < n) (hn6 : n ≤ 6) (m0 : Nat) (hm : m0 < 48) : tp_IE l yX1_taper wsX1_taper (tp_rm 2 43) D cy n ad o sa tL tM [.ref (ad (0)), .int (nI i), .int (nI m0)] I (tp_taper I (9 + 15 * i) m0) (I) := by
  refine tp_ofIE (lv := [(0, .ref (ad (0))), (1, .int (nI i)), (2, .int (nI m0))]) (by decide) rfl (Nat.le_of_ble_eq_true rfl) rfl (fun p e s m args below meth c A ls S0 hE => ?_)
  obtain ⟨hx, hb, hr, hml, hown, hts, hlocks, hA, hK, hP, hD, hS, hl⟩ := S0
  obtain ⟨-, ⟨hEL, hEM⟩, -, hEw, -, hEa, hEo⟩ := id hE
  refine lv_aload_n hx hb dX1_taper_0 rfl (lv_at hl 0 rfl) ?_
  refine lv_iload_n hx hb dX1_taper_1 rfl (lv_at hl 1 rfl) ?_
  refine tp_callR ⟨hx, hb, hml, hown, hts⟩ (oc_existing l D cy n ad o I i hi hn6) (cwV 1 hts gX1_taper_X1_existing rfl rfl rfl (by decide +kernel) ⟨Nat.le_of_ble_eq_true rfl, Nat.le_of_ble_eq_true rfl⟩) hK hP hD hS hA 0 1 tp_e0 rfl rfl rfl hl.1 rfl (Nat.le_of_ble_eq_true rfl) dX1_taper_2 ⟨Nat.zero_le _, Nat.zero_le _⟩ (fun H locs hP hD hS => ?_)
  refine lv_astore_n (lv' := [(3, .ref (ad (9 + 15 * i))), (0, .ref (ad (0))), (1, .int (nI i)), (2, .int (nI m0))]) hx hb dX1_taper_5 rfl hl (by decide) rfl (fun ls hl => ?_)
  refine lv_iload_n hx hb dX1_taper_6 rfl (lv_at hl 3 rfl) ?_
  refine tp_callSv ⟨hx, hb, hml, hown, hts⟩ (oc_checkMonth l D cy n ad o I m0 (by omega)) (va_cwS 1 hts gX1_taper_X1_checkMonth rfl rfl rfl (by decide +kernel) ⟨Nat.le_of_ble_eq_true rfl, Nat.le_of_ble_eq_true rfl⟩) hK hP hD hS hA rfl hl.1 rfl (Nat.le_of_ble_eq_true rfl) dX1_taper_7 ⟨Nat.zero_le _, Nat.zero_le _⟩ (fun I9 e9 H locs hP hD hS => ?_)
  subst e9
  refine lv_aload_n hx hb dX1_taper_10 rfl (lv_at hl 0 rfl) ?_
  refine lv_iload_n hx hb dX1_taper_11 rfl (lv_at hl 3 rfl) ?_
  refine tp_callN ⟨hx, hb, hml, hown, hts⟩ (hc_taperIn l D cy n ad o I i hi m0 (by omega)) ⟨va_cnB (host := "TaperOffice") 1 hts gX1_taper_X0_taperIn_n96 rfl rfl rfl (hEw _ (List.mem_of_getElem? (i := 12) rfl)) (hts _ (List.mem_of_getElem? (i := 13) rfl)) (by decide +kernel) ⟨Nat.le_of_ble_eq_true rfl, Nat.le_of_ble_eq_true rfl⟩, (hts _ (List.mem_of_getElem? (i := 12) rfl)), (hts _ (List.mem_of_getElem? (i := 14) rfl))⟩ hK hP hD hS hA (9 + 15 * i) 0 (tp_eh hi) rfl rfl rfl hl.1 rfl (Nat.le_of_ble_eq_true rfl) dX1_taper_12 ⟨Nat.zero_le _, Nat.zero_le _⟩ (fun I9 e9 H locs hP hD hS => ?_)
  subst e9
  exact tp_reti hx hb hr hlocks hK hP hD hS rfl rfl rfl dX1_taper_15
set_option maxHeartbeats 4000000 in
set_option maxRecDepth 100000 in
/-- tariff: no such household -/
theorem op_tariff_no (l : Launch) (D : va_G) (cy : Nat → ClassId) (n : Nat) (ad : Nat → Nat) (o : Int64) (I : Nat → Nat → Int32) (sa : Nat → Nat) (tL tM : Nat) (hlt : l.stackTraces = false) (x : Int32) (hx0 : ∀ i, i < n → x ≠ nI i) (hn6 : n ≤ 6) (k : Int32) : tp_T l yX1_tariff wsX1_tariff 7 112 D cy n ad o sa tL tM [.ref (ad (0)), .int x, .int k] I "java/lang/IndexOutOfBoundsException" := by
  refine tp_ofT (lv := [(0, .ref (ad (0))), (1, .int x), (2, .int k)]) (by decide) rfl (Nat.le_of_ble_eq_true rfl) rfl (fun p e s m args below meth c A ls S0 hE hxt => ?_)
  obtain ⟨hx, hb, hr, hml, hown, hts, hlocks, hA, hK, hP, hD, hS, hl⟩ := S0
  obtain ⟨-, ⟨hEL, hEM⟩, -, hEw, -, hEa, hEo⟩ := id hE
  refine lv_aload_n hx hb dX1_tariff_0 rfl (lv_at hl 0 rfl) ?_
  refine lv_iload_n hx hb dX1_tariff_1 rfl (lv_at hl 1 rfl) ?_
  exact tp_callVT ⟨hx, hb, hml, hown, hts⟩ (oc_existing_no l D cy n ad o I sa tL tM hlt x hx0 hn6) (cwV 1 hts gX1_tariff_X1_existing rfl rfl rfl (by decide +kernel) ⟨Nat.le_of_ble_eq_true rfl, Nat.le_of_ble_eq_true rfl⟩) hE hK hP hD hS hA 0 1 tp_e0 rfl rfl rfl hl.1 rfl (Nat.le_of_ble_eq_true rfl) dX1_tariff_2 ⟨Nat.le_of_ble_eq_true rfl, Nat.le_of_ble_eq_true rfl⟩ (fun ce q9 H locs hce hcv hcl hP hD hS => tp_out hxt hlocks hce hcv hcl hK hP hD hS (Nat.le_of_ble_eq_true rfl) (Nat.le_of_ble_eq_true rfl))
set_option maxHeartbeats 4000000 in
set_option maxRecDepth 100000 in
/-- tariff: no such month -/
theorem op_tariff_nomonth (l : Launch) (D : va_G) (cy : Nat → ClassId) (n : Nat) (ad : Nat → Nat) (o : Int64) (I : Nat → Nat → Int32) (sa : Nat → Nat) (tL tM : Nat) (hlt : l.stackTraces = false) (i : Nat) (hi : i < n) (hn6 : n ≤ 6) (x : Int32) (hx0 : ∀ j, j < 48 → x ≠ nI j) : tp_T l yX1_tariff wsX1_tariff 7 110 D cy n ad o sa tL tM [.ref (ad (0)), .int (nI i), .int x] I "java/lang/IndexOutOfBoundsException" := by
  refine tp_ofT (lv := [(0, .ref (ad (0))), (1, .int (nI i)), (2, .int x)]) (by decide) rfl (Nat.le_of_ble_eq_true rfl) rfl (fun p e s m args below meth c A ls S0 hE hxt => ?_)
  obtain ⟨hx, hb, hr, hml, hown, hts, hlocks, hA, hK, hP, hD, hS, hl⟩ := S0
  obtain ⟨-, ⟨hEL, hEM⟩, -, hEw, -, hEa, hEo⟩ := id hE
  refine lv_aload_n hx hb dX1_tariff_0 rfl (lv_at hl 0 rfl) ?_
  refine lv_iload_n hx hb dX1_tariff_1 rfl (lv_at hl 1 rfl) ?_
  refine tp_callR ⟨hx, hb, hml, hown, hts⟩ (oc_existing l D cy n ad o I i hi hn6) (cwV 1 hts gX1_tariff_X1_existing rfl rfl rfl (by decide +kernel) ⟨Nat.le_of_ble_eq_true rfl, Nat.le_of_ble_eq_true rfl⟩) hK hP hD hS hA 0 1 tp_e0 rfl rfl rfl hl.1 rfl (Nat.le_of_ble_eq_true rfl) dX1_tariff_2 ⟨Nat.zero_le _, Nat.zero_le _⟩ (fun H locs hP hD hS => ?_)
  refine lv_astore_n (lv' := [(3, .ref (ad (9 + 15 * i))), (0, .ref (ad (0))), (1, .int (nI i)), (2, .int x)]) hx hb dX1_tariff_5 rfl hl (by decide) rfl (fun ls hl => ?_)
  refine lv_iload_n hx hb dX1_tariff_6 rfl (lv_at hl 3 rfl) ?_
  exact tp_callST ⟨hx, hb, hml, hown, hts⟩ (oc_checkMonth_no l D cy n ad o I sa tL tM hlt x hx0) (va_cwS 1 hts gX1_tariff_X1_checkMonth rfl rfl rfl (by decide +kernel) ⟨Nat.le_of_ble_eq_true rfl, Nat.le_of_ble_eq_true rfl⟩) hE hK hP hD hS hA rfl hl.1 rfl (Nat.le_of_ble_eq_true rfl) dX1_tariff_7 ⟨Nat.le_of_ble_eq_true rfl, Nat.le_of_ble_eq_true rfl⟩ (fun ce q9 H locs hce hcv hcl hP hD hS => tp_out hxt hlocks hce hcv hcl hK hP hD hS (Nat.le_of_ble_eq_true rfl) (Nat.le_of_ble_eq_true rfl))
set_option maxHeartbeats 4000000 in
set_option maxRecDepth 100000 in
/-- tariff -/
theorem op_tariff_ok (l : Launch) (D : va_G) (cy : Nat → ClassId) (n : Nat) (ad : Nat → Nat) (o : Int64) (I : Nat → Nat → Int32) (sa : Nat → Nat) (tL tM : Nat) (i : Nat) (hi : i < n) (hn6 : n ≤ 6) (m0 : Nat) (hm : m0 < 48) : tp_IE l yX1_tariff wsX1_tariff (tp_rm 2 44) D cy n ad o sa tL tM [.ref (ad (0)), .int (nI i), .int (nI m0)] I (tp_tariff I (9 + 15 * i) m0) (I) := by
  refine tp_ofIE (lv := [(0, .ref (ad (0))), (1, .int (nI i)), (2, .int (nI m0))]) (by decide) rfl (Nat.le_of_ble_eq_true rfl) rfl (fun p e s m args below meth c A ls S0 hE => ?_)
  obtain ⟨hx, hb, hr, hml, hown, hts, hlocks, hA, hK, hP, hD, hS, hl⟩ := S0
  obtain ⟨-, ⟨hEL, hEM⟩, -, hEw, -, hEa, hEo⟩ := id hE
  refine lv_aload_n hx hb dX1_tariff_0 rfl (lv_at hl 0 rfl) ?_
  refine lv_iload_n hx hb dX1_tariff_1 rfl (lv_at hl 1 rfl) ?_
  refine tp_callR ⟨hx, hb, hml, hown, hts⟩ (oc_existing l D cy n ad o I i hi hn6) (cwV 1 hts gX1_tariff_X1_existing rfl rfl rfl (by decide +kernel) ⟨Nat.le_of_ble_eq_true rfl, Nat.le_of_ble_eq_true rfl⟩) hK hP hD hS hA 0 1 tp_e0 rfl rfl rfl hl.1 rfl (Nat.le_of_ble_eq_true rfl) dX1_tariff_2 ⟨Nat.zero_le _, Nat.zero_le _⟩ (fun H locs hP hD hS => ?_)
  refine lv_astore_n (lv' := [(3, .ref (ad (9 + 15 * i))), (0, .ref (ad (0))), (1, .int (nI i)), (2, .int (nI m0))]) hx hb dX1_tariff_5 rfl hl (by decide) rfl (fun ls hl => ?_)
  refine lv_iload_n hx hb dX1_tariff_6 rfl (lv_at hl 3 rfl) ?_
  refine tp_callSv ⟨hx, hb, hml, hown, hts⟩ (oc_checkMonth l D cy n ad o I m0 (by omega)) (va_cwS 1 hts gX1_tariff_X1_checkMonth rfl rfl rfl (by decide +kernel) ⟨Nat.le_of_ble_eq_true rfl, Nat.le_of_ble_eq_true rfl⟩) hK hP hD hS hA rfl hl.1 rfl (Nat.le_of_ble_eq_true rfl) dX1_tariff_7 ⟨Nat.zero_le _, Nat.zero_le _⟩ (fun I9 e9 H locs hP hD hS => ?_)
  subst e9
  refine lv_aload_n hx hb dX1_tariff_10 rfl (lv_at hl 0 rfl) ?_
  refine lv_iload_n hx hb dX1_tariff_11 rfl (lv_at hl 3 rfl) ?_
  refine tp_callN ⟨hx, hb, hml, hown, hts⟩ (hc_tariffIn l D cy n ad o I i hi m0 (by omega)) ⟨va_cnB (host := "TaperOffice") 1 hts gX1_tariff_X0_tariffIn_n99 rfl rfl rfl (hEw _ (List.mem_of_getElem? (i := 13) rfl)) (hts _ (List.mem_of_getElem? (i := 13) rfl)) (by decide +kernel) ⟨Nat.le_of_ble_eq_true rfl, Nat.le_of_ble_eq_true rfl⟩, (hts _ (List.mem_of_getElem? (i := 12) rfl)), (hts _ (List.mem_of_getElem? (i := 14) rfl))⟩ hK hP hD hS hA (9 + 15 * i) 0 (tp_eh hi) rfl rfl rfl hl.1 rfl (Nat.le_of_ble_eq_true rfl) dX1_tariff_12 ⟨Nat.zero_le _, Nat.zero_le _⟩ (fun I9 e9 H locs hP hD hS => ?_)
  subst e9
  exact tp_reti hx hb hr hlocks hK hP hD hS rfl rfl rfl dX1_tariff_15
set_option maxHeartbeats 4000000 in
set_option maxRecDepth 100000 in
/-- due: no such household -/
theorem op_due_no (l : Launch) (D : va_G) (cy : Nat → ClassId) (n : Nat) (ad : Nat → Nat) (o : Int64) (I : Nat → Nat → Int32) (sa : Nat → Nat) (tL tM : Nat) (hlt : l.stackTraces = false) (x : Int32) (hx0 : ∀ i, i < n → x ≠ nI i) (hn6 : n ≤ 6) (k : Int32) : tp_T l yX1_due wsX1_due 7 112 D cy n ad o sa tL tM [.ref (ad (0)), .int x, .int k] I "java/lang/IndexOutOfBoundsException" := by
  refine tp_ofT (lv := [(0, .ref (ad (0))), (1, .int x), (2, .int k)]) (by decide) rfl (Nat.le_of_ble_eq_true rfl) rfl (fun p e s m args below meth c A ls S0 hE hxt => ?_)
  obtain ⟨hx, hb, hr, hml, hown, hts, hlocks, hA, hK, hP, hD, hS, hl⟩ := S0
  obtain ⟨-, ⟨hEL, hEM⟩, -, hEw, -, hEa, hEo⟩ := id hE
  refine lv_aload_n hx hb dX1_due_0 rfl (lv_at hl 0 rfl) ?_
  refine lv_iload_n hx hb dX1_due_1 rfl (lv_at hl 1 rfl) ?_
  exact tp_callVT ⟨hx, hb, hml, hown, hts⟩ (oc_existing_no l D cy n ad o I sa tL tM hlt x hx0 hn6) (cwV 1 hts gX1_due_X1_existing rfl rfl rfl (by decide +kernel) ⟨Nat.le_of_ble_eq_true rfl, Nat.le_of_ble_eq_true rfl⟩) hE hK hP hD hS hA 0 1 tp_e0 rfl rfl rfl hl.1 rfl (Nat.le_of_ble_eq_true rfl) dX1_due_2 ⟨Nat.le_of_ble_eq_true rfl, Nat.le_of_ble_eq_true rfl⟩ (fun ce q9 H locs hce hcv hcl hP hD hS => tp_out hxt hlocks hce hcv hcl hK hP hD hS (Nat.le_of_ble_eq_true rfl) (Nat.le_of_ble_eq_true rfl))
set_option maxHeartbeats 4000000 in
set_option maxRecDepth 100000 in
/-- due: no such month -/
theorem op_due_nomonth (l : Launch) (D : va_G) (cy : Nat → ClassId) (n : Nat) (ad : Nat → Nat) (o : Int64) (I : Nat → Nat → Int32) (sa : Nat → Nat) (tL tM : Nat) (hlt : l.stackTraces = false) (i : Nat) (hi : i < n) (hn6 : n ≤ 6) (x : Int32) (hx0 : ∀ j, j < 48 → x ≠ nI j) : tp_T l yX1_due wsX1_due 7 110 D cy n ad o sa tL tM [.ref (ad (0)), .int (nI i), .int x] I "java/lang/IndexOutOfBoundsException" := by
  refine tp_ofT (lv := [(0, .ref (ad (0))), (1, .int (nI i)), (2, .int x)]) (by decide) rfl (Nat.le_of_ble_eq_true rfl) rfl (fun p e s m args below meth c A ls S0 hE hxt => ?_)
  obtain ⟨hx, hb, hr, hml, hown, hts, hlocks, hA, hK, hP, hD, hS, hl⟩ := S0
  obtain ⟨-, ⟨hEL, hEM⟩, -, hEw, -, hEa, hEo⟩ := id hE
  refine lv_aload_n hx hb dX1_due_0 rfl (lv_at hl 0 rfl) ?_
  refine lv_iload_n hx hb dX1_due_1 rfl (lv_at hl 1 rfl) ?_
  refine tp_callR ⟨hx, hb, hml, hown, hts⟩ (oc_existing l D cy n ad o I i hi hn6) (cwV 1 hts gX1_due_X1_existing rfl rfl rfl (by decide +kernel) ⟨Nat.le_of_ble_eq_true rfl, Nat.le_of_ble_eq_true rfl⟩) hK hP hD hS hA 0 1 tp_e0 rfl rfl rfl hl.1 rfl (Nat.le_of_ble_eq_true rfl) dX1_due_2 ⟨Nat.zero_le _, Nat.zero_le _⟩ (fun H locs hP hD hS => ?_)
  refine lv_astore_n (lv' := [(3, .ref (ad (9 + 15 * i))), (0, .ref (ad (0))), (1, .int (nI i)), (2, .int x)]) hx hb dX1_due_5 rfl hl (by decide) rfl (fun ls hl => ?_)
  refine lv_iload_n hx hb dX1_due_6 rfl (lv_at hl 3 rfl) ?_
  exact tp_callST ⟨hx, hb, hml, hown, hts⟩ (oc_checkMonth_no l D cy n ad o I sa tL tM hlt x hx0) (va_cwS 1 hts gX1_due_X1_checkMonth rfl rfl rfl (by decide +kernel) ⟨Nat.le_of_ble_eq_true rfl, Nat.le_of_ble_eq_true rfl⟩) hE hK hP hD hS hA rfl hl.1 rfl (Nat.le_of_ble_eq_true rfl) dX1_due_7 ⟨Nat.le_of_ble_eq_true rfl, Nat.le_of_ble_eq_true rfl⟩ (fun ce q9 H locs hce hcv hcl hP hD hS => tp_out hxt hlocks hce hcv hcl hK hP hD hS (Nat.le_of_ble_eq_true rfl) (Nat.le_of_ble_eq_true rfl))
set_option maxHeartbeats 4000000 in
set_option maxRecDepth 100000 in
/-- due -/
theorem op_due_ok (l : Launch) (D : va_G) (cy : Nat → ClassId) (n : Nat) (ad : Nat → Nat) (o : Int64) (I : Nat → Nat → Int32) (sa : Nat → Nat) (tL tM : Nat) (i : Nat) (hi : i < n) (hn6 : n ≤ 6) (m0 : Nat) (hm : m0 < 48) : tp_IE l yX1_due wsX1_due (tp_rm 3 66) D cy n ad o sa tL tM [.ref (ad (0)), .int (nI i), .int (nI m0)] I (tp_due I (9 + 15 * i) m0) (I) := by
  refine tp_ofIE (lv := [(0, .ref (ad (0))), (1, .int (nI i)), (2, .int (nI m0))]) (by decide) rfl (Nat.le_of_ble_eq_true rfl) rfl (fun p e s m args below meth c A ls S0 hE => ?_)
  obtain ⟨hx, hb, hr, hml, hown, hts, hlocks, hA, hK, hP, hD, hS, hl⟩ := S0
  obtain ⟨-, ⟨hEL, hEM⟩, -, hEw, -, hEa, hEo⟩ := id hE
  refine lv_aload_n hx hb dX1_due_0 rfl (lv_at hl 0 rfl) ?_
  refine lv_iload_n hx hb dX1_due_1 rfl (lv_at hl 1 rfl) ?_
  refine tp_callR ⟨hx, hb, hml, hown, hts⟩ (oc_existing l D cy n ad o I i hi hn6) (cwV 1 hts gX1_due_X1_existing rfl rfl rfl (by decide +kernel) ⟨Nat.le_of_ble_eq_true rfl, Nat.le_of_ble_eq_true rfl⟩) hK hP hD hS hA 0 1 tp_e0 rfl rfl rfl hl.1 rfl (Nat.le_of_ble_eq_true rfl) dX1_due_2 ⟨Nat.zero_le _, Nat.zero_le _⟩ (fun H locs hP hD hS => ?_)
  refine lv_astore_n (lv' := [(3, .ref (ad (9 + 15 * i))), (0, .ref (ad (0))), (1, .int (nI i)), (2, .int (nI m0))]) hx hb dX1_due_5 rfl hl (by decide) rfl (fun ls hl => ?_)
  refine lv_iload_n hx hb dX1_due_6 rfl (lv_at hl 3 rfl) ?_
  refine tp_callSv ⟨hx, hb, hml, hown, hts⟩ (oc_checkMonth l D cy n ad o I m0 (by omega)) (va_cwS 1 hts gX1_due_X1_checkMonth rfl rfl rfl (by decide +kernel) ⟨Nat.le_of_ble_eq_true rfl, Nat.le_of_ble_eq_true rfl⟩) hK hP hD hS hA rfl hl.1 rfl (Nat.le_of_ble_eq_true rfl) dX1_due_7 ⟨Nat.zero_le _, Nat.zero_le _⟩ (fun I9 e9 H locs hP hD hS => ?_)
  subst e9
  refine lv_aload_n hx hb dX1_due_10 rfl (lv_at hl 0 rfl) ?_
  refine lv_iload_n hx hb dX1_due_11 rfl (lv_at hl 3 rfl) ?_
  refine tp_callN ⟨hx, hb, hml, hown, hts⟩ (hc_dueIn l D cy n ad o I i hi m0 (by omega)) ⟨va_cnB (host := "TaperOffice") 1 hts gX1_due_X0_dueIn_n102 rfl rfl rfl (hEw _ (List.mem_of_getElem? (i := 14) rfl)) (hts _ (List.mem_of_getElem? (i := 13) rfl)) (by decide +kernel) ⟨Nat.le_of_ble_eq_true rfl, Nat.le_of_ble_eq_true rfl⟩, (hts _ (List.mem_of_getElem? (i := 12) rfl)), (hts _ (List.mem_of_getElem? (i := 14) rfl))⟩ hK hP hD hS hA (9 + 15 * i) 0 (tp_eh hi) rfl rfl rfl hl.1 rfl (Nat.le_of_ble_eq_true rfl) dX1_due_12 ⟨Nat.zero_le _, Nat.zero_le _⟩ (fun I9 e9 H locs hP hD hS => ?_)
  subst e9
  exact tp_reti hx hb hr hlocks hK hP hD hS rfl rfl rfl dX1_due_15
set_option maxHeartbeats 4000000 in
set_option maxRecDepth 100000 in
/-- assessed: no such household -/
theorem op_assessed_no (l : Launch) (D : va_G) (cy : Nat → ClassId) (n : Nat) (ad : Nat → Nat) (o : Int64) (I : Nat → Nat → Int32) (sa : Nat → Nat) (tL tM : Nat) (hlt : l.stackTraces = false) (x : Int32) (hx0 : ∀ i, i < n → x ≠ nI i) (hn6 : n ≤ 6) (k : Int32) : tp_T l yX1_assessed wsX1_assessed 7 112 D cy n ad o sa tL tM [.ref (ad (0)), .int x, .int k] I "java/lang/IndexOutOfBoundsException" := by
  refine tp_ofT (lv := [(0, .ref (ad (0))), (1, .int x), (2, .int k)]) (by decide) rfl (Nat.le_of_ble_eq_true rfl) rfl (fun p e s m args below meth c A ls S0 hE hxt => ?_)
  obtain ⟨hx, hb, hr, hml, hown, hts, hlocks, hA, hK, hP, hD, hS, hl⟩ := S0
  obtain ⟨-, ⟨hEL, hEM⟩, -, hEw, -, hEa, hEo⟩ := id hE
  refine lv_aload_n hx hb dX1_assessed_0 rfl (lv_at hl 0 rfl) ?_
  refine lv_iload_n hx hb dX1_assessed_1 rfl (lv_at hl 1 rfl) ?_
  exact tp_callVT ⟨hx, hb, hml, hown, hts⟩ (oc_existing_no l D cy n ad o I sa tL tM hlt x hx0 hn6) (cwV 1 hts gX1_assessed_X1_existing rfl rfl rfl (by decide +kernel) ⟨Nat.le_of_ble_eq_true rfl, Nat.le_of_ble_eq_true rfl⟩) hE hK hP hD hS hA 0 1 tp_e0 rfl rfl rfl hl.1 rfl (Nat.le_of_ble_eq_true rfl) dX1_assessed_2 ⟨Nat.le_of_ble_eq_true rfl, Nat.le_of_ble_eq_true rfl⟩ (fun ce q9 H locs hce hcv hcl hP hD hS => tp_out hxt hlocks hce hcv hcl hK hP hD hS (Nat.le_of_ble_eq_true rfl) (Nat.le_of_ble_eq_true rfl))
set_option maxHeartbeats 4000000 in
set_option maxRecDepth 100000 in
/-- assessed: no such month -/
theorem op_assessed_nomonth (l : Launch) (D : va_G) (cy : Nat → ClassId) (n : Nat) (ad : Nat → Nat) (o : Int64) (I : Nat → Nat → Int32) (sa : Nat → Nat) (tL tM : Nat) (hlt : l.stackTraces = false) (i : Nat) (hi : i < n) (hn6 : n ≤ 6) (x : Int32) (hx0 : ∀ j, j < 48 → x ≠ nI j) : tp_T l yX1_assessed wsX1_assessed 7 110 D cy n ad o sa tL tM [.ref (ad (0)), .int (nI i), .int x] I "java/lang/IndexOutOfBoundsException" := by
  refine tp_ofT (lv := [(0, .ref (ad (0))), (1, .int (nI i)), (2, .int x)]) (by decide) rfl (Nat.le_of_ble_eq_true rfl) rfl (fun p e s m args below meth c A ls S0 hE hxt => ?_)
  obtain ⟨hx, hb, hr, hml, hown, hts, hlocks, hA, hK, hP, hD, hS, hl⟩ := S0
  obtain ⟨-, ⟨hEL, hEM⟩, -, hEw, -, hEa, hEo⟩ := id hE
  refine lv_aload_n hx hb dX1_assessed_0 rfl (lv_at hl 0 rfl) ?_
  refine lv_iload_n hx hb dX1_assessed_1 rfl (lv_at hl 1 rfl) ?_
  refine tp_callR ⟨hx, hb, hml, hown, hts⟩ (oc_existing l D cy n ad o I i hi hn6) (cwV 1 hts gX1_assessed_X1_existing rfl rfl rfl (by decide +kernel) ⟨Nat.le_of_ble_eq_true rfl, Nat.le_of_ble_eq_true rfl⟩) hK hP hD hS hA 0 1 tp_e0 rfl rfl rfl hl.1 rfl (Nat.le_of_ble_eq_true rfl) dX1_assessed_2 ⟨Nat.zero_le _, Nat.zero_le _⟩ (fun H locs hP hD hS => ?_)
  refine lv_astore_n (lv' := [(3, .ref (ad (9 + 15 * i))), (0, .ref (ad (0))), (1, .int (nI i)), (2, .int x)]) hx hb dX1_assessed_5 rfl hl (by decide) rfl (fun ls hl => ?_)
  refine lv_iload_n hx hb dX1_assessed_6 rfl (lv_at hl 3 rfl) ?_
  exact tp_callST ⟨hx, hb, hml, hown, hts⟩ (oc_checkMonth_no l D cy n ad o I sa tL tM hlt x hx0) (va_cwS 1 hts gX1_assessed_X1_checkMonth rfl rfl rfl (by decide +kernel) ⟨Nat.le_of_ble_eq_true rfl, Nat.le_of_ble_eq_true rfl⟩) hE hK hP hD hS hA rfl hl.1 rfl (Nat.le_of_ble_eq_true rfl) dX1_assessed_7 ⟨Nat.le_of_ble_eq_true rfl, Nat.le_of_ble_eq_true rfl⟩ (fun ce q9 H locs hce hcv hcl hP hD hS => tp_out hxt hlocks hce hcv hcl hK hP hD hS (Nat.le_of_ble_eq_true rfl) (Nat.le_of_ble_eq_true rfl))
set_option maxHeartbeats 4000000 in
set_option maxRecDepth 100000 in
/-- assessed -/
theorem op_assessed_ok (l : Launch) (D : va_G) (cy : Nat → ClassId) (n : Nat) (ad : Nat → Nat) (o : Int64) (I : Nat → Nat → Int32) (sa : Nat → Nat) (tL tM : Nat) (i : Nat) (hi : i < n) (hn6 : n ≤ 6) (m0 : Nat) (hm : m0 < 48) : tp_IE l yX1_assessed wsX1_assessed (tp_rm 1 22) D cy n ad o sa tL tM [.ref (ad (0)), .int (nI i), .int (nI m0)] I (I (9 + 15 * i + 13) m0) (I) := by
  refine tp_ofIE (lv := [(0, .ref (ad (0))), (1, .int (nI i)), (2, .int (nI m0))]) (by decide) rfl (Nat.le_of_ble_eq_true rfl) rfl (fun p e s m args below meth c A ls S0 hE => ?_)
  obtain ⟨hx, hb, hr, hml, hown, hts, hlocks, hA, hK, hP, hD, hS, hl⟩ := S0
  obtain ⟨-, ⟨hEL, hEM⟩, -, hEw, -, hEa, hEo⟩ := id hE
  refine lv_aload_n hx hb dX1_assessed_0 rfl (lv_at hl 0 rfl) ?_
  refine lv_iload_n hx hb dX1_assessed_1 rfl (lv_at hl 1 rfl) ?_
  refine tp_callR ⟨hx, hb, hml, hown, hts⟩ (oc_existing l D cy n ad o I i hi hn6) (cwV 1 hts gX1_assessed_X1_existing rfl rfl rfl (by decide +kernel) ⟨Nat.le_of_ble_eq_true rfl, Nat.le_of_ble_eq_true rfl⟩) hK hP hD hS hA 0 1 tp_e0 rfl rfl rfl hl.1 rfl (Nat.le_of_ble_eq_true rfl) dX1_assessed_2 ⟨Nat.zero_le _, Nat.zero_le _⟩ (fun H locs hP hD hS => ?_)
  refine lv_astore_n (lv' := [(3, .ref (ad (9 + 15 * i))), (0, .ref (ad (0))), (1, .int (nI i)), (2, .int (nI m0))]) hx hb dX1_assessed_5 rfl hl (by decide) rfl (fun ls hl => ?_)
  refine lv_iload_n hx hb dX1_assessed_6 rfl (lv_at hl 3 rfl) ?_
  refine tp_callSv ⟨hx, hb, hml, hown, hts⟩ (oc_checkMonth l D cy n ad o I m0 (by omega)) (va_cwS 1 hts gX1_assessed_X1_checkMonth rfl rfl rfl (by decide +kernel) ⟨Nat.le_of_ble_eq_true rfl, Nat.le_of_ble_eq_true rfl⟩) hK hP hD hS hA rfl hl.1 rfl (Nat.le_of_ble_eq_true rfl) dX1_assessed_7 ⟨Nat.zero_le _, Nat.zero_le _⟩ (fun I9 e9 H locs hP hD hS => ?_)
  subst e9
  refine lv_aload_n hx hb dX1_assessed_10 rfl (lv_at hl 0 rfl) ?_
  refine va_getN (D := D) (host := "TaperOffice") (ci := 0) (v := .ref (ad (9 + 15 * i + 13))) (C := RX0) (T := TX0) (N := 9) hx hb hts (fun _ h => List.mem_cons_of_mem _ (List.mem_append_left _ (List.mem_append_left _ (List.mem_append_right _ (h))))) hown hK hP (9 + 15 * i) (tp_eh hi) rfl 4 (by decide) (va_Nw.use rfl (hEw _ (List.mem_of_getElem? (i := 4) rfl))) (fun _ h9 => h9) rfl dX1_assessed_11 ?_
  refine lv_iload_n hx hb dX1_assessed_14 rfl (lv_at hl 3 rfl) ?_
  refine tp_iald hx hb hK hP (9 + 15 * i + 13) 48 (m0) (by omega) (tp_hA i) rfl (by omega) (by decide) dX1_assessed_15 ?_
  exact tp_reti hx hb hr hlocks hK hP hD hS rfl rfl rfl dX1_assessed_16
set_option maxHeartbeats 4000000 in
set_option maxRecDepth 100000 in
/-- paid: no such household -/
theorem op_paid_no (l : Launch) (D : va_G) (cy : Nat → ClassId) (n : Nat) (ad : Nat → Nat) (o : Int64) (I : Nat → Nat → Int32) (sa : Nat → Nat) (tL tM : Nat) (hlt : l.stackTraces = false) (x : Int32) (hx0 : ∀ i, i < n → x ≠ nI i) (hn6 : n ≤ 6) (k : Int32) : tp_T l yX1_paid wsX1_paid 7 112 D cy n ad o sa tL tM [.ref (ad (0)), .int x, .int k] I "java/lang/IndexOutOfBoundsException" := by
  refine tp_ofT (lv := [(0, .ref (ad (0))), (1, .int x), (2, .int k)]) (by decide) rfl (Nat.le_of_ble_eq_true rfl) rfl (fun p e s m args below meth c A ls S0 hE hxt => ?_)
  obtain ⟨hx, hb, hr, hml, hown, hts, hlocks, hA, hK, hP, hD, hS, hl⟩ := S0
  obtain ⟨-, ⟨hEL, hEM⟩, -, hEw, -, hEa, hEo⟩ := id hE
  refine lv_aload_n hx hb dX1_paid_0 rfl (lv_at hl 0 rfl) ?_
  refine lv_iload_n hx hb dX1_paid_1 rfl (lv_at hl 1 rfl) ?_
  exact tp_callVT ⟨hx, hb, hml, hown, hts⟩ (oc_existing_no l D cy n ad o I sa tL tM hlt x hx0 hn6) (cwV 1 hts gX1_paid_X1_existing rfl rfl rfl (by decide +kernel) ⟨Nat.le_of_ble_eq_true rfl, Nat.le_of_ble_eq_true rfl⟩) hE hK hP hD hS hA 0 1 tp_e0 rfl rfl rfl hl.1 rfl (Nat.le_of_ble_eq_true rfl) dX1_paid_2 ⟨Nat.le_of_ble_eq_true rfl, Nat.le_of_ble_eq_true rfl⟩ (fun ce q9 H locs hce hcv hcl hP hD hS => tp_out hxt hlocks hce hcv hcl hK hP hD hS (Nat.le_of_ble_eq_true rfl) (Nat.le_of_ble_eq_true rfl))
set_option maxHeartbeats 4000000 in
set_option maxRecDepth 100000 in
/-- paid: no such month -/
theorem op_paid_nomonth (l : Launch) (D : va_G) (cy : Nat → ClassId) (n : Nat) (ad : Nat → Nat) (o : Int64) (I : Nat → Nat → Int32) (sa : Nat → Nat) (tL tM : Nat) (hlt : l.stackTraces = false) (i : Nat) (hi : i < n) (hn6 : n ≤ 6) (x : Int32) (hx0 : ∀ j, j < 48 → x ≠ nI j) : tp_T l yX1_paid wsX1_paid 7 110 D cy n ad o sa tL tM [.ref (ad (0)), .int (nI i), .int x] I "java/lang/IndexOutOfBoundsException" := by
  refine tp_ofT (lv := [(0, .ref (ad (0))), (1, .int (nI i)), (2, .int x)]) (by decide) rfl (Nat.le_of_ble_eq_true rfl) rfl (fun p e s m args below meth c A ls S0 hE hxt => ?_)
  obtain ⟨hx, hb, hr, hml, hown, hts, hlocks, hA, hK, hP, hD, hS, hl⟩ := S0
  obtain ⟨-, ⟨hEL, hEM⟩, -, hEw, -, hEa, hEo⟩ := id hE
  refine lv_aload_n hx hb dX1_paid_0 rfl (lv_at hl 0 rfl) ?_
  refine lv_iload_n hx hb dX1_paid_1 rfl (lv_at hl 1 rfl) ?_
  refine tp_callR ⟨hx, hb, hml, hown, hts⟩ (oc_existing l D cy n ad o I i hi hn6) (cwV 1 hts gX1_paid_X1_existing rfl rfl rfl (by decide +kernel) ⟨Nat.le_of_ble_eq_true rfl, Nat.le_of_ble_eq_true rfl⟩) hK hP hD hS hA 0 1 tp_e0 rfl rfl rfl hl.1 rfl (Nat.le_of_ble_eq_true rfl) dX1_paid_2 ⟨Nat.zero_le _, Nat.zero_le _⟩ (fun H locs hP hD hS => ?_)
  refine lv_astore_n (lv' := [(3, .ref (ad (9 + 15 * i))), (0, .ref (ad (0))), (1, .int (nI i)), (2, .int x)]) hx hb dX1_paid_5 rfl hl (by decide) rfl (fun ls hl => ?_)
  refine lv_iload_n hx hb dX1_paid_6 rfl (lv_at hl 3 rfl) ?_
  exact tp_callST ⟨hx, hb, hml, hown, hts⟩ (oc_checkMonth_no l D cy n ad o I sa tL tM hlt x hx0) (va_cwS 1 hts gX1_paid_X1_checkMonth rfl rfl rfl (by decide +kernel) ⟨Nat.le_of_ble_eq_true rfl, Nat.le_of_ble_eq_true rfl⟩) hE hK hP hD hS hA rfl hl.1 rfl (Nat.le_of_ble_eq_true rfl) dX1_paid_7 ⟨Nat.le_of_ble_eq_true rfl, Nat.le_of_ble_eq_true rfl⟩ (fun ce q9 H locs hce hcv hcl hP hD hS => tp_out hxt hlocks hce hcv hcl hK hP hD hS (Nat.le_of_ble_eq_true rfl) (Nat.le_of_ble_eq_true rfl))
set_option maxHeartbeats 4000000 in
set_option maxRecDepth 100000 in
/-- paid -/
theorem op_paid_ok (l : Launch) (D : va_G) (cy : Nat → ClassId) (n : Nat) (ad : Nat → Nat) (o : Int64) (I : Nat → Nat → Int32) (sa : Nat → Nat) (tL tM : Nat) (i : Nat) (hi : i < n) (hn6 : n ≤ 6) (m0 : Nat) (hm : m0 < 48) : tp_IE l yX1_paid wsX1_paid (tp_rm 1 22) D cy n ad o sa tL tM [.ref (ad (0)), .int (nI i), .int (nI m0)] I (I (9 + 15 * i + 14) m0) (I) := by
  refine tp_ofIE (lv := [(0, .ref (ad (0))), (1, .int (nI i)), (2, .int (nI m0))]) (by decide) rfl (Nat.le_of_ble_eq_true rfl) rfl (fun p e s m args below meth c A ls S0 hE => ?_)
  obtain ⟨hx, hb, hr, hml, hown, hts, hlocks, hA, hK, hP, hD, hS, hl⟩ := S0
  obtain ⟨-, ⟨hEL, hEM⟩, -, hEw, -, hEa, hEo⟩ := id hE
  refine lv_aload_n hx hb dX1_paid_0 rfl (lv_at hl 0 rfl) ?_
  refine lv_iload_n hx hb dX1_paid_1 rfl (lv_at hl 1 rfl) ?_
  refine tp_callR ⟨hx, hb, hml, hown, hts⟩ (oc_existing l D cy n ad o I i hi hn6) (cwV 1 hts gX1_paid_X1_existing rfl rfl rfl (by decide +kernel) ⟨Nat.le_of_ble_eq_true rfl, Nat.le_of_ble_eq_true rfl⟩) hK hP hD hS hA 0 1 tp_e0 rfl rfl rfl hl.1 rfl (Nat.le_of_ble_eq_true rfl) dX1_paid_2 ⟨Nat.zero_le _, Nat.zero_le _⟩ (fun H locs hP hD hS => ?_)
  refine lv_astore_n (lv' := [(3, .ref (ad (9 + 15 * i))), (0, .ref (ad (0))), (1, .int (nI i)), (2, .int (nI m0))]) hx hb dX1_paid_5 rfl hl (by decide) rfl (fun ls hl => ?_)
  refine lv_iload_n hx hb dX1_paid_6 rfl (lv_at hl 3 rfl) ?_
  refine tp_callSv ⟨hx, hb, hml, hown, hts⟩ (oc_checkMonth l D cy n ad o I m0 (by omega)) (va_cwS 1 hts gX1_paid_X1_checkMonth rfl rfl rfl (by decide +kernel) ⟨Nat.le_of_ble_eq_true rfl, Nat.le_of_ble_eq_true rfl⟩) hK hP hD hS hA rfl hl.1 rfl (Nat.le_of_ble_eq_true rfl) dX1_paid_7 ⟨Nat.zero_le _, Nat.zero_le _⟩ (fun I9 e9 H locs hP hD hS => ?_)
  subst e9
  refine lv_aload_n hx hb dX1_paid_10 rfl (lv_at hl 0 rfl) ?_
  refine va_getN (D := D) (host := "TaperOffice") (ci := 0) (v := .ref (ad (9 + 15 * i + 14))) (C := RX0) (T := TX0) (N := 9) hx hb hts (fun _ h => List.mem_cons_of_mem _ (List.mem_append_left _ (List.mem_append_left _ (List.mem_append_right _ (h))))) hown hK hP (9 + 15 * i) (tp_eh hi) rfl 5 (by decide) (va_Nw.use rfl (hEw _ (List.mem_of_getElem? (i := 5) rfl))) (fun _ h9 => h9) rfl dX1_paid_11 ?_
  refine lv_iload_n hx hb dX1_paid_14 rfl (lv_at hl 3 rfl) ?_
  refine tp_iald hx hb hK hP (9 + 15 * i + 14) 48 (m0) (by omega) (tp_hP i) rfl (by omega) (by decide) dX1_paid_15 ?_
  exact tp_reti hx hb hr hlocks hK hP hD hS rfl rfl rfl dX1_paid_16
set_option maxHeartbeats 4000000 in
set_option maxRecDepth 100000 in
/-- debt: no such household -/
theorem op_debt_no (l : Launch) (D : va_G) (cy : Nat → ClassId) (n : Nat) (ad : Nat → Nat) (o : Int64) (I : Nat → Nat → Int32) (sa : Nat → Nat) (tL tM : Nat) (hlt : l.stackTraces = false) (x : Int32) (hx0 : ∀ i, i < n → x ≠ nI i) (hn6 : n ≤ 6) : tp_T l yX1_debt wsX1_debt 7 112 D cy n ad o sa tL tM [.ref (ad (0)), .int x] I "java/lang/IndexOutOfBoundsException" := by
  refine tp_ofT (lv := [(0, .ref (ad (0))), (1, .int x)]) (by decide) rfl (Nat.le_of_ble_eq_true rfl) rfl (fun p e s m args below meth c A ls S0 hE hxt => ?_)
  obtain ⟨hx, hb, hr, hml, hown, hts, hlocks, hA, hK, hP, hD, hS, hl⟩ := S0
  obtain ⟨-, ⟨hEL, hEM⟩, -, hEw, -, hEa, hEo⟩ := id hE
  refine lv_aload_n hx hb dX1_debt_0 rfl (lv_at hl 0 rfl) ?_
  refine lv_iload_n hx hb dX1_debt_1 rfl (lv_at hl 1 rfl) ?_
  exact tp_callVT ⟨hx, hb, hml, hown, hts⟩ (oc_existing_no l D cy n ad o I sa tL tM hlt x hx0 hn6) (cwV 1 hts gX1_debt_X1_existing rfl rfl rfl (by decide +kernel) ⟨Nat.le_of_ble_eq_true rfl, Nat.le_of_ble_eq_true rfl⟩) hE hK hP hD hS hA 0 1 tp_e0 rfl rfl rfl hl.1 rfl (Nat.le_of_ble_eq_true rfl) dX1_debt_2 ⟨Nat.le_of_ble_eq_true rfl, Nat.le_of_ble_eq_true rfl⟩ (fun ce q9 H locs hce hcv hcl hP hD hS => tp_out hxt hlocks hce hcv hcl hK hP hD hS (Nat.le_of_ble_eq_true rfl) (Nat.le_of_ble_eq_true rfl))
set_option maxHeartbeats 4000000 in
set_option maxRecDepth 100000 in
/-- debt -/
theorem op_debt_ok (l : Launch) (D : va_G) (cy : Nat → ClassId) (n : Nat) (ad : Nat → Nat) (o : Int64) (I : Nat → Nat → Int32) (sa : Nat → Nat) (tL tM : Nat) (i : Nat) (hi : i < n) (hn6 : n ≤ 6) : tp_IE l yX1_debt wsX1_debt (tp_rm 1 22) D cy n ad o sa tL tM [.ref (ad (0)), .int (nI i)] I (I (9 + 15 * i) 6) (I) := by
  refine tp_ofIE (lv := [(0, .ref (ad (0))), (1, .int (nI i))]) (by decide) rfl (Nat.le_of_ble_eq_true rfl) rfl (fun p e s m args below meth c A ls S0 hE => ?_)
  obtain ⟨hx, hb, hr, hml, hown, hts, hlocks, hA, hK, hP, hD, hS, hl⟩ := S0
  obtain ⟨-, ⟨hEL, hEM⟩, -, hEw, -, hEa, hEo⟩ := id hE
  refine lv_aload_n hx hb dX1_debt_0 rfl (lv_at hl 0 rfl) ?_
  refine lv_iload_n hx hb dX1_debt_1 rfl (lv_at hl 1 rfl) ?_
  refine tp_callR ⟨hx, hb, hml, hown, hts⟩ (oc_existing l D cy n ad o I i hi hn6) (cwV 1 hts gX1_debt_X1_existing rfl rfl rfl (by decide +kernel) ⟨Nat.le_of_ble_eq_true rfl, Nat.le_of_ble_eq_true rfl⟩) hK hP hD hS hA 0 1 tp_e0 rfl rfl rfl hl.1 rfl (Nat.le_of_ble_eq_true rfl) dX1_debt_2 ⟨Nat.zero_le _, Nat.zero_le _⟩ (fun H locs hP hD hS => ?_)
  refine va_getN (D := D) (host := "TaperOffice") (ci := 0) (v := .int (I (9 + 15 * i) 6)) (C := RX0) (T := TX0) (N := 9) hx hb hts (fun _ h => List.mem_cons_of_mem _ (List.mem_append_left _ (List.mem_append_left _ (List.mem_append_right _ (h))))) hown hK hP (9 + 15 * i) (tp_eh hi) rfl 6 (by decide) (va_Nw.use rfl (hEw _ (List.mem_of_getElem? (i := 2) rfl))) (fun _ h9 => h9) rfl dX1_debt_5 ?_
  exact tp_reti hx hb hr hlocks hK hP hD hS rfl rfl rfl dX1_debt_8
set_option maxHeartbeats 4000000 in
set_option maxRecDepth 100000 in
/-- recovered: no such household -/
theorem op_recovered_no (l : Launch) (D : va_G) (cy : Nat → ClassId) (n : Nat) (ad : Nat → Nat) (o : Int64) (I : Nat → Nat → Int32) (sa : Nat → Nat) (tL tM : Nat) (hlt : l.stackTraces = false) (x : Int32) (hx0 : ∀ i, i < n → x ≠ nI i) (hn6 : n ≤ 6) : tp_T l yX1_recovered wsX1_recovered 7 112 D cy n ad o sa tL tM [.ref (ad (0)), .int x] I "java/lang/IndexOutOfBoundsException" := by
  refine tp_ofT (lv := [(0, .ref (ad (0))), (1, .int x)]) (by decide) rfl (Nat.le_of_ble_eq_true rfl) rfl (fun p e s m args below meth c A ls S0 hE hxt => ?_)
  obtain ⟨hx, hb, hr, hml, hown, hts, hlocks, hA, hK, hP, hD, hS, hl⟩ := S0
  obtain ⟨-, ⟨hEL, hEM⟩, -, hEw, -, hEa, hEo⟩ := id hE
  refine lv_aload_n hx hb dX1_recovered_0 rfl (lv_at hl 0 rfl) ?_
  refine lv_iload_n hx hb dX1_recovered_1 rfl (lv_at hl 1 rfl) ?_
  exact tp_callVT ⟨hx, hb, hml, hown, hts⟩ (oc_existing_no l D cy n ad o I sa tL tM hlt x hx0 hn6) (cwV 1 hts gX1_recovered_X1_existing rfl rfl rfl (by decide +kernel) ⟨Nat.le_of_ble_eq_true rfl, Nat.le_of_ble_eq_true rfl⟩) hE hK hP hD hS hA 0 1 tp_e0 rfl rfl rfl hl.1 rfl (Nat.le_of_ble_eq_true rfl) dX1_recovered_2 ⟨Nat.le_of_ble_eq_true rfl, Nat.le_of_ble_eq_true rfl⟩ (fun ce q9 H locs hce hcv hcl hP hD hS => tp_out hxt hlocks hce hcv hcl hK hP hD hS (Nat.le_of_ble_eq_true rfl) (Nat.le_of_ble_eq_true rfl))
set_option maxHeartbeats 4000000 in
set_option maxRecDepth 100000 in
/-- recovered -/
theorem op_recovered_ok (l : Launch) (D : va_G) (cy : Nat → ClassId) (n : Nat) (ad : Nat → Nat) (o : Int64) (I : Nat → Nat → Int32) (sa : Nat → Nat) (tL tM : Nat) (i : Nat) (hi : i < n) (hn6 : n ≤ 6) : tp_IE l yX1_recovered wsX1_recovered (tp_rm 1 22) D cy n ad o sa tL tM [.ref (ad (0)), .int (nI i)] I (I (9 + 15 * i) 7) (I) := by
  refine tp_ofIE (lv := [(0, .ref (ad (0))), (1, .int (nI i))]) (by decide) rfl (Nat.le_of_ble_eq_true rfl) rfl (fun p e s m args below meth c A ls S0 hE => ?_)
  obtain ⟨hx, hb, hr, hml, hown, hts, hlocks, hA, hK, hP, hD, hS, hl⟩ := S0
  obtain ⟨-, ⟨hEL, hEM⟩, -, hEw, -, hEa, hEo⟩ := id hE
  refine lv_aload_n hx hb dX1_recovered_0 rfl (lv_at hl 0 rfl) ?_
  refine lv_iload_n hx hb dX1_recovered_1 rfl (lv_at hl 1 rfl) ?_
  refine tp_callR ⟨hx, hb, hml, hown, hts⟩ (oc_existing l D cy n ad o I i hi hn6) (cwV 1 hts gX1_recovered_X1_existing rfl rfl rfl (by decide +kernel) ⟨Nat.le_of_ble_eq_true rfl, Nat.le_of_ble_eq_true rfl⟩) hK hP hD hS hA 0 1 tp_e0 rfl rfl rfl hl.1 rfl (Nat.le_of_ble_eq_true rfl) dX1_recovered_2 ⟨Nat.zero_le _, Nat.zero_le _⟩ (fun H locs hP hD hS => ?_)
  refine va_getN (D := D) (host := "TaperOffice") (ci := 0) (v := .int (I (9 + 15 * i) 7)) (C := RX0) (T := TX0) (N := 9) hx hb hts (fun _ h => List.mem_cons_of_mem _ (List.mem_append_left _ (List.mem_append_left _ (List.mem_append_right _ (h))))) hown hK hP (9 + 15 * i) (tp_eh hi) rfl 7 (by decide) (va_Nw.use rfl (hEw _ (List.mem_of_getElem? (i := 6) rfl))) (fun _ h9 => h9) rfl dX1_recovered_5 ?_
  exact tp_reti hx hb hr hlocks hK hP hD hS rfl rfl rfl dX1_recovered_8
set_option maxHeartbeats 4000000 in
set_option maxRecDepth 100000 in
/-- fact: no such household -/
theorem op_fact_no (l : Launch) (D : va_G) (cy : Nat → ClassId) (n : Nat) (ad : Nat → Nat) (o : Int64) (I : Nat → Nat → Int32) (sa : Nat → Nat) (tL tM : Nat) (hlt : l.stackTraces = false) (x : Int32) (hx0 : ∀ i, i < n → x ≠ nI i) (hn6 : n ≤ 6) (f k : Int32) : tp_T l yX1_fact wsX1_fact 7 112 D cy n ad o sa tL tM [.ref (ad (0)), .int x, .int f, .int k] I "java/lang/IndexOutOfBoundsException" := by
  refine tp_ofT (lv := [(0, .ref (ad (0))), (1, .int x), (2, .int f), (3, .int k)]) (by decide) rfl (Nat.le_of_ble_eq_true rfl) rfl (fun p e s m args below meth c A ls S0 hE hxt => ?_)
  obtain ⟨hx, hb, hr, hml, hown, hts, hlocks, hA, hK, hP, hD, hS, hl⟩ := S0
  obtain ⟨-, ⟨hEL, hEM⟩, -, hEw, -, hEa, hEo⟩ := id hE
  refine lv_aload_n hx hb dX1_fact_0 rfl (lv_at hl 0 rfl) ?_
  refine lv_iload_n hx hb dX1_fact_1 rfl (lv_at hl 1 rfl) ?_
  exact tp_callVT ⟨hx, hb, hml, hown, hts⟩ (oc_existing_no l D cy n ad o I sa tL tM hlt x hx0 hn6) (cwV 1 hts gX1_fact_X1_existing rfl rfl rfl (by decide +kernel) ⟨Nat.le_of_ble_eq_true rfl, Nat.le_of_ble_eq_true rfl⟩) hE hK hP hD hS hA 0 1 tp_e0 rfl rfl rfl hl.1 rfl (Nat.le_of_ble_eq_true rfl) dX1_fact_2 ⟨Nat.le_of_ble_eq_true rfl, Nat.le_of_ble_eq_true rfl⟩ (fun ce q9 H locs hce hcv hcl hP hD hS => tp_out hxt hlocks hce hcv hcl hK hP hD hS (Nat.le_of_ble_eq_true rfl) (Nat.le_of_ble_eq_true rfl))
set_option maxHeartbeats 4000000 in
set_option maxRecDepth 100000 in
/-- fact: no such month -/
theorem op_fact_nomonth (l : Launch) (D : va_G) (cy : Nat → ClassId) (n : Nat) (ad : Nat → Nat) (o : Int64) (I : Nat → Nat → Int32) (sa : Nat → Nat) (tL tM : Nat) (hlt : l.stackTraces = false) (i : Nat) (hi : i < n) (hn6 : n ≤ 6) (f : Int32) (x : Int32) (hx0 : ∀ j, j < 48 → x ≠ nI j) : tp_T l yX1_fact wsX1_fact 7 110 D cy n ad o sa tL tM [.ref (ad (0)), .int (nI i), .int f, .int x] I "java/lang/IndexOutOfBoundsException" := by
  refine tp_ofT (lv := [(0, .ref (ad (0))), (1, .int (nI i)), (2, .int f), (3, .int x)]) (by decide) rfl (Nat.le_of_ble_eq_true rfl) rfl (fun p e s m args below meth c A ls S0 hE hxt => ?_)
  obtain ⟨hx, hb, hr, hml, hown, hts, hlocks, hA, hK, hP, hD, hS, hl⟩ := S0
  obtain ⟨-, ⟨hEL, hEM⟩, -, hEw, -, hEa, hEo⟩ := id hE
  refine lv_aload_n hx hb dX1_fact_0 rfl (lv_at hl 0 rfl) ?_
  refine lv_iload_n hx hb dX1_fact_1 rfl (lv_at hl 1 rfl) ?_
  refine tp_callR ⟨hx, hb, hml, hown, hts⟩ (oc_existing l D cy n ad o I i hi hn6) (cwV 1 hts gX1_fact_X1_existing rfl rfl rfl (by decide +kernel) ⟨Nat.le_of_ble_eq_true rfl, Nat.le_of_ble_eq_true rfl⟩) hK hP hD hS hA 0 1 tp_e0 rfl rfl rfl hl.1 rfl (Nat.le_of_ble_eq_true rfl) dX1_fact_2 ⟨Nat.zero_le _, Nat.zero_le _⟩ (fun H locs hP hD hS => ?_)
  refine lv_astore (lv' := [(4, .ref (ad (9 + 15 * i))), (0, .ref (ad (0))), (1, .int (nI i)), (2, .int f), (3, .int x)]) hx hb dX1_fact_5 hl (by decide) rfl (fun ls hl => ?_)
  refine lv_iload_n hx hb dX1_fact_7 rfl (lv_at hl 4 rfl) ?_
  exact tp_callST ⟨hx, hb, hml, hown, hts⟩ (oc_checkMonth_no l D cy n ad o I sa tL tM hlt x hx0) (va_cwS 1 hts gX1_fact_X1_checkMonth rfl rfl rfl (by decide +kernel) ⟨Nat.le_of_ble_eq_true rfl, Nat.le_of_ble_eq_true rfl⟩) hE hK hP hD hS hA rfl hl.1 rfl (Nat.le_of_ble_eq_true rfl) dX1_fact_8 ⟨Nat.le_of_ble_eq_true rfl, Nat.le_of_ble_eq_true rfl⟩ (fun ce q9 H locs hce hcv hcl hP hD hS => tp_out hxt hlocks hce hcv hcl hK hP hD hS (Nat.le_of_ble_eq_true rfl) (Nat.le_of_ble_eq_true rfl))
set_option maxHeartbeats 4000000 in
set_option maxRecDepth 100000 in
/-- fact: no such fact -/
theorem op_fact_bad (l : Launch) (D : va_G) (cy : Nat → ClassId) (n : Nat) (ad : Nat → Nat) (o : Int64) (I : Nat → Nat → Int32) (sa : Nat → Nat) (tL tM : Nat) (hlt : l.stackTraces = false) (i : Nat) (hi : i < n) (hn6 : n ≤ 6) (m0 : Nat) (hm : m0 < 48) (x : Int32) (hx0 : ∀ j, j < 5 → x ≠ nI j) : tp_T l yX1_fact wsX1_fact 7 110 D cy n ad o sa tL tM [.ref (ad (0)), .int (nI i), .int x, .int (nI m0)] I "java/lang/IllegalArgumentException" := by
  refine tp_ofT (lv := [(0, .ref (ad (0))), (1, .int (nI i)), (2, .int x), (3, .int (nI m0))]) (by decide) rfl (Nat.le_of_ble_eq_true rfl) rfl (fun p e s m args below meth c A ls S0 hE hxt => ?_)
  obtain ⟨hx, hb, hr, hml, hown, hts, hlocks, hA, hK, hP, hD, hS, hl⟩ := S0
  obtain ⟨-, ⟨hEL, hEM⟩, -, hEw, -, hEa, hEo⟩ := id hE
  refine lv_aload_n hx hb dX1_fact_0 rfl (lv_at hl 0 rfl) ?_
  refine lv_iload_n hx hb dX1_fact_1 rfl (lv_at hl 1 rfl) ?_
  refine tp_callR ⟨hx, hb, hml, hown, hts⟩ (oc_existing l D cy n ad o I i hi hn6) (cwV 1 hts gX1_fact_X1_existing rfl rfl rfl (by decide +kernel) ⟨Nat.le_of_ble_eq_true rfl, Nat.le_of_ble_eq_true rfl⟩) hK hP hD hS hA 0 1 tp_e0 rfl rfl rfl hl.1 rfl (Nat.le_of_ble_eq_true rfl) dX1_fact_2 ⟨Nat.zero_le _, Nat.zero_le _⟩ (fun H locs hP hD hS => ?_)
  refine lv_astore (lv' := [(4, .ref (ad (9 + 15 * i))), (0, .ref (ad (0))), (1, .int (nI i)), (2, .int x), (3, .int (nI m0))]) hx hb dX1_fact_5 hl (by decide) rfl (fun ls hl => ?_)
  refine lv_iload_n hx hb dX1_fact_7 rfl (lv_at hl 4 rfl) ?_
  refine tp_callSv ⟨hx, hb, hml, hown, hts⟩ (oc_checkMonth l D cy n ad o I m0 (by omega)) (va_cwS 1 hts gX1_fact_X1_checkMonth rfl rfl rfl (by decide +kernel) ⟨Nat.le_of_ble_eq_true rfl, Nat.le_of_ble_eq_true rfl⟩) hK hP hD hS hA rfl hl.1 rfl (Nat.le_of_ble_eq_true rfl) dX1_fact_8 ⟨Nat.zero_le _, Nat.zero_le _⟩ (fun I9 e9 H locs hP hD hS => ?_)
  subst e9
  refine lv_iload_n hx hb dX1_fact_11 rfl (lv_at hl 3 rfl) ?_
  exact tp_callST ⟨hx, hb, hml, hown, hts⟩ (oc_checkFact_no l D cy n ad o I sa tL tM hlt x hx0) (va_cwS 1 hts gX1_fact_X1_checkFact rfl rfl rfl (by decide +kernel) ⟨Nat.le_of_ble_eq_true rfl, Nat.le_of_ble_eq_true rfl⟩) hE hK hP hD hS hA rfl hl.1 rfl (Nat.le_of_ble_eq_true rfl) dX1_fact_12 ⟨Nat.le_of_ble_eq_true rfl, Nat.le_of_ble_eq_true rfl⟩ (fun ce q9 H locs hce hcv hcl hP hD hS => tp_out hxt hlocks hce hcv hcl hK hP hD hS (Nat.le_of_ble_eq_true rfl) (Nat.le_of_ble_eq_true rfl))
set_option maxHeartbeats 4000000 in
set_option maxRecDepth 100000 in
/-- fact -/
theorem op_fact_ok (l : Launch) (D : va_G) (cy : Nat → ClassId) (n : Nat) (ad : Nat → Nat) (o : Int64) (I : Nat → Nat → Int32) (sa : Nat → Nat) (tL tM : Nat) (i : Nat) (hi : i < n) (hn6 : n ≤ 6) (f0 m0 : Nat) (hf5 : f0 < 5) (hm : m0 < 48) : tp_IE l yX1_fact wsX1_fact (tp_rm 1 22) D cy n ad o sa tL tM [.ref (ad (0)), .int (nI i), .int (nI f0), .int (nI m0)] I (I (9 + 15 * i + 2 + f0) m0) (I) := by
  refine tp_ofIE (lv := [(0, .ref (ad (0))), (1, .int (nI i)), (2, .int (nI f0)), (3, .int (nI m0))]) (by decide) rfl (Nat.le_of_ble_eq_true rfl) rfl (fun p e s m args below meth c A ls S0 hE => ?_)
  obtain ⟨hx, hb, hr, hml, hown, hts, hlocks, hA, hK, hP, hD, hS, hl⟩ := S0
  obtain ⟨-, ⟨hEL, hEM⟩, -, hEw, -, hEa, hEo⟩ := id hE
  refine lv_aload_n hx hb dX1_fact_0 rfl (lv_at hl 0 rfl) ?_
  refine lv_iload_n hx hb dX1_fact_1 rfl (lv_at hl 1 rfl) ?_
  refine tp_callR ⟨hx, hb, hml, hown, hts⟩ (oc_existing l D cy n ad o I i hi hn6) (cwV 1 hts gX1_fact_X1_existing rfl rfl rfl (by decide +kernel) ⟨Nat.le_of_ble_eq_true rfl, Nat.le_of_ble_eq_true rfl⟩) hK hP hD hS hA 0 1 tp_e0 rfl rfl rfl hl.1 rfl (Nat.le_of_ble_eq_true rfl) dX1_fact_2 ⟨Nat.zero_le _, Nat.zero_le _⟩ (fun H locs hP hD hS => ?_)
  refine lv_astore (lv' := [(4, .ref (ad (9 + 15 * i))), (0, .ref (ad (0))), (1, .int (nI i)), (2, .int (nI f0)), (3, .int (nI m0))]) hx hb dX1_fact_5 hl (by decide) rfl (fun ls hl => ?_)
  refine lv_iload_n hx hb dX1_fact_7 rfl (lv_at hl 4 rfl) ?_
  refine tp_callSv ⟨hx, hb, hml, hown, hts⟩ (oc_checkMonth l D cy n ad o I m0 (by omega)) (va_cwS 1 hts gX1_fact_X1_checkMonth rfl rfl rfl (by decide +kernel) ⟨Nat.le_of_ble_eq_true rfl, Nat.le_of_ble_eq_true rfl⟩) hK hP hD hS hA rfl hl.1 rfl (Nat.le_of_ble_eq_true rfl) dX1_fact_8 ⟨Nat.zero_le _, Nat.zero_le _⟩ (fun I9 e9 H locs hP hD hS => ?_)
  subst e9
  refine lv_iload_n hx hb dX1_fact_11 rfl (lv_at hl 3 rfl) ?_
  refine tp_callSv ⟨hx, hb, hml, hown, hts⟩ (oc_checkFact l D cy n ad o I f0 (by omega)) (va_cwS 1 hts gX1_fact_X1_checkFact rfl rfl rfl (by decide +kernel) ⟨Nat.le_of_ble_eq_true rfl, Nat.le_of_ble_eq_true rfl⟩) hK hP hD hS hA rfl hl.1 rfl (Nat.le_of_ble_eq_true rfl) dX1_fact_12 ⟨Nat.zero_le _, Nat.zero_le _⟩ (fun I9 e9 H locs hP hD hS => ?_)
  subst e9
  refine lv_aload hx hb dX1_fact_15 (lv_at hl 0 rfl) ?_
  refine va_getN (D := D) (host := "TaperOffice") (ci := 0) (v := .ref (ad (9 + 15 * i + 1))) (C := RX0) (T := TX0) (N := 9) hx hb hts (fun _ h => List.mem_cons_of_mem _ (List.mem_append_left _ (List.mem_append_left _ (List.mem_append_left _ (List.mem_append_right _ (h)))))) hown hK hP (9 + 15 * i) (tp_eh hi) rfl 0 (by decide) (va_Nw.use rfl (hEw _ (List.mem_of_getElem? (i := 3) rfl))) (fun _ h9 => h9) rfl dX1_fact_17 ?_
  refine lv_iload_n hx hb dX1_fact_20 rfl (lv_at hl 3 rfl) ?_
  refine tp_aald hx hb hK hP (9 + 15 * i + 1) 5 (f0) (by omega) (tp_hVo i) rfl (by omega) (by decide) dX1_fact_21 ?_
  refine lv_iload_n hx hb dX1_fact_22 rfl (lv_at hl 4 rfl) ?_
  refine tp_iald hx hb hK hP (9 + 15 * i + 2 + f0) 48 (m0) (by omega) (tp_hV i (f := f0) (by omega)) rfl (by omega) (by decide) dX1_fact_23 ?_
  exact tp_reti hx hb hr hlocks hK hP hD hS rfl rfl rfl dX1_fact_24
set_option maxHeartbeats 4000000 in
set_option maxRecDepth 100000 in
/-- unassessed: no such household -/
theorem op_unassessed_no (l : Launch) (D : va_G) (cy : Nat → ClassId) (n : Nat) (ad : Nat → Nat) (o : Int64) (I : Nat → Nat → Int32) (sa : Nat → Nat) (tL tM : Nat) (hlt : l.stackTraces = false) (x : Int32) (hx0 : ∀ i, i < n → x ≠ nI i) (hn6 : n ≤ 6) : tp_T l yX1_unassessed wsX1_unassessed 7 112 D cy n ad o sa tL tM [.ref (ad (0)), .int x] I "java/lang/IndexOutOfBoundsException" := by
  refine tp_ofT (lv := [(0, .ref (ad (0))), (1, .int x)]) (by decide) rfl (Nat.le_of_ble_eq_true rfl) rfl (fun p e s m args below meth c A ls S0 hE hxt => ?_)
  obtain ⟨hx, hb, hr, hml, hown, hts, hlocks, hA, hK, hP, hD, hS, hl⟩ := S0
  obtain ⟨-, ⟨hEL, hEM⟩, -, hEw, -, hEa, hEo⟩ := id hE
  refine lv_aload_n hx hb dX1_unassessed_0 rfl (lv_at hl 0 rfl) ?_
  refine lv_iload_n hx hb dX1_unassessed_1 rfl (lv_at hl 1 rfl) ?_
  exact tp_callVT ⟨hx, hb, hml, hown, hts⟩ (oc_existing_no l D cy n ad o I sa tL tM hlt x hx0 hn6) (cwV 1 hts gX1_unassessed_X1_existing rfl rfl rfl (by decide +kernel) ⟨Nat.le_of_ble_eq_true rfl, Nat.le_of_ble_eq_true rfl⟩) hE hK hP hD hS hA 0 1 tp_e0 rfl rfl rfl hl.1 rfl (Nat.le_of_ble_eq_true rfl) dX1_unassessed_2 ⟨Nat.le_of_ble_eq_true rfl, Nat.le_of_ble_eq_true rfl⟩ (fun ce q9 H locs hce hcv hcl hP hD hS => tp_out hxt hlocks hce hcv hcl hK hP hD hS (Nat.le_of_ble_eq_true rfl) (Nat.le_of_ble_eq_true rfl))
set_option maxHeartbeats 4000000 in
set_option maxRecDepth 100000 in
/-- unassessed -/
theorem op_unassessed_ok (l : Launch) (D : va_G) (cy : Nat → ClassId) (n : Nat) (ad : Nat → Nat) (o : Int64) (I : Nat → Nat → Int32) (sa : Nat → Nat) (tL tM : Nat) (i : Nat) (hi : i < n) (hn6 : n ≤ 6) (a0 e0 : Nat) (ha : I (9 + 15 * i) 3 = nI a0) (he : I 0 2 = nI e0) (ha8 : a0 ≤ 48) (he8 : e0 ≤ 48) : tp_IE l yX1_unassessed wsX1_unassessed (tp_rm 4 89) D cy n ad o sa tL tM [.ref (ad (0)), .int (nI i)] I (tp_open I (9 + 15 * i) a0 e0) (I) := by
  refine tp_ofIE (lv := [(0, .ref (ad (0))), (1, .int (nI i))]) (by decide) rfl (Nat.le_of_ble_eq_true rfl) rfl (fun p e s m args below meth c A ls S0 hE => ?_)
  obtain ⟨hx, hb, hr, hml, hown, hts, hlocks, hA, hK, hP, hD, hS, hl⟩ := S0
  obtain ⟨-, ⟨hEL, hEM⟩, -, hEw, -, hEa, hEo⟩ := id hE
  refine lv_aload_n hx hb dX1_unassessed_0 rfl (lv_at hl 0 rfl) ?_
  refine lv_iload_n hx hb dX1_unassessed_1 rfl (lv_at hl 1 rfl) ?_
  refine tp_callR ⟨hx, hb, hml, hown, hts⟩ (oc_existing l D cy n ad o I i hi hn6) (cwV 1 hts gX1_unassessed_X1_existing rfl rfl rfl (by decide +kernel) ⟨Nat.le_of_ble_eq_true rfl, Nat.le_of_ble_eq_true rfl⟩) hK hP hD hS hA 0 1 tp_e0 rfl rfl rfl hl.1 rfl (Nat.le_of_ble_eq_true rfl) dX1_unassessed_2 ⟨Nat.zero_le _, Nat.zero_le _⟩ (fun H locs hP hD hS => ?_)
  refine lv_aload_n hx hb dX1_unassessed_5 rfl (lv_at hl 0 rfl) ?_
  refine va_get (D := D) (ci := 1) (v := .int (I 0 2)) (C := RX1) (T := TX1) (N := 3) hx hb hts (fun _ h => List.mem_cons_of_mem _ (List.mem_append_left _ (List.mem_append_left _ (List.mem_append_right _ (h))))) hown hK hP 0 tp_e0 rfl 2 (by decide) (hts _ (List.mem_of_getElem? (i := 1) rfl)) (fun _ h9 => h9) rfl dX1_unassessed_6 ?_
  refine tp_eqi (y := nI e0) he ?_
  refine tp_callN ⟨hx, hb, hml, hown, hts⟩ (hc_unassessedBefore l D cy n ad o I i hi a0 e0 ha (by omega) (by omega)) ⟨va_cnB (host := "TaperOffice") 1 hts gX1_unassessed_X0_unassessedBefore_n105 rfl rfl rfl (hEw _ (List.mem_of_getElem? (i := 15) rfl)) (hts _ (List.mem_of_getElem? (i := 11) rfl)) (by decide +kernel) ⟨Nat.le_of_ble_eq_true rfl, Nat.le_of_ble_eq_true rfl⟩, (hts _ (List.mem_of_getElem? (i := 10) rfl)), (hts _ (List.mem_of_getElem? (i := 12) rfl))⟩ hK hP hD hS hA (9 + 15 * i) 0 (tp_eh hi) rfl rfl rfl hl.1 rfl (Nat.le_of_ble_eq_true rfl) dX1_unassessed_9 ⟨Nat.zero_le _, Nat.zero_le _⟩ (fun I9 e9 H locs hP hD hS => ?_)
  subst e9
  exact tp_reti hx hb hr hlocks hK hP hD hS rfl rfl rfl dX1_unassessed_12
set_option maxHeartbeats 4000000 in
set_option maxRecDepth 100000 in
/-- wouldPay: no such household -/
theorem op_wouldPay_no (l : Launch) (D : va_G) (cy : Nat → ClassId) (n : Nat) (ad : Nat → Nat) (o : Int64) (I : Nat → Nat → Int32) (sa : Nat → Nat) (tL tM : Nat) (hlt : l.stackTraces = false) (x : Int32) (hx0 : ∀ i, i < n → x ≠ nI i) (hn6 : n ≤ 6) : tp_T l yX1_wouldPay wsX1_wouldPay 7 112 D cy n ad o sa tL tM [.ref (ad (0)), .int x] I "java/lang/IndexOutOfBoundsException" := by
  refine tp_ofT (lv := [(0, .ref (ad (0))), (1, .int x)]) (by decide) rfl (Nat.le_of_ble_eq_true rfl) rfl (fun p e s m args below meth c A ls S0 hE hxt => ?_)
  obtain ⟨hx, hb, hr, hml, hown, hts, hlocks, hA, hK, hP, hD, hS, hl⟩ := S0
  obtain ⟨-, ⟨hEL, hEM⟩, -, hEw, -, hEa, hEo⟩ := id hE
  refine lv_aload_n hx hb dX1_wouldPay_0 rfl (lv_at hl 0 rfl) ?_
  refine lv_iload_n hx hb dX1_wouldPay_1 rfl (lv_at hl 1 rfl) ?_
  exact tp_callVT ⟨hx, hb, hml, hown, hts⟩ (oc_existing_no l D cy n ad o I sa tL tM hlt x hx0 hn6) (cwV 1 hts gX1_wouldPay_X1_existing rfl rfl rfl (by decide +kernel) ⟨Nat.le_of_ble_eq_true rfl, Nat.le_of_ble_eq_true rfl⟩) hE hK hP hD hS hA 0 1 tp_e0 rfl rfl rfl hl.1 rfl (Nat.le_of_ble_eq_true rfl) dX1_wouldPay_2 ⟨Nat.le_of_ble_eq_true rfl, Nat.le_of_ble_eq_true rfl⟩ (fun ce q9 H locs hce hcv hcl hP hD hS => tp_out hxt hlocks hce hcv hcl hK hP hD hS (Nat.le_of_ble_eq_true rfl) (Nat.le_of_ble_eq_true rfl))
set_option maxHeartbeats 4000000 in
set_option maxRecDepth 100000 in
/-- wouldPay -/
theorem op_wouldPay_ok (l : Launch) (D : va_G) (cy : Nat → ClassId) (n : Nat) (ad : Nat → Nat) (o : Int64) (I : Nat → Nat → Int32) (sa : Nat → Nat) (tL tM : Nat) (i : Nat) (hi : i < n) (hn6 : n ≤ 6) (a0 e0 : Nat) (ha : I (9 + 15 * i) 3 = nI a0) (he : I 0 2 = nI e0) (ha8 : a0 ≤ 48) (he8 : e0 < 48) : tp_IE l yX1_wouldPay wsX1_wouldPay (tp_rm 5 114) D cy n ad o sa tL tM [.ref (ad (0)), .int (nI i)] I (tp_paym I (9 + 15 * i) a0 e0) (I) := by
  refine tp_ofIE (lv := [(0, .ref (ad (0))), (1, .int (nI i))]) (by decide) rfl (Nat.le_of_ble_eq_true rfl) rfl (fun p e s m args below meth c A ls S0 hE => ?_)
  obtain ⟨hx, hb, hr, hml, hown, hts, hlocks, hA, hK, hP, hD, hS, hl⟩ := S0
  obtain ⟨-, ⟨hEL, hEM⟩, -, hEw, -, hEa, hEo⟩ := id hE
  refine lv_aload_n hx hb dX1_wouldPay_0 rfl (lv_at hl 0 rfl) ?_
  refine lv_iload_n hx hb dX1_wouldPay_1 rfl (lv_at hl 1 rfl) ?_
  refine tp_callR ⟨hx, hb, hml, hown, hts⟩ (oc_existing l D cy n ad o I i hi hn6) (cwV 1 hts gX1_wouldPay_X1_existing rfl rfl rfl (by decide +kernel) ⟨Nat.le_of_ble_eq_true rfl, Nat.le_of_ble_eq_true rfl⟩) hK hP hD hS hA 0 1 tp_e0 rfl rfl rfl hl.1 rfl (Nat.le_of_ble_eq_true rfl) dX1_wouldPay_2 ⟨Nat.zero_le _, Nat.zero_le _⟩ (fun H locs hP hD hS => ?_)
  refine lv_astore_n (lv' := [(2, .ref (ad (9 + 15 * i))), (0, .ref (ad (0))), (1, .int (nI i))]) hx hb dX1_wouldPay_5 rfl hl (by decide) rfl (fun ls hl => ?_)
  refine lv_aload_n hx hb dX1_wouldPay_6 rfl (lv_at hl 1 rfl) ?_
  refine va_get (D := D) (ci := 1) (v := .int (I 0 2)) (C := RX1) (T := TX1) (N := 3) hx hb hts (fun _ h => List.mem_cons_of_mem _ (List.mem_append_left _ (List.mem_append_left _ (List.mem_append_right _ (h))))) hown hK hP 0 tp_e0 rfl 2 (by decide) (hts _ (List.mem_of_getElem? (i := 1) rfl)) (fun _ h9 => h9) rfl dX1_wouldPay_7 ?_
  refine tp_eqi (y := nI e0) he ?_
  refine lv_bipush (v := 48) hx hb dX1_wouldPay_10 (by decide) ?_
  refine lv_icmp_ge (tgt := 26) hx hb dX1_wouldPay_12 (by decide) (fun c12_1 => ?_) (fun c12_1 => ?_)
  · exact absurd c12_1 (nI_ge (a := e0) (b := 48) (by omega) (by decide))
  · refine lv_aload_n hx hb dX1_wouldPay_15 rfl (lv_at hl 0 rfl) ?_
    refine lv_aload_n hx hb dX1_wouldPay_16 rfl (lv_at hl 1 rfl) ?_
    refine va_get (D := D) (ci := 1) (v := .int (I 0 2)) (C := RX1) (T := TX1) (N := 3) hx hb hts (fun _ h => List.mem_cons_of_mem _ (List.mem_append_left _ (List.mem_append_left _ (List.mem_append_right _ (h))))) hown hK hP 0 tp_e0 rfl 2 (by decide) (hts _ (List.mem_of_getElem? (i := 1) rfl)) (fun _ h9 => h9) rfl dX1_wouldPay_17 ?_
    refine tp_eqi (y := nI e0) he ?_
    refine tp_callN ⟨hx, hb, hml, hown, hts⟩ (hc_paymentIn l D cy n ad o I i hi a0 e0 ha (by omega) (by omega)) ⟨va_cnB (host := "TaperOffice") 1 hts gX1_wouldPay_X0_paymentIn_n108 rfl rfl rfl (hEw _ (List.mem_of_getElem? (i := 16) rfl)) (hts _ (List.mem_of_getElem? (i := 11) rfl)) (by decide +kernel) ⟨Nat.le_of_ble_eq_true rfl, Nat.le_of_ble_eq_true rfl⟩, (hts _ (List.mem_of_getElem? (i := 10) rfl)), (hts _ (List.mem_of_getElem? (i := 12) rfl))⟩ hK hP hD hS hA (9 + 15 * i) 0 (tp_eh hi) rfl rfl rfl hl.1 rfl (Nat.le_of_ble_eq_true rfl) dX1_wouldPay_20 ⟨Nat.zero_le _, Nat.zero_le _⟩ (fun I9 e9 H locs hP hD hS => ?_)
    subst e9
    refine lv_goto (tgt := 27) hx hb dX1_wouldPay_23 (by decide) ?_
    exact tp_reti hx hb hr hlocks hK hP hD hS rfl rfl rfl dX1_wouldPay_27
set_option maxHeartbeats 4000000 in
set_option maxRecDepth 100000 in
/-- wouldPay -/
theorem op_wouldPay_end (l : Launch) (D : va_G) (cy : Nat → ClassId) (n : Nat) (ad : Nat → Nat) (o : Int64) (I : Nat → Nat → Int32) (sa : Nat → Nat) (tL tM : Nat) (i : Nat) (hi : i < n) (hn6 : n ≤ 6) (a0 e0 : Nat) (ha : I (9 + 15 * i) 3 = nI a0) (he : I 0 2 = nI e0) (ha8 : a0 ≤ 48) (he8 : e0 = 48) : tp_IE l yX1_wouldPay wsX1_wouldPay (tp_rm 1 22) D cy n ad o sa tL tM [.ref (ad (0)), .int (nI i)] I (0) (I) := by
  refine tp_ofIE (lv := [(0, .ref (ad (0))), (1, .int (nI i))]) (by decide) rfl (Nat.le_of_ble_eq_true rfl) rfl (fun p e s m args below meth c A ls S0 hE => ?_)
  obtain ⟨hx, hb, hr, hml, hown, hts, hlocks, hA, hK, hP, hD, hS, hl⟩ := S0
  obtain ⟨-, ⟨hEL, hEM⟩, -, hEw, -, hEa, hEo⟩ := id hE
  refine lv_aload_n hx hb dX1_wouldPay_0 rfl (lv_at hl 0 rfl) ?_
  refine lv_iload_n hx hb dX1_wouldPay_1 rfl (lv_at hl 1 rfl) ?_
  refine tp_callR ⟨hx, hb, hml, hown, hts⟩ (oc_existing l D cy n ad o I i hi hn6) (cwV 1 hts gX1_wouldPay_X1_existing rfl rfl rfl (by decide +kernel) ⟨Nat.le_of_ble_eq_true rfl, Nat.le_of_ble_eq_true rfl⟩) hK hP hD hS hA 0 1 tp_e0 rfl rfl rfl hl.1 rfl (Nat.le_of_ble_eq_true rfl) dX1_wouldPay_2 ⟨Nat.zero_le _, Nat.zero_le _⟩ (fun H locs hP hD hS => ?_)
  refine lv_astore_n (lv' := [(2, .ref (ad (9 + 15 * i))), (0, .ref (ad (0))), (1, .int (nI i))]) hx hb dX1_wouldPay_5 rfl hl (by decide) rfl (fun ls hl => ?_)
  refine lv_aload_n hx hb dX1_wouldPay_6 rfl (lv_at hl 1 rfl) ?_
  refine va_get (D := D) (ci := 1) (v := .int (I 0 2)) (C := RX1) (T := TX1) (N := 3) hx hb hts (fun _ h => List.mem_cons_of_mem _ (List.mem_append_left _ (List.mem_append_left _ (List.mem_append_right _ (h))))) hown hK hP 0 tp_e0 rfl 2 (by decide) (hts _ (List.mem_of_getElem? (i := 1) rfl)) (fun _ h9 => h9) rfl dX1_wouldPay_7 ?_
  refine tp_eqi (y := nI e0) he ?_
  refine lv_bipush (v := 48) hx hb dX1_wouldPay_10 (by decide) ?_
  refine lv_icmp_ge (tgt := 26) hx hb dX1_wouldPay_12 (by decide) (fun c12_1 => ?_) (fun c12_1 => ?_)
  · refine lv_iconst (v := 0) hx hb dX1_wouldPay_26 (by decide) ?_
    exact tp_reti hx hb hr hlocks hK hP hD hS rfl rfl rfl dX1_wouldPay_27
  · exact absurd (show (48 : Int32) ≤ nI e0 by rw [he8]; exact (by decide)) c12_1
set_option maxHeartbeats 4000000 in
set_option maxRecDepth 100000 in
/-- dispute: no such household -/
theorem op_dispute_no (l : Launch) (D : va_G) (cy : Nat → ClassId) (n : Nat) (ad : Nat → Nat) (o : Int64) (I : Nat → Nat → Int32) (sa : Nat → Nat) (tL tM : Nat) (hlt : l.stackTraces = false) (x : Int32) (hx0 : ∀ i, i < n → x ≠ nI i) (hn6 : n ≤ 6) (v : Int32) : tp_T l yX1_dispute wsX1_dispute 7 112 D cy n ad o sa tL tM [.ref (ad (0)), .int x, .int v] I "java/lang/IndexOutOfBoundsException" := by
  refine tp_ofT (lv := [(0, .ref (ad (0))), (1, .int x), (2, .int v)]) (by decide) rfl (Nat.le_of_ble_eq_true rfl) rfl (fun p e s m args below meth c A ls S0 hE hxt => ?_)
  obtain ⟨hx, hb, hr, hml, hown, hts, hlocks, hA, hK, hP, hD, hS, hl⟩ := S0
  obtain ⟨-, ⟨hEL, hEM⟩, -, hEw, -, hEa, hEo⟩ := id hE
  refine lv_aload_n hx hb dX1_dispute_0 rfl (lv_at hl 0 rfl) ?_
  refine lv_iload_n hx hb dX1_dispute_1 rfl (lv_at hl 1 rfl) ?_
  exact tp_callVT ⟨hx, hb, hml, hown, hts⟩ (oc_existing_no l D cy n ad o I sa tL tM hlt x hx0 hn6) (cwV 1 hts gX1_dispute_X1_existing rfl rfl rfl (by decide +kernel) ⟨Nat.le_of_ble_eq_true rfl, Nat.le_of_ble_eq_true rfl⟩) hE hK hP hD hS hA 0 1 tp_e0 rfl rfl rfl hl.1 rfl (Nat.le_of_ble_eq_true rfl) dX1_dispute_2 ⟨Nat.le_of_ble_eq_true rfl, Nat.le_of_ble_eq_true rfl⟩ (fun ce q9 H locs hce hcv hcl hP hD hS => tp_out hxt hlocks hce hcv hcl hK hP hD hS (Nat.le_of_ble_eq_true rfl) (Nat.le_of_ble_eq_true rfl))
set_option maxHeartbeats 4000000 in
set_option maxRecDepth 100000 in
/-- dispute -/
theorem op_dispute_ok (l : Launch) (D : va_G) (cy : Nat → ClassId) (n : Nat) (ad : Nat → Nat) (o : Int64) (I : Nat → Nat → Int32) (sa : Nat → Nat) (tL tM : Nat) (i : Nat) (hi : i < n) (hn6 : n ≤ 6) (v : Int32) (hv01 : v = 0 ∨ v = 1) (hd01 : I (9 + 15 * i) 8 = 0 ∨ I (9 + 15 * i) 8 = 1) : tp_IE l yX1_dispute wsX1_dispute (tp_rm 1 22) D cy n ad o sa tL tM [.ref (ad (0)), .int (nI i), .int v] I (I (9 + 15 * i) 8) (tp_u I (9 + 15 * i) 8 v) := by
  refine tp_ofIE (lv := [(0, .ref (ad (0))), (1, .int (nI i)), (2, .int v)]) (by decide) rfl (Nat.le_of_ble_eq_true rfl) rfl (fun p e s m args below meth c A ls S0 hE => ?_)
  obtain ⟨hx, hb, hr, hml, hown, hts, hlocks, hA, hK, hP, hD, hS, hl⟩ := S0
  obtain ⟨-, ⟨hEL, hEM⟩, -, hEw, -, hEa, hEo⟩ := id hE
  refine lv_aload_n hx hb dX1_dispute_0 rfl (lv_at hl 0 rfl) ?_
  refine lv_iload_n hx hb dX1_dispute_1 rfl (lv_at hl 1 rfl) ?_
  refine tp_callR ⟨hx, hb, hml, hown, hts⟩ (oc_existing l D cy n ad o I i hi hn6) (cwV 1 hts gX1_dispute_X1_existing rfl rfl rfl (by decide +kernel) ⟨Nat.le_of_ble_eq_true rfl, Nat.le_of_ble_eq_true rfl⟩) hK hP hD hS hA 0 1 tp_e0 rfl rfl rfl hl.1 rfl (Nat.le_of_ble_eq_true rfl) dX1_dispute_2 ⟨Nat.zero_le _, Nat.zero_le _⟩ (fun H locs hP hD hS => ?_)
  refine lv_astore_n (lv' := [(3, .ref (ad (9 + 15 * i))), (0, .ref (ad (0))), (1, .int (nI i)), (2, .int v)]) hx hb dX1_dispute_5 rfl hl (by decide) rfl (fun ls hl => ?_)
  refine lv_aload_n hx hb dX1_dispute_6 rfl (lv_at hl 0 rfl) ?_
  refine va_getN (D := D) (host := "TaperOffice") (ci := 0) (v := .int (I (9 + 15 * i) 8)) (C := RX0) (T := TX0) (N := 9) hx hb hts (fun _ h => List.mem_cons_of_mem _ (List.mem_append_left _ (List.mem_append_left _ (List.mem_append_right _ (h))))) hown hK hP (9 + 15 * i) (tp_eh hi) rfl 8 (by decide) (va_Nw.use rfl (hEw _ (List.mem_of_getElem? (i := 1) rfl))) (fun _ h9 => h9) rfl dX1_dispute_7 ?_
  refine lv_istore (lv' := [(4, .int (I (9 + 15 * i) 8)), (3, .ref (ad (9 + 15 * i))), (0, .ref (ad (0))), (1, .int (nI i)), (2, .int v)]) hx hb dX1_dispute_10 hl (by decide) rfl (fun ls hl => ?_)
  refine lv_aload_n hx hb dX1_dispute_12 rfl (lv_at hl 1 rfl) ?_
  refine lv_iload_n hx hb dX1_dispute_13 rfl (lv_at hl 4 rfl) ?_
  refine tp_putN (host := "TaperOffice") (ci := 0) (v := v) (ty := .boolean) (C := RX0) (T := TX0) (N := 9) hx hb hts (fun _ h => List.mem_cons_of_mem _ (List.mem_append_left _ (List.mem_append_left _ (List.mem_append_right _ (h))))) tyX0 tyX0_ok nmX0 hown hK hP hD hS (9 + 15 * i) (tp_eh hi) (by omega) rfl 8 (by decide) (va_Nw.use rfl (hEw _ (List.mem_of_getElem? (i := 1) rfl))) rfl (by decide +kernel) (by rcases hv01 with rfl | rfl <;> rfl) (by rcases hv01 with rfl | rfl <;> rfl) (Nat.le_of_ble_eq_true rfl) (tp_ch8 i _) dX1_dispute_14 (fun H locs hP hD hS => ?_)
  refine lv_iload hx hb dX1_dispute_17 (lv_at hl 0 rfl) ?_
  exact tp_reti hx hb hr hlocks hK hP hD hS (by rcases hd01 with z | z <;> rw [z] <;> rfl) rfl rfl dX1_dispute_19
set_option maxHeartbeats 4000000 in
set_option maxRecDepth 100000 in
/-- payBack: no such household -/
theorem op_payBack_no (l : Launch) (D : va_G) (cy : Nat → ClassId) (n : Nat) (ad : Nat → Nat) (o : Int64) (I : Nat → Nat → Int32) (sa : Nat → Nat) (tL tM : Nat) (hlt : l.stackTraces = false) (x : Int32) (hx0 : ∀ i, i < n → x ≠ nI i) (hn6 : n ≤ 6) (z : Int32) : tp_T l yX1_payBack wsX1_payBack 7 112 D cy n ad o sa tL tM [.ref (ad (0)), .int x, .int z] I "java/lang/IndexOutOfBoundsException" := by
  refine tp_ofT (lv := [(0, .ref (ad (0))), (1, .int x), (2, .int z)]) (by decide) rfl (Nat.le_of_ble_eq_true rfl) rfl (fun p e s m args below meth c A ls S0 hE hxt => ?_)
  obtain ⟨hx, hb, hr, hml, hown, hts, hlocks, hA, hK, hP, hD, hS, hl⟩ := S0
  obtain ⟨-, ⟨hEL, hEM⟩, -, hEw, -, hEa, hEo⟩ := id hE
  refine lv_aload_n hx hb dX1_payBack_0 rfl (lv_at hl 0 rfl) ?_
  refine lv_iload_n hx hb dX1_payBack_1 rfl (lv_at hl 1 rfl) ?_
  exact tp_callVT ⟨hx, hb, hml, hown, hts⟩ (oc_existing_no l D cy n ad o I sa tL tM hlt x hx0 hn6) (cwV 1 hts gX1_payBack_X1_existing rfl rfl rfl (by decide +kernel) ⟨Nat.le_of_ble_eq_true rfl, Nat.le_of_ble_eq_true rfl⟩) hE hK hP hD hS hA 0 1 tp_e0 rfl rfl rfl hl.1 rfl (Nat.le_of_ble_eq_true rfl) dX1_payBack_2 ⟨Nat.le_of_ble_eq_true rfl, Nat.le_of_ble_eq_true rfl⟩ (fun ce q9 H locs hce hcv hcl hP hD hS => tp_out hxt hlocks hce hcv hcl hK hP hD hS (Nat.le_of_ble_eq_true rfl) (Nat.le_of_ble_eq_true rfl))
set_option maxHeartbeats 4000000 in
set_option maxRecDepth 100000 in
/-- payBack: bad -/
theorem op_payBack_bad (l : Launch) (D : va_G) (cy : Nat → ClassId) (n : Nat) (ad : Nat → Nat) (o : Int64) (I : Nat → Nat → Int32) (sa : Nat → Nat) (tL tM : Nat) (hlt : l.stackTraces = false) (i : Nat) (hi : i < n) (hn6 : n ≤ 6) (x : Int32) (hxb : x < 1 ∨ ¬ x ≤ 1000000) : tp_T l yX1_payBack wsX1_payBack 6 90 D cy n ad o sa tL tM [.ref (ad (0)), .int (nI i), .int x] I "java/lang/IllegalArgumentException" := by
  refine tp_ofT (lv := [(0, .ref (ad (0))), (1, .int (nI i)), (2, .int x)]) (by decide) rfl (Nat.le_of_ble_eq_true rfl) rfl (fun p e s m args below meth c A ls S0 hE hxt => ?_)
  obtain ⟨hx, hb, hr, hml, hown, hts, hlocks, hA, hK, hP, hD, hS, hl⟩ := S0
  obtain ⟨-, ⟨hEL, hEM⟩, -, hEw, -, hEa, hEo⟩ := id hE
  refine lv_aload_n hx hb dX1_payBack_0 rfl (lv_at hl 0 rfl) ?_
  refine lv_iload_n hx hb dX1_payBack_1 rfl (lv_at hl 1 rfl) ?_
  refine tp_callR ⟨hx, hb, hml, hown, hts⟩ (oc_existing l D cy n ad o I i hi hn6) (cwV 1 hts gX1_payBack_X1_existing rfl rfl rfl (by decide +kernel) ⟨Nat.le_of_ble_eq_true rfl, Nat.le_of_ble_eq_true rfl⟩) hK hP hD hS hA 0 1 tp_e0 rfl rfl rfl hl.1 rfl (Nat.le_of_ble_eq_true rfl) dX1_payBack_2 ⟨Nat.zero_le _, Nat.zero_le _⟩ (fun H locs hP hD hS => ?_)
  refine lv_astore_n (lv' := [(3, .ref (ad (9 + 15 * i))), (0, .ref (ad (0))), (1, .int (nI i)), (2, .int x)]) hx hb dX1_payBack_5 rfl hl (by decide) rfl (fun ls hl => ?_)
  refine lv_iload_n hx hb dX1_payBack_6 rfl (lv_at hl 3 rfl) ?_
  refine lv_iconst (v := 1) hx hb dX1_payBack_7 (by decide) ?_
  refine lv_icmp_lt (tgt := 17) hx hb dX1_payBack_8 (by decide) (fun c8_1 => ?_) (fun c8_1 => ?_)
  · exact tp_throw (text := "the cents are out of range") (ik := 41) (is := 73) (ic := 45) hx hb hlt hown (by decide +kernel) (hts _ (List.mem_of_getElem? (i := 1) rfl)) (hts _ (List.mem_of_getElem? (i := 2) rfl)) (by decide) (fun w h => hts w (List.mem_cons_of_mem _ (List.mem_append_left _ (List.mem_append_left _ (List.mem_append_right _ (h)))))) (by decide +kernel) (by decide +kernel) hE hK hP hD hS (hl.1.trans hml.symm) dX1_payBack_17 dX1_payBack_20 dX1_payBack_21 dX1_payBack_23 dX1_payBack_26 hxt hlocks (Nat.le_of_ble_eq_true rfl) (Nat.le_of_ble_eq_true rfl) (Nat.le_of_ble_eq_true rfl) (Nat.le_of_ble_eq_true rfl)
  · refine lv_iload_n hx hb dX1_payBack_11 rfl (lv_at hl 3 rfl) ?_
    refine lv_ldc (v := 1000000) hx hb hown (hts _ (List.mem_of_getElem? (i := 5) rfl)) dX1_payBack_12 ?_
    refine lv_icmp_le (tgt := 27) hx hb dX1_payBack_14 (by decide) (fun c14_2 => ?_) (fun c14_2 => ?_)
    · exact absurd hxb (fun z => z.elim c8_1 (fun z => z c14_2))
    · exact tp_throw (text := "the cents are out of range") (ik := 41) (is := 73) (ic := 45) hx hb hlt hown (by decide +kernel) (hts _ (List.mem_of_getElem? (i := 1) rfl)) (hts _ (List.mem_of_getElem? (i := 2) rfl)) (by decide) (fun w h => hts w (List.mem_cons_of_mem _ (List.mem_append_left _ (List.mem_append_left _ (List.mem_append_right _ (h)))))) (by decide +kernel) (by decide +kernel) hE hK hP hD hS (hl.1.trans hml.symm) dX1_payBack_17 dX1_payBack_20 dX1_payBack_21 dX1_payBack_23 dX1_payBack_26 hxt hlocks (Nat.le_of_ble_eq_true rfl) (Nat.le_of_ble_eq_true rfl) (Nat.le_of_ble_eq_true rfl) (Nat.le_of_ble_eq_true rfl)
set_option maxHeartbeats 4000000 in
set_option maxRecDepth 100000 in
/-- payBack: less -/
theorem op_payBack_less (l : Launch) (D : va_G) (cy : Nat → ClassId) (n : Nat) (ad : Nat → Nat) (o : Int64) (I : Nat → Nat → Int32) (sa : Nat → Nat) (tL tM : Nat) (hlt : l.stackTraces = false) (i : Nat) (hi : i < n) (hn6 : n ≤ 6) (x : Int32) (hx1 : ¬ x < 1) (hx2 : x ≤ 1000000) (hx3 : ¬ x ≤ I (9 + 15 * i) 6) : tp_T l yX1_payBack wsX1_payBack 6 90 D cy n ad o sa tL tM [.ref (ad (0)), .int (nI i), .int x] I "java/lang/IllegalStateException" := by
  refine tp_ofT (lv := [(0, .ref (ad (0))), (1, .int (nI i)), (2, .int x)]) (by decide) rfl (Nat.le_of_ble_eq_true rfl) rfl (fun p e s m args below meth c A ls S0 hE hxt => ?_)
  obtain ⟨hx, hb, hr, hml, hown, hts, hlocks, hA, hK, hP, hD, hS, hl⟩ := S0
  obtain ⟨-, ⟨hEL, hEM⟩, -, hEw, -, hEa, hEo⟩ := id hE
  refine lv_aload_n hx hb dX1_payBack_0 rfl (lv_at hl 0 rfl) ?_
  refine lv_iload_n hx hb dX1_payBack_1 rfl (lv_at hl 1 rfl) ?_
  refine tp_callR ⟨hx, hb, hml, hown, hts⟩ (oc_existing l D cy n ad o I i hi hn6) (cwV 1 hts gX1_payBack_X1_existing rfl rfl rfl (by decide +kernel) ⟨Nat.le_of_ble_eq_true rfl, Nat.le_of_ble_eq_true rfl⟩) hK hP hD hS hA 0 1 tp_e0 rfl rfl rfl hl.1 rfl (Nat.le_of_ble_eq_true rfl) dX1_payBack_2 ⟨Nat.zero_le _, Nat.zero_le _⟩ (fun H locs hP hD hS => ?_)
  refine lv_astore_n (lv' := [(3, .ref (ad (9 + 15 * i))), (0, .ref (ad (0))), (1, .int (nI i)), (2, .int x)]) hx hb dX1_payBack_5 rfl hl (by decide) rfl (fun ls hl => ?_)
  refine lv_iload_n hx hb dX1_payBack_6 rfl (lv_at hl 3 rfl) ?_
  refine lv_iconst (v := 1) hx hb dX1_payBack_7 (by decide) ?_
  refine lv_icmp_lt (tgt := 17) hx hb dX1_payBack_8 (by decide) (fun c8_1 => ?_) (fun c8_1 => ?_)
  · exact absurd c8_1 hx1
  · refine lv_iload_n hx hb dX1_payBack_11 rfl (lv_at hl 3 rfl) ?_
    refine lv_ldc (v := 1000000) hx hb hown (hts _ (List.mem_of_getElem? (i := 5) rfl)) dX1_payBack_12 ?_
    refine lv_icmp_le (tgt := 27) hx hb dX1_payBack_14 (by decide) (fun c14_2 => ?_) (fun c14_2 => ?_)
    · refine lv_aload_n hx hb dX1_payBack_27 rfl (lv_at hl 0 rfl) ?_
      refine va_getN (D := D) (host := "TaperOffice") (ci := 0) (v := .int (I (9 + 15 * i) 6)) (C := RX0) (T := TX0) (N := 9) hx hb hts (fun _ h => List.mem_cons_of_mem _ (List.mem_append_left _ (List.mem_append_left _ (List.mem_append_left _ (List.mem_append_left _ (List.mem_append_right _ (h))))))) hown hK hP (9 + 15 * i) (tp_eh hi) rfl 6 (by decide) (va_Nw.use rfl (hEw _ (List.mem_of_getElem? (i := 2) rfl))) (fun _ h9 => h9) rfl dX1_payBack_28 ?_
      refine lv_iload_n hx hb dX1_payBack_31 rfl (lv_at hl 3 rfl) ?_
      refine lv_icmp_ge (tgt := 45) hx hb dX1_payBack_32 (by decide) (fun c32_3 => ?_) (fun c32_3 => ?_)
      · exact absurd c32_3 hx3
      · exact tp_throw (text := "the debt is less than that") (ik := 22) (is := 78) (ic := 26) hx hb hlt hown (by decide +kernel) (hts _ (List.mem_of_getElem? (i := 3) rfl)) (hts _ (List.mem_of_getElem? (i := 4) rfl)) (by decide) (fun w h => hts w (List.mem_cons_of_mem _ (List.mem_append_left _ (List.mem_append_right _ (h))))) (by decide +kernel) (by decide +kernel) hE hK hP hD hS (hl.1.trans hml.symm) dX1_payBack_35 dX1_payBack_38 dX1_payBack_39 dX1_payBack_41 dX1_payBack_44 hxt hlocks (Nat.le_of_ble_eq_true rfl) (Nat.le_of_ble_eq_true rfl) (Nat.le_of_ble_eq_true rfl) (Nat.le_of_ble_eq_true rfl)
    · exact absurd hx2 c14_2
set_option maxHeartbeats 4000000 in
set_option maxRecDepth 100000 in
/-- payBack: ok -/
theorem op_payBack_ok (l : Launch) (D : va_G) (cy : Nat → ClassId) (n : Nat) (ad : Nat → Nat) (o : Int64) (I : Nat → Nat → Int32) (sa : Nat → Nat) (tL tM : Nat) (i : Nat) (hi : i < n) (hn6 : n ≤ 6) (x : Int32) (hx1 : ¬ x < 1) (hx2 : x ≤ 1000000) (hx3 : x ≤ I (9 + 15 * i) 6) : tp_IE l yX1_payBack wsX1_payBack (tp_rm 1 22) D cy n ad o sa tL tM [.ref (ad (0)), .int (nI i), .int x] I (I (9 + 15 * i) 6 - x) (tp_u (tp_u I (9 + 15 * i) 6 (I (9 + 15 * i) 6 - x)) (9 + 15 * i) 7 (I (9 + 15 * i) 7 + x)) := by
  refine tp_ofIE (lv := [(0, .ref (ad (0))), (1, .int (nI i)), (2, .int x)]) (by decide) rfl (Nat.le_of_ble_eq_true rfl) rfl (fun p e s m args below meth c A ls S0 hE => ?_)
  obtain ⟨hx, hb, hr, hml, hown, hts, hlocks, hA, hK, hP, hD, hS, hl⟩ := S0
  obtain ⟨-, ⟨hEL, hEM⟩, -, hEw, -, hEa, hEo⟩ := id hE
  refine lv_aload_n hx hb dX1_payBack_0 rfl (lv_at hl 0 rfl) ?_
  refine lv_iload_n hx hb dX1_payBack_1 rfl (lv_at hl 1 rfl) ?_
  refine tp_callR ⟨hx, hb, hml, hown, hts⟩ (oc_existing l D cy n ad o I i hi hn6) (cwV 1 hts gX1_payBack_X1_existing rfl rfl rfl (by decide +kernel) ⟨Nat.le_of_ble_eq_true rfl, Nat.le_of_ble_eq_true rfl⟩) hK hP hD hS hA 0 1 tp_e0 rfl rfl rfl hl.1 rfl (Nat.le_of_ble_eq_true rfl) dX1_payBack_2 ⟨Nat.zero_le _, Nat.zero_le _⟩ (fun H locs hP hD hS => ?_)
  refine lv_astore_n (lv' := [(3, .ref (ad (9 + 15 * i))), (0, .ref (ad (0))), (1, .int (nI i)), (2, .int x)]) hx hb dX1_payBack_5 rfl hl (by decide) rfl (fun ls hl => ?_)
  refine lv_iload_n hx hb dX1_payBack_6 rfl (lv_at hl 3 rfl) ?_
  refine lv_iconst (v := 1) hx hb dX1_payBack_7 (by decide) ?_
  refine lv_icmp_lt (tgt := 17) hx hb dX1_payBack_8 (by decide) (fun c8_1 => ?_) (fun c8_1 => ?_)
  · exact absurd c8_1 hx1
  · refine lv_iload_n hx hb dX1_payBack_11 rfl (lv_at hl 3 rfl) ?_
    refine lv_ldc (v := 1000000) hx hb hown (hts _ (List.mem_of_getElem? (i := 5) rfl)) dX1_payBack_12 ?_
    refine lv_icmp_le (tgt := 27) hx hb dX1_payBack_14 (by decide) (fun c14_2 => ?_) (fun c14_2 => ?_)
    · refine lv_aload_n hx hb dX1_payBack_27 rfl (lv_at hl 0 rfl) ?_
      refine va_getN (D := D) (host := "TaperOffice") (ci := 0) (v := .int (I (9 + 15 * i) 6)) (C := RX0) (T := TX0) (N := 9) hx hb hts (fun _ h => List.mem_cons_of_mem _ (List.mem_append_left _ (List.mem_append_left _ (List.mem_append_left _ (List.mem_append_left _ (List.mem_append_right _ (h))))))) hown hK hP (9 + 15 * i) (tp_eh hi) rfl 6 (by decide) (va_Nw.use rfl (hEw _ (List.mem_of_getElem? (i := 2) rfl))) (fun _ h9 => h9) rfl dX1_payBack_28 ?_
      refine lv_iload_n hx hb dX1_payBack_31 rfl (lv_at hl 3 rfl) ?_
      refine lv_icmp_ge (tgt := 45) hx hb dX1_payBack_32 (by decide) (fun c32_3 => ?_) (fun c32_3 => ?_)
      · refine lv_aload_n hx hb dX1_payBack_45 rfl (lv_at hl 0 rfl) ?_
        refine lv_iload_n hx hb dX1_payBack_46 rfl (lv_at hl 3 rfl) ?_
        refine tp_callNv ⟨hx, hb, hml, hown, hts⟩ (hc_lowerDebt l D cy n ad o I i hi x) ⟨va_cnB (host := "TaperOffice") 1 hts gX1_payBack_X0_lowerDebt_n80 rfl rfl rfl (hEw _ (List.mem_of_getElem? (i := 9) rfl)) (hts _ (List.mem_of_getElem? (i := 15) rfl)) (by decide +kernel) ⟨Nat.le_of_ble_eq_true rfl, Nat.le_of_ble_eq_true rfl⟩, (hts _ (List.mem_of_getElem? (i := 14) rfl)), (hts _ (List.mem_of_getElem? (i := 16) rfl))⟩ hK hP hD hS hA (9 + 15 * i) 0 (tp_eh hi) rfl rfl rfl hl.1 rfl (Nat.le_of_ble_eq_true rfl) dX1_payBack_47 ⟨Nat.zero_le _, Nat.zero_le _⟩ (fun I9 e9 H locs hP hD hS => ?_)
        subst e9
        refine lv_aload_n hx hb dX1_payBack_50 rfl (lv_at hl 0 rfl) ?_
        refine va_getN (D := D) (host := "TaperOffice") (ci := 0) (v := .int ((tp_u (tp_u I (9 + 15 * i) 6 (I (9 + 15 * i) 6 - x)) (9 + 15 * i) 7 (I (9 + 15 * i) 7 + x)) (9 + 15 * i) 6)) (C := RX0) (T := TX0) (N := 9) hx hb hts (fun _ h => List.mem_cons_of_mem _ (List.mem_append_left _ (List.mem_append_left _ (List.mem_append_left _ (List.mem_append_left _ (List.mem_append_right _ (h))))))) hown hK hP (9 + 15 * i) (tp_eh hi) rfl 6 (by decide) (va_Nw.use rfl (hEw _ (List.mem_of_getElem? (i := 2) rfl))) (fun _ h9 => h9) rfl dX1_payBack_51 ?_
        refine tp_eqi (y := (I (9 + 15 * i) 6 - x)) (by rw [tp_u_n (b := 6) (j := 7) (by decide), tp_u_s]) ?_
        exact tp_reti hx hb hr hlocks hK hP hD hS rfl rfl rfl dX1_payBack_54
      · exact absurd hx3 c32_3
    · exact absurd hx2 c14_2
set_option maxHeartbeats 4000000 in
set_option maxRecDepth 100000 in
/-- tell: no such household -/
theorem op_tell_no (l : Launch) (D : va_G) (cy : Nat → ClassId) (n : Nat) (ad : Nat → Nat) (o : Int64) (I : Nat → Nat → Int32) (sa : Nat → Nat) (tL tM : Nat) (hlt : l.stackTraces = false) (x : Int32) (hx0 : ∀ i, i < n → x ≠ nI i) (hn6 : n ≤ 6) (f d v : Int32) : tp_T l yX1_tell wsX1_tell 7 112 D cy n ad o sa tL tM [.ref (ad (0)), .int x, .int f, .int d, .int v] I "java/lang/IndexOutOfBoundsException" := by
  refine tp_ofT (lv := [(0, .ref (ad (0))), (1, .int x), (2, .int f), (3, .int d), (4, .int v)]) (by decide) rfl (Nat.le_of_ble_eq_true rfl) rfl (fun p e s m args below meth c A ls S0 hE hxt => ?_)
  obtain ⟨hx, hb, hr, hml, hown, hts, hlocks, hA, hK, hP, hD, hS, hl⟩ := S0
  obtain ⟨-, ⟨hEL, hEM⟩, -, hEw, -, hEa, hEo⟩ := id hE
  refine lv_aload_n hx hb dX1_tell_0 rfl (lv_at hl 0 rfl) ?_
  refine lv_iload_n hx hb dX1_tell_1 rfl (lv_at hl 1 rfl) ?_
  exact tp_callVT ⟨hx, hb, hml, hown, hts⟩ (oc_existing_no l D cy n ad o I sa tL tM hlt x hx0 hn6) (cwV 1 hts gX1_tell_X1_existing rfl rfl rfl (by decide +kernel) ⟨Nat.le_of_ble_eq_true rfl, Nat.le_of_ble_eq_true rfl⟩) hE hK hP hD hS hA 0 1 tp_e0 rfl rfl rfl hl.1 rfl (Nat.le_of_ble_eq_true rfl) dX1_tell_2 ⟨Nat.le_of_ble_eq_true rfl, Nat.le_of_ble_eq_true rfl⟩ (fun ce q9 H locs hce hcv hcl hP hD hS => tp_out hxt hlocks hce hcv hcl hK hP hD hS (Nat.le_of_ble_eq_true rfl) (Nat.le_of_ble_eq_true rfl))
set_option maxHeartbeats 4000000 in
set_option maxRecDepth 100000 in
/-- tell: no such fact -/
theorem op_tell_fact (l : Launch) (D : va_G) (cy : Nat → ClassId) (n : Nat) (ad : Nat → Nat) (o : Int64) (I : Nat → Nat → Int32) (sa : Nat → Nat) (tL tM : Nat) (hlt : l.stackTraces = false) (i : Nat) (hi : i < n) (hn6 : n ≤ 6) (x : Int32) (hx0 : ∀ j, j < 5 → x ≠ nI j) (d v : Int32) : tp_T l yX1_tell wsX1_tell 7 110 D cy n ad o sa tL tM [.ref (ad (0)), .int (nI i), .int x, .int d, .int v] I "java/lang/IllegalArgumentException" := by
  refine tp_ofT (lv := [(0, .ref (ad (0))), (1, .int (nI i)), (2, .int x), (3, .int d), (4, .int v)]) (by decide) rfl (Nat.le_of_ble_eq_true rfl) rfl (fun p e s m args below meth c A ls S0 hE hxt => ?_)
  obtain ⟨hx, hb, hr, hml, hown, hts, hlocks, hA, hK, hP, hD, hS, hl⟩ := S0
  obtain ⟨-, ⟨hEL, hEM⟩, -, hEw, -, hEa, hEo⟩ := id hE
  refine lv_aload_n hx hb dX1_tell_0 rfl (lv_at hl 0 rfl) ?_
  refine lv_iload_n hx hb dX1_tell_1 rfl (lv_at hl 1 rfl) ?_
  refine tp_callR ⟨hx, hb, hml, hown, hts⟩ (oc_existing l D cy n ad o I i hi hn6) (cwV 1 hts gX1_tell_X1_existing rfl rfl rfl (by decide +kernel) ⟨Nat.le_of_ble_eq_true rfl, Nat.le_of_ble_eq_true rfl⟩) hK hP hD hS hA 0 1 tp_e0 rfl rfl rfl hl.1 rfl (Nat.le_of_ble_eq_true rfl) dX1_tell_2 ⟨Nat.zero_le _, Nat.zero_le _⟩ (fun H locs hP hD hS => ?_)
  refine lv_astore (lv' := [(5, .ref (ad (9 + 15 * i))), (0, .ref (ad (0))), (1, .int (nI i)), (2, .int x), (3, .int d), (4, .int v)]) hx hb dX1_tell_5 hl (by decide) rfl (fun ls hl => ?_)
  refine lv_iload_n hx hb dX1_tell_7 rfl (lv_at hl 3 rfl) ?_
  exact tp_callST ⟨hx, hb, hml, hown, hts⟩ (oc_checkFact_no l D cy n ad o I sa tL tM hlt x hx0) (va_cwS 1 hts gX1_tell_X1_checkFact rfl rfl rfl (by decide +kernel) ⟨Nat.le_of_ble_eq_true rfl, Nat.le_of_ble_eq_true rfl⟩) hE hK hP hD hS hA rfl hl.1 rfl (Nat.le_of_ble_eq_true rfl) dX1_tell_8 ⟨Nat.le_of_ble_eq_true rfl, Nat.le_of_ble_eq_true rfl⟩ (fun ce q9 H locs hce hcv hcl hP hD hS => tp_out hxt hlocks hce hcv hcl hK hP hD hS (Nat.le_of_ble_eq_true rfl) (Nat.le_of_ble_eq_true rfl))
set_option maxHeartbeats 4000000 in
set_option maxRecDepth 100000 in
/-- tell: no such day -/
theorem op_tell_day (l : Launch) (D : va_G) (cy : Nat → ClassId) (n : Nat) (ad : Nat → Nat) (o : Int64) (I : Nat → Nat → Int32) (sa : Nat → Nat) (tL tM : Nat) (hlt : l.stackTraces = false) (i : Nat) (hi : i < n) (hn6 : n ≤ 6) (f0 : Nat) (hf5 : f0 < 5) (d v : Int32) (hd : ∀ j, j < 1440 → d ≠ nI j) : tp_T l yX1_tell wsX1_tell 6 90 D cy n ad o sa tL tM [.ref (ad (0)), .int (nI i), .int (nI f0), .int d, .int v] I "java/lang/IllegalArgumentException" := by
  refine tp_ofT (lv := [(0, .ref (ad (0))), (1, .int (nI i)), (2, .int (nI f0)), (3, .int d), (4, .int v)]) (by decide) rfl (Nat.le_of_ble_eq_true rfl) rfl (fun p e s m args below meth c A ls S0 hE hxt => ?_)
  obtain ⟨hx, hb, hr, hml, hown, hts, hlocks, hA, hK, hP, hD, hS, hl⟩ := S0
  obtain ⟨-, ⟨hEL, hEM⟩, -, hEw, -, hEa, hEo⟩ := id hE
  refine lv_aload_n hx hb dX1_tell_0 rfl (lv_at hl 0 rfl) ?_
  refine lv_iload_n hx hb dX1_tell_1 rfl (lv_at hl 1 rfl) ?_
  refine tp_callR ⟨hx, hb, hml, hown, hts⟩ (oc_existing l D cy n ad o I i hi hn6) (cwV 1 hts gX1_tell_X1_existing rfl rfl rfl (by decide +kernel) ⟨Nat.le_of_ble_eq_true rfl, Nat.le_of_ble_eq_true rfl⟩) hK hP hD hS hA 0 1 tp_e0 rfl rfl rfl hl.1 rfl (Nat.le_of_ble_eq_true rfl) dX1_tell_2 ⟨Nat.zero_le _, Nat.zero_le _⟩ (fun H locs hP hD hS => ?_)
  refine lv_astore (lv' := [(5, .ref (ad (9 + 15 * i))), (0, .ref (ad (0))), (1, .int (nI i)), (2, .int (nI f0)), (3, .int d), (4, .int v)]) hx hb dX1_tell_5 hl (by decide) rfl (fun ls hl => ?_)
  refine lv_iload_n hx hb dX1_tell_7 rfl (lv_at hl 3 rfl) ?_
  refine tp_callSv ⟨hx, hb, hml, hown, hts⟩ (oc_checkFact l D cy n ad o I f0 (by omega)) (va_cwS 1 hts gX1_tell_X1_checkFact rfl rfl rfl (by decide +kernel) ⟨Nat.le_of_ble_eq_true rfl, Nat.le_of_ble_eq_true rfl⟩) hK hP hD hS hA rfl hl.1 rfl (Nat.le_of_ble_eq_true rfl) dX1_tell_8 ⟨Nat.zero_le _, Nat.zero_le _⟩ (fun I9 e9 H locs hP hD hS => ?_)
  subst e9
  refine lv_iload_n hx hb dX1_tell_11 rfl (lv_at hl 4 rfl) ?_
  refine lv_if_lt (tgt := 22) hx hb dX1_tell_12 (by decide) (fun c12_1 => ?_) (fun c12_1 => ?_)
  · exact tp_throw (text := "there is no such day") (ik := 41) (is := 43) (ic := 45) hx hb hlt hown (by decide +kernel) (hts _ (List.mem_of_getElem? (i := 1) rfl)) (hts _ (List.mem_of_getElem? (i := 2) rfl)) (by decide) (fun w h => hts w (List.mem_cons_of_mem _ (List.mem_append_left _ (List.mem_append_left _ (List.mem_append_right _ (h)))))) (by decide +kernel) (by decide +kernel) hE hK hP hD hS (hl.1.trans hml.symm) dX1_tell_22 dX1_tell_25 dX1_tell_26 dX1_tell_28 dX1_tell_31 hxt hlocks (Nat.le_of_ble_eq_true rfl) (Nat.le_of_ble_eq_true rfl) (Nat.le_of_ble_eq_true rfl) (Nat.le_of_ble_eq_true rfl)
  · refine lv_iload_n hx hb dX1_tell_15 rfl (lv_at hl 4 rfl) ?_
    refine lv_sipush (v := 1440) hx hb dX1_tell_16 (by decide) ?_
    refine lv_icmp_lt (tgt := 32) hx hb dX1_tell_19 (by decide) (fun c19_2 => ?_) (fun c19_2 => ?_)
    · obtain ⟨j, hj6, hjx⟩ := tp_ix (N := 1440) (by decide) c12_1 c19_2
      exact absurd hjx (hd j hj6)
    · exact tp_throw (text := "there is no such day") (ik := 41) (is := 43) (ic := 45) hx hb hlt hown (by decide +kernel) (hts _ (List.mem_of_getElem? (i := 1) rfl)) (hts _ (List.mem_of_getElem? (i := 2) rfl)) (by decide) (fun w h => hts w (List.mem_cons_of_mem _ (List.mem_append_left _ (List.mem_append_left _ (List.mem_append_right _ (h)))))) (by decide +kernel) (by decide +kernel) hE hK hP hD hS (hl.1.trans hml.symm) dX1_tell_22 dX1_tell_25 dX1_tell_26 dX1_tell_28 dX1_tell_31 hxt hlocks (Nat.le_of_ble_eq_true rfl) (Nat.le_of_ble_eq_true rfl) (Nat.le_of_ble_eq_true rfl) (Nat.le_of_ble_eq_true rfl)
set_option maxHeartbeats 4000000 in
set_option maxRecDepth 100000 in
/-- tell: value -/
theorem op_tell_value (l : Launch) (D : va_G) (cy : Nat → ClassId) (n : Nat) (ad : Nat → Nat) (o : Int64) (I : Nat → Nat → Int32) (sa : Nat → Nat) (tL tM : Nat) (hlt : l.stackTraces = false) (i : Nat) (hi : i < n) (hn6 : n ≤ 6) (f0 d0 : Nat) (hf5 : f0 < 5) (hd0 : d0 < 1440) (v : Int32) (hvb : v < tp_vl f0 ∨ ¬ v ≤ tp_vm f0) : tp_T l yX1_tell wsX1_tell 6 90 D cy n ad o sa tL tM [.ref (ad (0)), .int (nI i), .int (nI f0), .int (nI d0), .int v] I "java/lang/IllegalArgumentException" := by
  refine tp_ofT (lv := [(0, .ref (ad (0))), (1, .int (nI i)), (2, .int (nI f0)), (3, .int (nI d0)), (4, .int v)]) (by decide) rfl (Nat.le_of_ble_eq_true rfl) rfl (fun p e s m args below meth c A ls S0 hE hxt => ?_)
  obtain ⟨hx, hb, hr, hml, hown, hts, hlocks, hA, hK, hP, hD, hS, hl⟩ := S0
  obtain ⟨-, ⟨hEL, hEM⟩, -, hEw, -, hEa, hEo⟩ := id hE
  refine lv_aload_n hx hb dX1_tell_0 rfl (lv_at hl 0 rfl) ?_
  refine lv_iload_n hx hb dX1_tell_1 rfl (lv_at hl 1 rfl) ?_
  refine tp_callR ⟨hx, hb, hml, hown, hts⟩ (oc_existing l D cy n ad o I i hi hn6) (cwV 1 hts gX1_tell_X1_existing rfl rfl rfl (by decide +kernel) ⟨Nat.le_of_ble_eq_true rfl, Nat.le_of_ble_eq_true rfl⟩) hK hP hD hS hA 0 1 tp_e0 rfl rfl rfl hl.1 rfl (Nat.le_of_ble_eq_true rfl) dX1_tell_2 ⟨Nat.zero_le _, Nat.zero_le _⟩ (fun H locs hP hD hS => ?_)
  refine lv_astore (lv' := [(5, .ref (ad (9 + 15 * i))), (0, .ref (ad (0))), (1, .int (nI i)), (2, .int (nI f0)), (3, .int (nI d0)), (4, .int v)]) hx hb dX1_tell_5 hl (by decide) rfl (fun ls hl => ?_)
  refine lv_iload_n hx hb dX1_tell_7 rfl (lv_at hl 3 rfl) ?_
  refine tp_callSv ⟨hx, hb, hml, hown, hts⟩ (oc_checkFact l D cy n ad o I f0 (by omega)) (va_cwS 1 hts gX1_tell_X1_checkFact rfl rfl rfl (by decide +kernel) ⟨Nat.le_of_ble_eq_true rfl, Nat.le_of_ble_eq_true rfl⟩) hK hP hD hS hA rfl hl.1 rfl (Nat.le_of_ble_eq_true rfl) dX1_tell_8 ⟨Nat.zero_le _, Nat.zero_le _⟩ (fun I9 e9 H locs hP hD hS => ?_)
  subst e9
  refine lv_iload_n hx hb dX1_tell_11 rfl (lv_at hl 4 rfl) ?_
  refine lv_if_lt (tgt := 22) hx hb dX1_tell_12 (by decide) (fun c12_1 => ?_) (fun c12_1 => ?_)
  · exact absurd c12_1 (nI_pos (by omega))
  · refine lv_iload_n hx hb dX1_tell_15 rfl (lv_at hl 4 rfl) ?_
    refine lv_sipush (v := 1440) hx hb dX1_tell_16 (by decide) ?_
    refine lv_icmp_lt (tgt := 32) hx hb dX1_tell_19 (by decide) (fun c19_2 => ?_) (fun c19_2 => ?_)
    · refine lv_iload hx hb dX1_tell_32 (lv_at hl 5 rfl) ?_
      refine va_gets hx hb hEL.1 hS hown (hts _ (List.mem_of_getElem? (i := 5) rfl)) (fun _ h9 => h9) dX1_tell_34 ?_
      refine lv_iload_n hx hb dX1_tell_37 rfl (lv_at hl 3 rfl) ?_
      refine va_ti hx hb hEL.2 hS (v := .int (tp_vl f0)) (vp_in_nI (by omega) (by decide)) (by rw [nI_clamp (by omega)]) dX1_tell_38 ?_
      refine lv_icmp_lt (tgt := 52) hx hb dX1_tell_39 (by decide) (fun c39_3 => ?_) (fun c39_3 => ?_)
      · exact tp_throw (text := "the value is out of the range of the fact") (ik := 41) (is := 53) (ic := 45) hx hb hlt hown (by decide +kernel) (hts _ (List.mem_of_getElem? (i := 1) rfl)) (hts _ (List.mem_of_getElem? (i := 2) rfl)) (by decide) (fun w h => hts w (List.mem_cons_of_mem _ (List.mem_append_left _ (List.mem_append_left _ (List.mem_append_right _ (h)))))) (by decide +kernel) (by decide +kernel) hE hK hP hD hS (hl.1.trans hml.symm) dX1_tell_52 dX1_tell_55 dX1_tell_56 dX1_tell_58 dX1_tell_61 hxt hlocks (Nat.le_of_ble_eq_true rfl) (Nat.le_of_ble_eq_true rfl) (Nat.le_of_ble_eq_true rfl) (Nat.le_of_ble_eq_true rfl)
      · refine lv_iload hx hb dX1_tell_42 (lv_at hl 5 rfl) ?_
        refine va_gets hx hb hEM.1 hS hown (hts _ (List.mem_of_getElem? (i := 6) rfl)) (fun _ h9 => h9) dX1_tell_44 ?_
        refine lv_iload_n hx hb dX1_tell_47 rfl (lv_at hl 3 rfl) ?_
        refine va_ti hx hb hEM.2 hS (v := .int (tp_vm f0)) (vp_in_nI (by omega) (by decide)) (by rw [nI_clamp (by omega)]) dX1_tell_48 ?_
        refine lv_icmp_le (tgt := 62) hx hb dX1_tell_49 (by decide) (fun c49_4 => ?_) (fun c49_4 => ?_)
        · exact absurd hvb (fun z => z.elim c39_3 (fun z => z c49_4))
        · exact tp_throw (text := "the value is out of the range of the fact") (ik := 41) (is := 53) (ic := 45) hx hb hlt hown (by decide +kernel) (hts _ (List.mem_of_getElem? (i := 1) rfl)) (hts _ (List.mem_of_getElem? (i := 2) rfl)) (by decide) (fun w h => hts w (List.mem_cons_of_mem _ (List.mem_append_left _ (List.mem_append_left _ (List.mem_append_right _ (h)))))) (by decide +kernel) (by decide +kernel) hE hK hP hD hS (hl.1.trans hml.symm) dX1_tell_52 dX1_tell_55 dX1_tell_56 dX1_tell_58 dX1_tell_61 hxt hlocks (Nat.le_of_ble_eq_true rfl) (Nat.le_of_ble_eq_true rfl) (Nat.le_of_ble_eq_true rfl) (Nat.le_of_ble_eq_true rfl)
    · exact absurd (nI_lt (a := d0) (b := 1440) (by omega) (by decide)) c19_2
set_option maxHeartbeats 4000000 in
set_option maxRecDepth 100000 in
/-- tell: full -/
theorem op_tell_full (l : Launch) (D : va_G) (cy : Nat → ClassId) (n : Nat) (ad : Nat → Nat) (o : Int64) (I : Nat → Nat → Int32) (sa : Nat → Nat) (tL tM : Nat) (hlt : l.stackTraces = false) (i : Nat) (hi : i < n) (hn6 : n ≤ 6) (f0 d0 : Nat) (hf5 : f0 < 5) (hd0 : d0 < 1440) (v : Int32) (hv1 : ¬ v < tp_vl f0) (hv2 : v ≤ tp_vm f0) (h100 : ¬ I (9 + 15 * i) 2 < 100) : tp_T l yX1_tell wsX1_tell 6 90 D cy n ad o sa tL tM [.ref (ad (0)), .int (nI i), .int (nI f0), .int (nI d0), .int v] I "java/lang/IllegalStateException" := by
  refine tp_ofT (lv := [(0, .ref (ad (0))), (1, .int (nI i)), (2, .int (nI f0)), (3, .int (nI d0)), (4, .int v)]) (by decide) rfl (Nat.le_of_ble_eq_true rfl) rfl (fun p e s m args below meth c A ls S0 hE hxt => ?_)
  obtain ⟨hx, hb, hr, hml, hown, hts, hlocks, hA, hK, hP, hD, hS, hl⟩ := S0
  obtain ⟨-, ⟨hEL, hEM⟩, -, hEw, -, hEa, hEo⟩ := id hE
  refine lv_aload_n hx hb dX1_tell_0 rfl (lv_at hl 0 rfl) ?_
  refine lv_iload_n hx hb dX1_tell_1 rfl (lv_at hl 1 rfl) ?_
  refine tp_callR ⟨hx, hb, hml, hown, hts⟩ (oc_existing l D cy n ad o I i hi hn6) (cwV 1 hts gX1_tell_X1_existing rfl rfl rfl (by decide +kernel) ⟨Nat.le_of_ble_eq_true rfl, Nat.le_of_ble_eq_true rfl⟩) hK hP hD hS hA 0 1 tp_e0 rfl rfl rfl hl.1 rfl (Nat.le_of_ble_eq_true rfl) dX1_tell_2 ⟨Nat.zero_le _, Nat.zero_le _⟩ (fun H locs hP hD hS => ?_)
  refine lv_astore (lv' := [(5, .ref (ad (9 + 15 * i))), (0, .ref (ad (0))), (1, .int (nI i)), (2, .int (nI f0)), (3, .int (nI d0)), (4, .int v)]) hx hb dX1_tell_5 hl (by decide) rfl (fun ls hl => ?_)
  refine lv_iload_n hx hb dX1_tell_7 rfl (lv_at hl 3 rfl) ?_
  refine tp_callSv ⟨hx, hb, hml, hown, hts⟩ (oc_checkFact l D cy n ad o I f0 (by omega)) (va_cwS 1 hts gX1_tell_X1_checkFact rfl rfl rfl (by decide +kernel) ⟨Nat.le_of_ble_eq_true rfl, Nat.le_of_ble_eq_true rfl⟩) hK hP hD hS hA rfl hl.1 rfl (Nat.le_of_ble_eq_true rfl) dX1_tell_8 ⟨Nat.zero_le _, Nat.zero_le _⟩ (fun I9 e9 H locs hP hD hS => ?_)
  subst e9
  refine lv_iload_n hx hb dX1_tell_11 rfl (lv_at hl 4 rfl) ?_
  refine lv_if_lt (tgt := 22) hx hb dX1_tell_12 (by decide) (fun c12_1 => ?_) (fun c12_1 => ?_)
  · exact absurd c12_1 (nI_pos (by omega))
  · refine lv_iload_n hx hb dX1_tell_15 rfl (lv_at hl 4 rfl) ?_
    refine lv_sipush (v := 1440) hx hb dX1_tell_16 (by decide) ?_
    refine lv_icmp_lt (tgt := 32) hx hb dX1_tell_19 (by decide) (fun c19_2 => ?_) (fun c19_2 => ?_)
    · refine lv_iload hx hb dX1_tell_32 (lv_at hl 5 rfl) ?_
      refine va_gets hx hb hEL.1 hS hown (hts _ (List.mem_of_getElem? (i := 5) rfl)) (fun _ h9 => h9) dX1_tell_34 ?_
      refine lv_iload_n hx hb dX1_tell_37 rfl (lv_at hl 3 rfl) ?_
      refine va_ti hx hb hEL.2 hS (v := .int (tp_vl f0)) (vp_in_nI (by omega) (by decide)) (by rw [nI_clamp (by omega)]) dX1_tell_38 ?_
      refine lv_icmp_lt (tgt := 52) hx hb dX1_tell_39 (by decide) (fun c39_3 => ?_) (fun c39_3 => ?_)
      · exact absurd c39_3 hv1
      · refine lv_iload hx hb dX1_tell_42 (lv_at hl 5 rfl) ?_
        refine va_gets hx hb hEM.1 hS hown (hts _ (List.mem_of_getElem? (i := 6) rfl)) (fun _ h9 => h9) dX1_tell_44 ?_
        refine lv_iload_n hx hb dX1_tell_47 rfl (lv_at hl 3 rfl) ?_
        refine va_ti hx hb hEM.2 hS (v := .int (tp_vm f0)) (vp_in_nI (by omega) (by decide)) (by rw [nI_clamp (by omega)]) dX1_tell_48 ?_
        refine lv_icmp_le (tgt := 62) hx hb dX1_tell_49 (by decide) (fun c49_4 => ?_) (fun c49_4 => ?_)
        · refine lv_aload hx hb dX1_tell_62 (lv_at hl 0 rfl) ?_
          refine va_getN (D := D) (host := "TaperOffice") (ci := 0) (v := .int (I (9 + 15 * i) 2)) (C := RX0) (T := TX0) (N := 9) hx hb hts (fun _ h => List.mem_cons_of_mem _ (List.mem_append_left _ (List.mem_append_left _ (List.mem_append_left _ (List.mem_append_left _ (List.mem_append_right _ (h))))))) hown hK hP (9 + 15 * i) (tp_eh hi) rfl 2 (by decide) (va_Nw.use rfl (hEw _ (List.mem_of_getElem? (i := 0) rfl))) (fun _ h9 => h9) rfl dX1_tell_64 ?_
          refine lv_bipush (v := 100) hx hb dX1_tell_67 (by decide) ?_
          refine lv_icmp_lt (tgt := 82) hx hb dX1_tell_69 (by decide) (fun c69_5 => ?_) (fun c69_5 => ?_)
          · exact absurd c69_5 h100
          · exact tp_throw (text := "100 changes were told of the household") (ik := 22) (is := 58) (ic := 26) hx hb hlt hown (by decide +kernel) (hts _ (List.mem_of_getElem? (i := 3) rfl)) (hts _ (List.mem_of_getElem? (i := 4) rfl)) (by decide) (fun w h => hts w (List.mem_cons_of_mem _ (List.mem_append_left _ (List.mem_append_right _ (h))))) (by decide +kernel) (by decide +kernel) hE hK hP hD hS (hl.1.trans hml.symm) dX1_tell_72 dX1_tell_75 dX1_tell_76 dX1_tell_78 dX1_tell_81 hxt hlocks (Nat.le_of_ble_eq_true rfl) (Nat.le_of_ble_eq_true rfl) (Nat.le_of_ble_eq_true rfl) (Nat.le_of_ble_eq_true rfl)
        · exact absurd hv2 c49_4
    · exact absurd (nI_lt (a := d0) (b := 1440) (by omega) (by decide)) c19_2
set_option maxHeartbeats 4000000 in
set_option maxRecDepth 100000 in
/-- tell: ok -/
theorem op_tell_ok (l : Launch) (D : va_G) (cy : Nat → ClassId) (n : Nat) (ad : Nat → Nat) (o : Int64) (I : Nat → Nat → Int32) (sa : Nat → Nat) (tL tM : Nat) (i : Nat) (hi : i < n) (hn6 : n ≤ 6) (f0 d0 : Nat) (hf5 : f0 < 5) (hd0 : d0 < 1440) (v : Int32) (hv1 : ¬ v < tp_vl f0) (hv2 : v ≤ tp_vm f0) (h100 : I (9 + 15 * i) 2 < 100) (z0 : Nat) (hz1 : tp_r0 d0 ≤ z0) (hz2 : z0 ≤ 48) (hz3 : ∀ m, tp_r0 d0 ≤ m → m < z0 → I (9 + 15 * i + 8 + f0) m ≤ nI (tp_r0 d0)) (hz4 : z0 = 48 ∨ ¬ I (9 + 15 * i + 8 + f0) z0 ≤ nI (tp_r0 d0)) : tp_IE l yX1_tell wsX1_tell (tp_rm 1 24) D cy n ad o sa tL tM [.ref (ad (0)), .int (nI i), .int (nI f0), .int (nI d0), .int v] I (nI (tp_r0 d0)) (tp_chg I (9 + 15 * i) f0 (tp_r0 d0) v (z0 - tp_r0 d0)) := by
  refine tp_ofIE (lv := [(0, .ref (ad (0))), (1, .int (nI i)), (2, .int (nI f0)), (3, .int (nI d0)), (4, .int v)]) (by decide) rfl (Nat.le_of_ble_eq_true rfl) rfl (fun p e s m args below meth c A ls S0 hE => ?_)
  obtain ⟨hx, hb, hr, hml, hown, hts, hlocks, hA, hK, hP, hD, hS, hl⟩ := S0
  obtain ⟨-, ⟨hEL, hEM⟩, -, hEw, -, hEa, hEo⟩ := id hE
  refine lv_aload_n hx hb dX1_tell_0 rfl (lv_at hl 0 rfl) ?_
  refine lv_iload_n hx hb dX1_tell_1 rfl (lv_at hl 1 rfl) ?_
  refine tp_callR ⟨hx, hb, hml, hown, hts⟩ (oc_existing l D cy n ad o I i hi hn6) (cwV 1 hts gX1_tell_X1_existing rfl rfl rfl (by decide +kernel) ⟨Nat.le_of_ble_eq_true rfl, Nat.le_of_ble_eq_true rfl⟩) hK hP hD hS hA 0 1 tp_e0 rfl rfl rfl hl.1 rfl (Nat.le_of_ble_eq_true rfl) dX1_tell_2 ⟨Nat.zero_le _, Nat.zero_le _⟩ (fun H locs hP hD hS => ?_)
  refine lv_astore (lv' := [(5, .ref (ad (9 + 15 * i))), (0, .ref (ad (0))), (1, .int (nI i)), (2, .int (nI f0)), (3, .int (nI d0)), (4, .int v)]) hx hb dX1_tell_5 hl (by decide) rfl (fun ls hl => ?_)
  refine lv_iload_n hx hb dX1_tell_7 rfl (lv_at hl 3 rfl) ?_
  refine tp_callSv ⟨hx, hb, hml, hown, hts⟩ (oc_checkFact l D cy n ad o I f0 (by omega)) (va_cwS 1 hts gX1_tell_X1_checkFact rfl rfl rfl (by decide +kernel) ⟨Nat.le_of_ble_eq_true rfl, Nat.le_of_ble_eq_true rfl⟩) hK hP hD hS hA rfl hl.1 rfl (Nat.le_of_ble_eq_true rfl) dX1_tell_8 ⟨Nat.zero_le _, Nat.zero_le _⟩ (fun I9 e9 H locs hP hD hS => ?_)
  subst e9
  refine lv_iload_n hx hb dX1_tell_11 rfl (lv_at hl 4 rfl) ?_
  refine lv_if_lt (tgt := 22) hx hb dX1_tell_12 (by decide) (fun c12_1 => ?_) (fun c12_1 => ?_)
  · exact absurd c12_1 (nI_pos (by omega))
  · refine lv_iload_n hx hb dX1_tell_15 rfl (lv_at hl 4 rfl) ?_
    refine lv_sipush (v := 1440) hx hb dX1_tell_16 (by decide) ?_
    refine lv_icmp_lt (tgt := 32) hx hb dX1_tell_19 (by decide) (fun c19_2 => ?_) (fun c19_2 => ?_)
    · refine lv_iload hx hb dX1_tell_32 (lv_at hl 5 rfl) ?_
      refine va_gets hx hb hEL.1 hS hown (hts _ (List.mem_of_getElem? (i := 5) rfl)) (fun _ h9 => h9) dX1_tell_34 ?_
      refine lv_iload_n hx hb dX1_tell_37 rfl (lv_at hl 3 rfl) ?_
      refine va_ti hx hb hEL.2 hS (v := .int (tp_vl f0)) (vp_in_nI (by omega) (by decide)) (by rw [nI_clamp (by omega)]) dX1_tell_38 ?_
      refine lv_icmp_lt (tgt := 52) hx hb dX1_tell_39 (by decide) (fun c39_3 => ?_) (fun c39_3 => ?_)
      · exact absurd c39_3 hv1
      · refine lv_iload hx hb dX1_tell_42 (lv_at hl 5 rfl) ?_
        refine va_gets hx hb hEM.1 hS hown (hts _ (List.mem_of_getElem? (i := 6) rfl)) (fun _ h9 => h9) dX1_tell_44 ?_
        refine lv_iload_n hx hb dX1_tell_47 rfl (lv_at hl 3 rfl) ?_
        refine va_ti hx hb hEM.2 hS (v := .int (tp_vm f0)) (vp_in_nI (by omega) (by decide)) (by rw [nI_clamp (by omega)]) dX1_tell_48 ?_
        refine lv_icmp_le (tgt := 62) hx hb dX1_tell_49 (by decide) (fun c49_4 => ?_) (fun c49_4 => ?_)
        · refine lv_aload hx hb dX1_tell_62 (lv_at hl 0 rfl) ?_
          refine va_getN (D := D) (host := "TaperOffice") (ci := 0) (v := .int (I (9 + 15 * i) 2)) (C := RX0) (T := TX0) (N := 9) hx hb hts (fun _ h => List.mem_cons_of_mem _ (List.mem_append_left _ (List.mem_append_left _ (List.mem_append_left _ (List.mem_append_left _ (List.mem_append_right _ (h))))))) hown hK hP (9 + 15 * i) (tp_eh hi) rfl 2 (by decide) (va_Nw.use rfl (hEw _ (List.mem_of_getElem? (i := 0) rfl))) (fun _ h9 => h9) rfl dX1_tell_64 ?_
          refine lv_bipush (v := 100) hx hb dX1_tell_67 (by decide) ?_
          refine lv_icmp_lt (tgt := 82) hx hb dX1_tell_69 (by decide) (fun c69_5 => ?_) (fun c69_5 => ?_)
          · refine lv_iload_n hx hb dX1_tell_82 rfl (lv_at hl 4 rfl) ?_
            refine tp_callS ⟨hx, hb, hml, hown, hts⟩ (oc_monthCountedFrom l D cy n ad o I d0 (by omega)) (va_cwS 1 hts gX1_tell_X1_monthCountedFrom rfl rfl rfl (by decide +kernel) ⟨Nat.le_of_ble_eq_true rfl, Nat.le_of_ble_eq_true rfl⟩) hK hP hD hS hA rfl hl.1 rfl (Nat.le_of_ble_eq_true rfl) dX1_tell_83 ⟨Nat.zero_le _, Nat.zero_le _⟩ (fun I9 e9 H locs hP hD hS => ?_)
            subst e9
            refine lv_istore (lv' := [(6, .int (nI (tp_r0 d0))), (5, .ref (ad (9 + 15 * i))), (0, .ref (ad (0))), (1, .int (nI i)), (2, .int (nI f0)), (3, .int (nI d0)), (4, .int v)]) hx hb dX1_tell_86 hl (by decide) rfl (fun ls hl => ?_)
            refine lv_aload hx hb dX1_tell_88 (lv_at hl 1 rfl) ?_
            refine lv_iload_n hx hb dX1_tell_90 rfl (lv_at hl 4 rfl) ?_
            refine lv_iload hx hb dX1_tell_91 (lv_at hl 0 rfl) ?_
            refine lv_iload hx hb dX1_tell_93 (lv_at hl 6 rfl) ?_
            refine tp_callNv ⟨hx, hb, hml, hown, hts⟩ (hc_change l D cy n ad o I i hi f0 (tp_r0 d0) z0 (by omega) v hz1 hz2 hz3 hz4) ⟨va_cnB (host := "TaperOffice") 3 hts gX1_tell_X0_change_n64 rfl rfl rfl (hEw _ (List.mem_of_getElem? (i := 8) rfl)) (hts _ (List.mem_of_getElem? (i := 22) rfl)) (by decide +kernel) ⟨Nat.le_of_ble_eq_true rfl, Nat.le_of_ble_eq_true rfl⟩, (hts _ (List.mem_of_getElem? (i := 21) rfl)), (hts _ (List.mem_of_getElem? (i := 23) rfl))⟩ hK hP hD hS hA (9 + 15 * i) 0 (tp_eh hi) rfl rfl rfl hl.1 rfl (Nat.le_of_ble_eq_true rfl) dX1_tell_95 ⟨Nat.zero_le _, Nat.zero_le _⟩ (fun I9 e9 H locs hP hD hS => ?_)
            subst e9
            refine lv_iload hx hb dX1_tell_98 (lv_at hl 0 rfl) ?_
            exact tp_reti hx hb hr hlocks hK hP hD hS rfl rfl rfl dX1_tell_100
          · exact absurd h100 c69_5
        · exact absurd hv2 c49_4
    · exact absurd (nI_lt (a := d0) (b := 1440) (by omega) (by decide)) c19_2
set_option maxHeartbeats 4000000 in
set_option maxRecDepth 100000 in
/-- add: full -/
theorem op_add_full (l : Launch) (D : va_G) (cy : Nat → ClassId) (n : Nat) (ad : Nat → Nat) (o : Int64) (I : Nat → Nat → Int32) (sa : Nat → Nat) (tL tM : Nat) (hlt : l.stackTraces = false) (hf : ¬ I 0 1 < 6) (hf0 : ¬ I 0 1 < 0) : tp_T l yX1_add wsX1_add 6 90 D cy n ad o sa tL tM [.ref (ad (0))] I "java/lang/IllegalStateException" := by
  refine tp_ofT (lv := [(0, .ref (ad (0)))]) (by decide) rfl (Nat.le_of_ble_eq_true rfl) rfl (fun p e s m args below meth c A ls S0 hE hxt => ?_)
  obtain ⟨hx, hb, hr, hml, hown, hts, hlocks, hA, hK, hP, hD, hS, hl⟩ := S0
  obtain ⟨-, ⟨hEL, hEM⟩, -, hEw, -, hEa, hEo⟩ := id hE
  refine lv_aload_n hx hb dX1_add_0 rfl (lv_at hl 0 rfl) ?_
  refine va_get (D := D) (ci := 1) (v := .int (I 0 1)) (C := RX1) (T := TX1) (N := 3) hx hb hts (fun _ h => List.mem_cons_of_mem _ (List.mem_append_left _ (List.mem_append_left _ (List.mem_append_right _ (h))))) hown hK hP 0 tp_e0 rfl 1 (by decide) (hts _ (List.mem_of_getElem? (i := 3) rfl)) (fun _ h9 => h9) rfl dX1_add_1 ?_
  refine lv_if_lt (tgt := 19) hx hb dX1_add_4 (by decide) (fun c4_1 => ?_) (fun c4_1 => ?_)
  · exact absurd c4_1 hf0
  · refine lv_aload_n hx hb dX1_add_7 rfl (lv_at hl 0 rfl) ?_
    refine va_get (D := D) (ci := 1) (v := .int (I 0 1)) (C := RX1) (T := TX1) (N := 3) hx hb hts (fun _ h => List.mem_cons_of_mem _ (List.mem_append_left _ (List.mem_append_left _ (List.mem_append_right _ (h))))) hown hK hP 0 tp_e0 rfl 1 (by decide) (hts _ (List.mem_of_getElem? (i := 3) rfl)) (fun _ h9 => h9) rfl dX1_add_8 ?_
    refine lv_aload_n hx hb dX1_add_11 rfl (lv_at hl 0 rfl) ?_
    refine va_get (D := D) (ci := 1) (v := .ref (ad (1))) (C := RX1) (T := TX1) (N := 3) hx hb hts (fun _ h => List.mem_cons_of_mem _ (List.mem_append_left _ (List.mem_append_left _ (List.mem_append_right _ (h))))) hown hK hP 0 tp_e0 rfl 0 (by decide) (hts _ (List.mem_of_getElem? (i := 4) rfl)) (fun _ h9 => h9) rfl dX1_add_12 ?_
    refine tp_rlen hx hb hK hP dX1_add_15 ?_
    refine lv_icmp_lt (tgt := 29) hx hb dX1_add_16 (by decide) (fun c16_2 => ?_) (fun c16_2 => ?_)
    · exact absurd c16_2 hf
    · exact tp_throw (text := "there are 6 households") (ik := 22) (is := 24) (ic := 26) hx hb hlt hown (by decide +kernel) (hts _ (List.mem_of_getElem? (i := 1) rfl)) (hts _ (List.mem_of_getElem? (i := 2) rfl)) (by decide) (fun w h => hts w (List.mem_cons_of_mem _ (List.mem_append_right _ (h)))) (by decide +kernel) (by decide +kernel) hE hK hP hD hS (hl.1.trans hml.symm) dX1_add_19 dX1_add_22 dX1_add_23 dX1_add_25 dX1_add_28 hxt hlocks (Nat.le_of_ble_eq_true rfl) (Nat.le_of_ble_eq_true rfl) (Nat.le_of_ble_eq_true rfl) (Nat.le_of_ble_eq_true rfl)
set_option maxHeartbeats 4000000 in
set_option maxRecDepth 100000 in
/-- add: end -/
theorem op_add_end (l : Launch) (D : va_G) (cy : Nat → ClassId) (n : Nat) (ad : Nat → Nat) (o : Int64) (I : Nat → Nat → Int32) (sa : Nat → Nat) (tL tM : Nat) (hlt : l.stackTraces = false) (hf : I 0 1 < 6) (hf0 : ¬ I 0 1 < 0) (he : ¬ I 0 2 < 48) : tp_T l yX1_add wsX1_add 6 90 D cy n ad o sa tL tM [.ref (ad (0))] I "java/lang/IllegalStateException" := by
  refine tp_ofT (lv := [(0, .ref (ad (0)))]) (by decide) rfl (Nat.le_of_ble_eq_true rfl) rfl (fun p e s m args below meth c A ls S0 hE hxt => ?_)
  obtain ⟨hx, hb, hr, hml, hown, hts, hlocks, hA, hK, hP, hD, hS, hl⟩ := S0
  obtain ⟨-, ⟨hEL, hEM⟩, -, hEw, -, hEa, hEo⟩ := id hE
  refine lv_aload_n hx hb dX1_add_0 rfl (lv_at hl 0 rfl) ?_
  refine va_get (D := D) (ci := 1) (v := .int (I 0 1)) (C := RX1) (T := TX1) (N := 3) hx hb hts (fun _ h => List.mem_cons_of_mem _ (List.mem_append_left _ (List.mem_append_left _ (List.mem_append_right _ (h))))) hown hK hP 0 tp_e0 rfl 1 (by decide) (hts _ (List.mem_of_getElem? (i := 3) rfl)) (fun _ h9 => h9) rfl dX1_add_1 ?_
  refine lv_if_lt (tgt := 19) hx hb dX1_add_4 (by decide) (fun c4_1 => ?_) (fun c4_1 => ?_)
  · exact absurd c4_1 hf0
  · refine lv_aload_n hx hb dX1_add_7 rfl (lv_at hl 0 rfl) ?_
    refine va_get (D := D) (ci := 1) (v := .int (I 0 1)) (C := RX1) (T := TX1) (N := 3) hx hb hts (fun _ h => List.mem_cons_of_mem _ (List.mem_append_left _ (List.mem_append_left _ (List.mem_append_right _ (h))))) hown hK hP 0 tp_e0 rfl 1 (by decide) (hts _ (List.mem_of_getElem? (i := 3) rfl)) (fun _ h9 => h9) rfl dX1_add_8 ?_
    refine lv_aload_n hx hb dX1_add_11 rfl (lv_at hl 0 rfl) ?_
    refine va_get (D := D) (ci := 1) (v := .ref (ad (1))) (C := RX1) (T := TX1) (N := 3) hx hb hts (fun _ h => List.mem_cons_of_mem _ (List.mem_append_left _ (List.mem_append_left _ (List.mem_append_right _ (h))))) hown hK hP 0 tp_e0 rfl 0 (by decide) (hts _ (List.mem_of_getElem? (i := 4) rfl)) (fun _ h9 => h9) rfl dX1_add_12 ?_
    refine tp_rlen hx hb hK hP dX1_add_15 ?_
    refine lv_icmp_lt (tgt := 29) hx hb dX1_add_16 (by decide) (fun c16_2 => ?_) (fun c16_2 => ?_)
    · refine lv_aload_n hx hb dX1_add_29 rfl (lv_at hl 0 rfl) ?_
      refine va_get (D := D) (ci := 1) (v := .int (I 0 2)) (C := RX1) (T := TX1) (N := 3) hx hb hts (fun _ h => List.mem_cons_of_mem _ (List.mem_append_left _ (List.mem_append_left _ (List.mem_append_right _ (h))))) hown hK hP 0 tp_e0 rfl 2 (by decide) (hts _ (List.mem_of_getElem? (i := 5) rfl)) (fun _ h9 => h9) rfl dX1_add_30 ?_
      refine lv_bipush (v := 48) hx hb dX1_add_33 (by decide) ?_
      refine lv_icmp_lt (tgt := 48) hx hb dX1_add_35 (by decide) (fun c35_3 => ?_) (fun c35_3 => ?_)
      · exact absurd c35_3 he
      · exact tp_throw (text := "there is no current month") (ik := 22) (is := 29) (ic := 26) hx hb hlt hown (by decide +kernel) (hts _ (List.mem_of_getElem? (i := 1) rfl)) (hts _ (List.mem_of_getElem? (i := 2) rfl)) (by decide) (fun w h => hts w (List.mem_cons_of_mem _ (List.mem_append_right _ (h)))) (by decide +kernel) (by decide +kernel) hE hK hP hD hS (hl.1.trans hml.symm) dX1_add_38 dX1_add_41 dX1_add_42 dX1_add_44 dX1_add_47 hxt hlocks (Nat.le_of_ble_eq_true rfl) (Nat.le_of_ble_eq_true rfl) (Nat.le_of_ble_eq_true rfl) (Nat.le_of_ble_eq_true rfl)
    · exact absurd hf c16_2
set_option maxHeartbeats 4000000 in
set_option maxRecDepth 100000 in
/-- close: end -/
theorem op_close_end (l : Launch) (D : va_G) (cy : Nat → ClassId) (n : Nat) (ad : Nat → Nat) (o : Int64) (I : Nat → Nat → Int32) (sa : Nat → Nat) (tL tM : Nat) (hlt : l.stackTraces = false) (he : ¬ I 0 2 < 48) : tp_T l yX1_close wsX1_close 6 90 D cy n ad o sa tL tM [.ref (ad (0))] I "java/lang/IllegalStateException" := by
  refine tp_ofT (lv := [(0, .ref (ad (0)))]) (by decide) rfl (Nat.le_of_ble_eq_true rfl) rfl (fun p e s m args below meth c A ls S0 hE hxt => ?_)
  obtain ⟨hx, hb, hr, hml, hown, hts, hlocks, hA, hK, hP, hD, hS, hl⟩ := S0
  obtain ⟨-, ⟨hEL, hEM⟩, -, hEw, -, hEa, hEo⟩ := id hE
  refine lv_aload_n hx hb dX1_close_0 rfl (lv_at hl 0 rfl) ?_
  refine va_get (D := D) (ci := 1) (v := .int (I 0 2)) (C := RX1) (T := TX1) (N := 3) hx hb hts (fun _ h => List.mem_cons_of_mem _ (List.mem_append_left _ (List.mem_append_left _ (List.mem_append_right _ (h))))) hown hK hP 0 tp_e0 rfl 2 (by decide) (hts _ (List.mem_of_getElem? (i := 3) rfl)) (fun _ h9 => h9) rfl dX1_close_1 ?_
  refine lv_bipush (v := 48) hx hb dX1_close_4 (by decide) ?_
  refine lv_icmp_lt (tgt := 19) hx hb dX1_close_6 (by decide) (fun c6_1 => ?_) (fun c6_1 => ?_)
  · exact absurd c6_1 he
  · exact tp_throw (text := "there is no current month") (ik := 22) (is := 29) (ic := 26) hx hb hlt hown (by decide +kernel) (hts _ (List.mem_of_getElem? (i := 1) rfl)) (hts _ (List.mem_of_getElem? (i := 2) rfl)) (by decide) (fun w h => hts w (List.mem_cons_of_mem _ (List.mem_append_right _ (h)))) (by decide +kernel) (by decide +kernel) hE hK hP hD hS (hl.1.trans hml.symm) dX1_close_9 dX1_close_12 dX1_close_13 dX1_close_15 dX1_close_18 hxt hlocks (Nat.le_of_ble_eq_true rfl) (Nat.le_of_ble_eq_true rfl) (Nat.le_of_ble_eq_true rfl) (Nat.le_of_ble_eq_true rfl)
end
section
/-- the households settled one after another -/
def tp_ost (I : Nat → Nat → Int32) (a : Nat → Nat) (e : Nat) : Nat → Nat → Nat → Int32
  | 0 => I
  | k + 1 => tp_settle (tp_ost I a e k) (9 + 15 * k) (a k) e
def tp_osum (I : Nat → Nat → Int32) (a : Nat → Nat) (e : Nat) : Nat → Int32
  | 0 => 0
  | k + 1 => tp_osum I a e k + tp_paym (tp_ost I a e k) (9 + 15 * k) (a k) e
theorem tp_settle_oth {I : Nat → Nat → Int32} {b a m c : Nat} (h0 : c ≠ b) (h13 : c ≠ b + 13) (h14 : c ≠ b + 14) : tp_settle I b a m c = I c := by
  unfold tp_settle
  rw [tp_u_oth h14, tp_fill_oth h13, tp_u_oth h0, tp_u_oth h0, tp_u_oth h0]
theorem tp_ost_keep {I : Nat → Nat → Int32} {a : Nat → Nat} {e c : Nat} : ∀ k : Nat, (c < 9 ∨ 9 + 15 * k ≤ c) → tp_ost I a e k c = I c
  | 0, _ => rfl
  | k + 1, h => by
    show tp_settle (tp_ost I a e k) (9 + 15 * k) (a k) e c = I c
    rw [tp_settle_oth (by omega) (by omega) (by omega), tp_ost_keep k (by omega)]
set_option maxHeartbeats 4000000 in
set_option maxRecDepth 100000 in
/-- close: ok -/
theorem op_close_ok (l : Launch) (D : va_G) (cy : Nat → ClassId) (n : Nat) (ad : Nat → Nat) (o : Int64) (I : Nat → Nat → Int32) (sa : Nat → Nat) (tL tM : Nat) (aF : Nat → Nat) (e0 : Nat) (hn6 : n ≤ 6) (he : I 0 2 = nI e0) (he8 : e0 < 48) (ha : ∀ h, h < n → I (9 + 15 * h) 3 = nI (aF h)) (ha8 : ∀ h, h < n → aF h ≤ e0) : tp_IE l yX1_close wsX1_close (tp_rm 6 137) D cy n ad o sa tL tM [.ref (ad (0))] I (tp_osum I aF e0 n) (tp_u (tp_ost I aF e0 n) 0 2 (nI (e0 + 1))) := by
  refine tp_ofIE (lv := [(0, .ref (ad (0)))]) (by decide) rfl (Nat.le_of_ble_eq_true rfl) rfl (fun p e s m args below meth c A ls S0 hE => ?_)
  obtain ⟨hx, hb, hr, hml, hown, hts, hlocks, hA, hK, hP, hD, hS, hl⟩ := S0
  obtain ⟨-, ⟨hEL, hEM⟩, -, hEw, -, hEa, hEo⟩ := id hE
  refine lv_aload_n hx hb dX1_close_0 rfl (lv_at hl 0 rfl) ?_
  refine va_get (D := D) (ci := 1) (v := .int (I 0 2)) (C := RX1) (T := TX1) (N := 3) hx hb hts (fun _ h => List.mem_cons_of_mem _ (List.mem_append_left _ (List.mem_append_left _ (List.mem_append_right _ (h))))) hown hK hP 0 tp_e0 rfl 2 (by decide) (hts _ (List.mem_of_getElem? (i := 3) rfl)) (fun _ h9 => h9) rfl dX1_close_1 ?_
  refine tp_eqi (y := nI e0) he ?_
  refine lv_bipush (v := 48) hx hb dX1_close_4 (by decide) ?_
  refine lv_icmp_lt (tgt := 19) hx hb dX1_close_6 (by decide) (fun c6_1 => ?_) (fun c6_1 => ?_)
  · refine lv_iconst (v := 0) hx hb dX1_close_19 (by decide) ?_
    refine lv_istore_n (lv' := [(1, .int 0), (0, .ref (ad (0)))]) hx hb dX1_close_20 rfl hl (by decide) rfl (fun ls hl => ?_)
    refine lv_aload_n hx hb dX1_close_21 rfl (lv_at hl 1 rfl) ?_
    refine va_get (D := D) (ci := 1) (v := .ref (ad (1))) (C := RX1) (T := TX1) (N := 3) hx hb hts (fun _ h => List.mem_cons_of_mem _ (List.mem_append_left _ (List.mem_append_left _ (List.mem_append_right _ (h))))) hown hK hP 0 tp_e0 rfl 0 (by decide) (hts _ (List.mem_of_getElem? (i := 4) rfl)) (fun _ h9 => h9) rfl dX1_close_22 ?_
    refine lv_astore_n (lv' := [(2, .ref (ad (1))), (1, .int 0), (0, .ref (ad (0)))]) hx hb dX1_close_25 rfl hl (by decide) rfl (fun ls hl => ?_)
    refine lv_aload_n hx hb dX1_close_26 rfl (lv_at hl 0 rfl) ?_
    refine tp_rlen hx hb hK hP dX1_close_27 ?_
    refine lv_istore_n (lv' := [(3, .int 6), (2, .ref (ad (1))), (1, .int 0), (0, .ref (ad (0)))]) hx hb dX1_close_28 rfl hl (by decide) rfl (fun ls hl => ?_)
    refine lv_iconst (v := 0) hx hb dX1_close_29 (by decide) ?_
    refine lv_istore (lv' := [(4, .int 0), (3, .int 6), (2, .ref (ad (1))), (1, .int 0), (0, .ref (ad (0)))]) hx hb dX1_close_30 hl (by decide) rfl (fun ls hl => ?_)
    have e00 : min 0 n = 0 := Nat.zero_min n
    have hl : lv_has ls 6 [(4, .int (nI 0)), (1, .int (tp_osum I aF e0 (min 0 n))), (3, .int 6), (2, .ref (ad (1))), (0, .ref (ad (0)))] := by rw [e00]; exact lv_sub hl [0, 3, 1, 2, 4] rfl
    have hP : va_P D vwCl (tp_w cy n ad (tp_ost I aF e0 (min 0 n)) o) s.heap := by rw [e00]; exact hP
    have hD : va_D A (tp_w cy n ad (tp_ost I aF e0 (min 0 n)) o) := by rw [e00]; exact hD
    refine tp_for (nL := 6) 6 (fun t => tp_ost I aF e0 (min t n)) (fun t => [(4, .int (nI t)), (1, .int (tp_osum I aF e0 (min t n))), (3, .int 6), (2, .ref (ad (1))), (0, .ref (ad (0)))]) (fun t ht ls H locs hl hP hD hS ih => ?_) (fun ls H locs hl hP hD hS => ?_) hl hP hD hS
    · rcases Nat.lt_or_ge t n with htn | htn
      · have e1 : min t n = t := Nat.min_eq_left (by omega)
        have e2 : min (t + 1) n = t + 1 := Nat.min_eq_left (by omega)
        rw [e1] at hl hP hD
        rw [e2] at ih
        have haJ : tp_ost I aF e0 t (9 + 15 * t) 3 = nI (aF t) := (congrFun (tp_ost_keep (c := 9 + 15 * t) t (Or.inr (by omega))) 3).trans (ha t htn)
        have ha8t := ha8 t htn
        refine lv_iload hx hb dX1_close_32 (lv_at hl 0 rfl) ?_
        refine lv_iload_n hx hb dX1_close_34 rfl (lv_at hl 2 rfl) ?_
        refine lv_icmp_ge (tgt := 67) hx hb dX1_close_35 (by decide) (fun c35_2 => ?_) (fun c35_2 => ?_)
        · exact absurd c35_2 (nI_ge (a := t) (b := 6) (by omega) (by decide))
        · refine lv_aload_n hx hb dX1_close_38 rfl (lv_at hl 3 rfl) ?_
          refine lv_iload hx hb dX1_close_39 (lv_at hl 0 rfl) ?_
          refine tp_rald hx hb hK hP t htn (by omega) rfl dX1_close_41 ?_
          refine lv_astore (lv' := [(5, .ref (ad (9 + 15 * t))), (4, .int (nI t)), (1, .int (tp_osum I aF e0 t)), (3, .int 6), (2, .ref (ad (1))), (0, .ref (ad (0)))]) hx hb dX1_close_42 hl (by decide) rfl (fun ls hl => ?_)
          refine lv_aload hx hb dX1_close_44 (lv_at hl 0 rfl) ?_
          refine lv_ifnull hx hb dX1_close_46 ?_
          refine lv_iload_n hx hb dX1_close_49 rfl (lv_at hl 2 rfl) ?_
          refine lv_aload hx hb dX1_close_50 (lv_at hl 0 rfl) ?_
          refine lv_aload_n hx hb dX1_close_52 rfl (lv_at hl 5 rfl) ?_
          refine va_get (D := D) (ci := 1) (v := .int ((tp_ost I aF e0 t) 0 2)) (C := RX1) (T := TX1) (N := 3) hx hb hts (fun _ h => List.mem_cons_of_mem _ (List.mem_append_left _ (List.mem_append_left _ (List.mem_append_right _ (h))))) hown hK hP 0 tp_e0 rfl 2 (by decide) (hts _ (List.mem_of_getElem? (i := 3) rfl)) (fun _ h9 => h9) rfl dX1_close_53 ?_
          refine tp_eqi (y := nI e0) ((congrFun (tp_ost_keep (c := 0) t (Or.inl (by decide))) 2).trans he) ?_
          refine tp_callN ⟨hx, hb, hml, hown, hts⟩ (hc_settle l D cy n ad o (tp_ost I aF e0 t) t htn (aF t) e0 haJ (by omega) (by omega)) ⟨va_cnB (host := "TaperOffice") 1 hts gX1_close_X0_settle_n83 rfl rfl rfl (hEw _ (List.mem_of_getElem? (i := 10) rfl)) (hts _ (List.mem_of_getElem? (i := 6) rfl)) (by decide +kernel) ⟨Nat.le_of_ble_eq_true rfl, Nat.le_of_ble_eq_true rfl⟩, (hts _ (List.mem_of_getElem? (i := 5) rfl)), (hts _ (List.mem_of_getElem? (i := 7) rfl))⟩ hK hP hD hS hA (9 + 15 * t) 0 (tp_eh htn) rfl rfl rfl hl.1 rfl (Nat.le_of_ble_eq_true rfl) dX1_close_56 ⟨Nat.zero_le _, Nat.zero_le _⟩ (fun I9 e9 H locs hP hD hS => ?_)
          subst e9
          refine lv_iadd hx hb dX1_close_59 ?_
          refine lv_istore_n (lv' := [(1, .int ((tp_osum I aF e0 t) + (tp_paym (tp_ost I aF e0 t) (9 + 15 * t) (aF t) e0))), (5, .ref (ad (9 + 15 * t))), (4, .int (nI t)), (3, .int 6), (2, .ref (ad (1))), (0, .ref (ad (0)))]) hx hb dX1_close_60 rfl hl (by decide) rfl (fun ls hl => ?_)
          refine lv_iinc (v := (nI (t + 1))) (lv' := [(4, .int (nI (t + 1))), (1, .int ((tp_osum I aF e0 t) + (tp_paym (tp_ost I aF e0 t) (9 + 15 * t) (aF t) e0))), (5, .ref (ad (9 + 15 * t))), (3, .int 6), (2, .ref (ad (1))), (0, .ref (ad (0)))]) hx hb dX1_close_61 hl (k := 2) rfl (nI_1 _) (by decide) rfl (fun ls hl => ?_)
          refine lv_goto (tgt := 32) hx hb dX1_close_64 (by decide) ?_
          exact ih ls H locs (lv_sub hl [0, 1, 3, 4, 5] rfl) hP hD hS
      · have e1 : min t n = n := Nat.min_eq_right (by omega)
        have e2 : min (t + 1) n = n := Nat.min_eq_right (by omega)
        rw [e1] at hl hP hD
        rw [e2] at ih
        refine lv_iload hx hb dX1_close_32 (lv_at hl 0 rfl) ?_
        refine lv_iload_n hx hb dX1_close_34 rfl (lv_at hl 2 rfl) ?_
        refine lv_icmp_ge (tgt := 67) hx hb dX1_close_35 (by decide) (fun c35_3 => ?_) (fun c35_3 => ?_)
        · exact absurd c35_3 (nI_ge (a := t) (b := 6) (by omega) (by decide))
        · refine lv_aload_n hx hb dX1_close_38 rfl (lv_at hl 3 rfl) ?_
          refine lv_iload hx hb dX1_close_39 (lv_at hl 0 rfl) ?_
          refine tp_raldN hx hb hK hP t htn (by omega) rfl dX1_close_41 ?_
          refine lv_astoreN (lv' := [(5, .null), (4, .int (nI t)), (1, .int (tp_osum I aF e0 n)), (3, .int 6), (2, .ref (ad (1))), (0, .ref (ad (0)))]) hx hb dX1_close_42 hl (by decide) rfl (fun ls hl => ?_)
          refine lv_aloadN hx hb dX1_close_44 (lv_at hl 0 rfl) ?_
          refine lv_ifnullN (tgt := 61) hx hb dX1_close_46 (by decide) ?_
          refine lv_iinc (v := (nI (t + 1))) (lv' := [(4, .int (nI (t + 1))), (5, .null), (1, .int (tp_osum I aF e0 n)), (3, .int 6), (2, .ref (ad (1))), (0, .ref (ad (0)))]) hx hb dX1_close_61 hl (k := 1) rfl (nI_1 _) (by decide) rfl (fun ls hl => ?_)
          refine lv_goto (tgt := 32) hx hb dX1_close_64 (by decide) ?_
          exact ih ls H locs (lv_sub hl [0, 2, 3, 4, 5] rfl) hP hD hS
    · have e1 : min 6 n = n := Nat.min_eq_right hn6
      rw [e1] at hl hP hD
      refine lv_iload hx hb dX1_close_32 (lv_at hl 0 rfl) ?_
      refine lv_iload_n hx hb dX1_close_34 rfl (lv_at hl 2 rfl) ?_
      refine lv_icmp_ge (tgt := 67) hx hb dX1_close_35 (by decide) (fun c35_4 => ?_) (fun c35_4 => ?_)
      · refine lv_aload_n hx hb dX1_close_67 rfl (lv_at hl 4 rfl) ?_
        refine lv_dup hx hb dX1_close_68 rfl ?_
        refine va_get (D := D) (ci := 1) (v := .int ((tp_ost I aF e0 n) 0 2)) (C := RX1) (T := TX1) (N := 3) hx hb hts (fun _ h => List.mem_cons_of_mem _ (List.mem_append_left _ (List.mem_append_left _ (List.mem_append_right _ (h))))) hown hK hP 0 tp_e0 rfl 2 (by decide) (hts _ (List.mem_of_getElem? (i := 3) rfl)) (fun _ h9 => h9) rfl dX1_close_69 ?_
        refine tp_eqi (y := nI e0) ((congrFun (tp_ost_keep (c := 0) n (Or.inl (by decide))) 2).trans he) ?_
        refine lv_iconst (v := 1) hx hb dX1_close_72 (by decide) ?_
        refine lv_iadd hx hb dX1_close_73 ?_
        refine tp_eqi (y := nI (e0 + 1)) (nI_add e0 1) ?_
        refine tp_put (ci := 1) (v := (nI (e0 + 1))) (ty := .int) (C := RX1) (T := TX1) (N := 3) hx hb hts (fun _ h => List.mem_cons_of_mem _ (List.mem_append_left _ (List.mem_append_left _ (List.mem_append_right _ (h))))) tyX1 tyX1_ok nmX1 hown hK hP hD hS 0 tp_e0 (by omega) rfl 2 (by decide) (hts _ (List.mem_of_getElem? (i := 3) rfl)) rfl (by decide +kernel) rfl rfl (Nat.le_of_ble_eq_true rfl) rfl dX1_close_74 (fun H locs hP hD hS => ?_)
        refine lv_iload_n hx hb dX1_close_77 rfl (lv_at hl 1 rfl) ?_
        exact tp_reti hx hb hr hlocks hK hP hD hS rfl rfl rfl dX1_close_78
      · exact absurd (nI_le (a := 6) (b := 6) (by omega) (by decide)) c35_4
  · exact absurd (nI_lt (a := e0) (b := 48) (by omega) (by decide)) c6_1
end
section
/-! CONSTRUCTORS: worlds as lists -/
def tp_PL (D : va_G) (cy : Nat → ClassId) (w0 : va_W) (sz : Nat) (U : State) : Prop := U.heap.size = sz ∧ va_P D vwCl w0 U.heap ∧ va_K D vwCl (tp_ty cy) U ∧ va_D (fun _ => True) w0
def tp_BL (D : va_G) (cy : Nat → ClassId) (A : Nat → Prop) (F : (Nat → Nat) → va_W) (q : Nat → Nat) (t : State) : Prop := va_P D vwCl (F q) t.heap ∧ va_K D vwCl (tp_ty cy) t ∧ va_D A (F q)
/-- what a constructor makes of the world w0: F of the addresses q -/
def tp_N (l : Launch) (y : MethodName) (ws : List Cond) (rm : Room) (D : va_G) (cy : Nat → ClassId) (as : List Value) (w0 : va_W) (F : (Nat → Nat) → va_W) (mc ms : Nat) : Prop :=
  ∀ sz : Nat, Met l y ws rm (va_Pc as (fun U => tp_PL D cy w0 sz U ∧ va_AOA .int U ∧ va_AO "TaperOffice$Household" U)) (va_Qv (fun _ : Nat → Nat => True) (tp_BL D cy (va_A w0 sz) F) (va_A w0 sz)) mc ms (va_A w0 sz)
section TPN
variable {D : va_G} {cy : Nat → ClassId}
theorem tp_blindN {as : List Value} {w0 : va_W} {sz : Nat} : FrameBlind (va_Pc as (fun U => tp_PL D cy w0 sz U ∧ va_AOA .int U ∧ va_AO "TaperOffice$Household" U)) := fun a U g mk q => by
  obtain ⟨q0, ⟨q1, qP, qK, qD⟩, q2, q3⟩ := q
  exact ⟨q0, ⟨q1, qP, va_K.moved (u := U) (U := U.calling g mk a) (Vm.Alike.refl U.vm) qK, qD⟩, va_AOA.moved (u := U) (U := U.calling g mk a) (Vm.Alike.refl U.vm) q2, va_AO.moved (u := U) (U := U.calling g mk a) (Vm.Alike.refl U.vm) q3⟩
theorem tp_ofN {l : Launch} {y : MethodName} {ws ws' : List Cond} {rm : Room} {mc ms : Nat} {as : List Value} {w0 : va_W} {F : (Nat → Nat) → va_W} {cc : ByteArray} {maxL : Nat} {ret : Option FieldType} {lv : List (Nat × Value)}
    (hy : plainName y.cls = true) (hw : ws = Cond.code y cc maxL ret :: ws') (hlen : (lg_sl as).length ≤ maxL) (hlv : lv_args 0 as = lv) (hnm : y.name = "<init>")
    (body : ∀ (p : Program) (e : Env) (s : State) (m : MethodId) (args : Array Value) (below : List Frame) (meth : Method) (c : Code) (A : Nat → Prop) (ls : Array Slot), p.tables.exec = Jvm.exec → c.code = cc → meth.sig.returnType = ret → c.maxLocals = maxL → s.vm.findClass y.cls = some m.cls → (∀ w ∈ ws, w.before args s = true) → meth.locks = false → (∀ q : Nat, s.heap.size ≤ q → A q) → va_K D vwCl (tp_ty cy) s → va_P D vwCl w0 s.heap → va_D A w0 → va_S A s.heap s.heap [] → lv_has ls maxL lv → meth.name = "<init>" → va_AOA .int s → va_AO "TaperOffice$Household" s →
      W p l e rm s m args below meth c s.heap [] 0 0 (MQ below (va_Qv (fun _ : Nat → Nat => True) (tp_BL D cy A F) A) args s mc ms A) (F0 m 0 ls [])) :
    tp_N l y ws rm D cy as w0 F mc ms := by
  intro sz
  refine Met.ofW (cc := cc) (maxL := maxL) (ret := ret) hy hw ?_
  intro p e s m args below meth c s₁ B hml hv
  obtain ⟨rfl, ⟨hsz, hP, hK, hD0⟩, hEa, hEo⟩ := hv
  subst hsz
  have hown : s.vm.findClass y.cls = some m.cls := findClass_of_methodNamed B.named
  have hinm : meth.name = "<init>" := (name_of_methodNamed B.named B.method).1.trans hnm
  have hD := hD0.self (sz := s.heap.size)
  generalize hAe : va_A w0 s.heap.size = A at hD ⊢
  have hA : ∀ q : Nat, s.heap.size ≤ q → A q := fun q h => by rw [← hAe]; exact Or.inr h
  have hl := lv_entry as (n := maxL) hlen
  rw [hlv] at hl
  rw [lg_entry_eq]
  exact body p e s m _ below meth c A _ B.exec B.bytes B.returns hml hown (atoms_spec (ws := ws) B.pre) B.notSynchronized hA hK hP hD va_S.rf hl hinm hEa hEo
variable {p : Program} {l : Launch} {e : Env} {R : Room} {s : State} {m : MethodId} {args : Array Value} {below : List Frame} {meth : Method} {c : Code} {H : Heap} {locs : List Loc} {cells slots : Nat} {Q : State → Prop}
variable {cc : ByteArray} {pc : Nat} {ls : Array Slot} {rest : List Value} {A : Nat → Prop} {H0 : Heap} {ws : va_W}
theorem tp_retN {F : (Nat → Nat) → va_W} {q : Nat → Nat} (hx : p.tables.exec = Jvm.exec) (hb : c.code = cc) (hr : meth.sig.returnType = none) (hlocks : meth.locks = false) (hK : va_K D vwCl (tp_ty cy) s) (hP : va_P D vwCl (F q) H) (hD : va_D A (F q)) (hS : va_S A s.heap H locs) (hdg : decode cc pc = .ok (.return_, 1)) :
    W p l e R s m args below meth c H locs cells slots (MQ below (va_Qv (fun _ : Nat → Nat => True) (tp_BL D cy A F) A) args s cells slots A) (F0 m pc ls []) :=
  W.vret hx hb hr (fun t ht hW => ⟨⟨q, rfl, trivial, by rw [ht]; exact hP, va_K.moved hW.alike hK, hD⟩, hS.F ht⟩) hS.2.2 hdg
theorem tp_last {tys : List (ClassId × FieldType)} {x : ClassId × FieldType} (h : va_K D vwCl (tys ++ [x]) s) : va_RA s x.1 x.2 := (h.2 tys.length x (by rw [List.getElem?_append_right (Nat.le_refl _), Nat.sub_self]; rfl)).2
theorem tp_newa {atype : ArrayType} (hx : p.tables.exec = Jvm.exec) (hb : c.code = cc) {ty : FieldType} (t0 : Nat) (harr : (Cond.arrayClass (newarray.typeOf atype)).before args s = true) (hty : newarray.typeOf atype = ty) (ht0 : (tp_ty cy)[t0]? = some (cy t0, ty)) (hra : ∀ c1 c2 : ClassId, va_RA s c1 ty → va_RA s c2 ty → c1 = c2) (hK : va_K D vwCl (tp_ty cy) s) (hP : va_P D vwCl ws H) (hD : va_D A ws) (hS : va_S A H0 H locs) (hA : ∀ q, H0.size ≤ q → A q)
    {n : Int32} {N' : Nat} {a0 : vp_A} (ha : ∀ cA : ClassId, vp_cell cA a0 = arrV cA N' (fun _ => defaultValue ty)) (hn : ¬ n < 0) (hN : n.toNatClampNeg = N') (hbytes : N' * componentBytes ty ≤ 536870912) (hcells : cells + 1 ≤ R.cells) (hslots : slots + N' ≤ R.slots) (hdg : decode cc pc = .ok (.newarray atype, 2))
    (kk : ∀ (q : Nat) (H : Heap), va_P D vwCl (ws ++ [(q, .inl (cy t0, a0))]) H → va_D A (ws ++ [(q, .inl (cy t0, a0))]) → va_S A H0 H locs → W p l e R s m args below meth c H locs (cells + 1) (slots + N') Q (F0 m (pc + 2) ls (.ref q :: rest))) : W p l e R s m args below meth c H locs cells slots Q (F0 m pc ls (.int n :: rest)) := by
  refine va_newa hx hb harr hty hK hP hD hS hA ha hn hN hbytes hcells hslots hdg (fun q cA H1 hK2 hP2 hD2 hS2 => ?_)
  obtain rfl : cA = cy t0 := hra _ _ (tp_last hK2) (hK.2 t0 _ ht0).2
  exact kk q H1 hP2 hD2 hS2
theorem tp_raI {c1 c2 : ClassId} (h1 : va_RA s c1 .int) (h2 : va_RA s c2 .int) : c1 = c2 := Option.some.inj (h1.symm.trans h2)
theorem tp_raA {c1 c2 : ClassId} (h1 : va_RA s c1 (.array .int)) (h2 : va_RA s c2 (.array .int)) : c1 = c2 := Option.some.inj (h1.symm.trans h2)
theorem tp_raO {c1 c2 : ClassId} {C : String} (h1 : va_RA s c1 (.object C)) (h2 : va_RA s c2 (.object C)) : c1 = c2 := by
  obtain ⟨_, _, _, _, _, h1⟩ := h1
  obtain ⟨_, _, _, _, _, h2⟩ := h2
  exact Option.some.inj (h1.symm.trans h2)
theorem tp_newq {own : String} {index : Nat} (hx : p.tables.exec = Jvm.exec) (hb : c.code = cc) (hown : s.vm.findClass own = some m.cls) (hclink : (Cond.classLink own index "TaperOffice$Household").before args s = true) (hover : va_AO "TaperOffice$Household" s) (hK : va_K D vwCl (tp_ty cy) s) (hP : va_P D vwCl ws H) (hD : va_D A ws) (hS : va_S A H0 H locs) (hA : ∀ q, H0.size ≤ q → A q)
    {n : Int32} {N' : Nat} (hn : ¬ n < 0) (hN : n.toNatClampNeg = N') (hbytes : N' * 4 ≤ 536870912) (hcells : cells + 1 ≤ R.cells) (hslots : slots + N' ≤ R.slots) (hdg : decode cc pc = .ok (.anewarray index, 3))
    (kk : ∀ (q : Nat) (H : Heap), va_P D vwCl (ws ++ [(q, .inl (cy 3, N', .inr (.inr (.inr (.inr (fun _ => none))))))]) H → va_D A (ws ++ [(q, .inl (cy 3, N', .inr (.inr (.inr (.inr (fun _ => none))))))]) → va_S A H0 H locs → W p l e R s m args below meth c H locs (cells + 1) (slots + N') Q (F0 m (pc + 3) ls (.ref q :: rest))) : W p l e R s m args below meth c H locs cells slots Q (F0 m pc ls (.int n :: rest)) := by
  refine va_newq hx hb hown hclink hover hK hP hD hS hA hn hN hbytes hcells hslots hdg (fun q cA H1 hK2 hP2 hD2 hS2 => ?_)
  obtain rfl : cA = cy 3 := tp_raO (tp_last hK2) (hK.2 3 _ rfl).2
  exact kk q H1 hP2 hD2 hS2
/-- new int[5][48] -/
theorem tp_mna {own : String} {index : Nat} (hx : p.tables.exec = Jvm.exec) (hb : c.code = cc) (hown : s.vm.findClass own = some m.cls) (hclink : (Cond.classLink own index "[[I").before args s = true) (hover : va_AOA .int s) (harr : (Cond.arrayClass .int).before args s = true) (hK : va_K D vwCl (tp_ty cy) s) (hP : va_P D vwCl ws H) (hD : va_D A ws) (hS : va_S A H0 H locs) (hA : ∀ q, H0.size ≤ q → A q) (hcells : cells + 6 ≤ R.cells) (hslots : slots + 245 ≤ R.slots) (hdg : decode cc pc = .ok (.multianewarray index 2, 4))
    (kk : ∀ (q q0 q1 q2 q3 q4 : Nat) (H : Heap), va_P D vwCl (ws ++ [(q, .inl (cy 4, 5, .inr (.inr (.inr (.inr (tp_rf 5 (fun f => if f = 0 then q0 else if f = 1 then q1 else if f = 2 then q2 else if f = 3 then q3 else q4))))))), (q0, .inl (cy 0, 48, .inl (fun _ => 0))), (q1, .inl (cy 0, 48, .inl (fun _ => 0))), (q2, .inl (cy 0, 48, .inl (fun _ => 0))), (q3, .inl (cy 0, 48, .inl (fun _ => 0))), (q4, .inl (cy 0, 48, .inl (fun _ => 0)))]) H → va_D A (ws ++ [(q, .inl (cy 4, 5, .inr (.inr (.inr (.inr (tp_rf 5 (fun f => if f = 0 then q0 else if f = 1 then q1 else if f = 2 then q2 else if f = 3 then q3 else q4))))))), (q0, .inl (cy 0, 48, .inl (fun _ => 0))), (q1, .inl (cy 0, 48, .inl (fun _ => 0))), (q2, .inl (cy 0, 48, .inl (fun _ => 0))), (q3, .inl (cy 0, 48, .inl (fun _ => 0))), (q4, .inl (cy 0, 48, .inl (fun _ => 0)))]) → va_S A H0 H locs → W p l e R s m args below meth c H locs (cells + 6) (slots + 245) Q (F0 m (pc + 4) ls (.ref q :: rest))) : W p l e R s m args below meth c H locs cells slots Q (F0 m pc ls (.int 48 :: .int 5 :: rest)) := by
  have hcy : s.vm.findClass (FieldType.array .int).toString = some (cy 0) := (hK.2 0 _ rfl).2
  have h0 : va_P D vwCl (ws ++ va_pl [] (fun _ => .inl (cy 0, 0, .inl (fun _ => 0)))) H := by rw [show va_pl [] (fun _ => (.inl (cy 0, 0, .inl (fun _ => 0)) : va_E)) = [] from rfl, List.append_nil]; exact hP
  have h1 : va_D A (ws ++ va_pl [] (fun _ => .inl (cy 0, 0, .inl (fun _ => 0)))) := by rw [show va_pl [] (fun _ => (.inl (cy 0, 0, .inl (fun _ => 0)) : va_E)) = [] from rfl, List.append_nil]; exact hD
  refine va_mna (ty := .int) (N' := 5) (K' := 48) (z := (48, .inl (fun _ => 0))) hx hb hown hclink hover harr hcy hK h0 h1 hS hA (by decide) (by decide) (by decide) (by decide) (by decide) (by decide) (by decide) rfl rfl (by omega) (by omega) (fun c9 => ?_) hdg (fun q r cA H1 hinj hnl hK2 hP2 hD2 hS2 => ?_)
  · show ({ cls := c9, slots := Array.replicate 48 (defaultValue .int), vm := .none } : Cell) = _
    rw [arrV_new]
    rfl
  · obtain rfl : cA = cy 4 := tp_raA (tp_last hK2) (hK.2 4 _ rfl).2
    have e : (ws ++ [(q, .inl (cy 4, 5, .inr (.inr (.inr (.inr (fun i => if i < 5 then some (r i) else none))))))]) ++ va_pl ([] ++ (List.range 5).map r) (vr_up (fun _ => .inl (cy 0, 0, .inl (fun _ => 0))) ((List.range 5).map r) (.inl (cy 0, (48, .inl (fun _ => 0))))) = ws ++ [(q, .inl (cy 4, 5, .inr (.inr (.inr (.inr (tp_rf 5 (fun f => if f = 0 then r 0 else if f = 1 then r 1 else if f = 2 then r 2 else if f = 3 then r 3 else r 4))))))), (r 0, .inl (cy 0, 48, .inl (fun _ => 0))), (r 1, .inl (cy 0, 48, .inl (fun _ => 0))), (r 2, .inl (cy 0, 48, .inl (fun _ => 0))), (r 3, .inl (cy 0, 48, .inl (fun _ => 0))), (r 4, .inl (cy 0, 48, .inl (fun _ => 0)))] := by
      have e2 : (fun i => if i < 5 then some (r i) else none) = tp_rf 5 (fun f => if f = 0 then r 0 else if f = 1 then r 1 else if f = 2 then r 2 else if f = 3 then r 3 else r 4) := by
        funext i
        unfold tp_rf
        by_cases hi : i < 5
        · rw [if_pos hi, if_pos hi]
          rcases (show i = 0 ∨ i = 1 ∨ i = 2 ∨ i = 3 ∨ i = 4 by omega) with rfl | rfl | rfl | rfl | rfl <;> rfl
        · rw [if_neg hi, if_neg hi]
      have e3 : (List.range 5).map r = [r 0, r 1, r 2, r 3, r 4] := rfl
      rw [e2, e3]
      simp [va_pl, vr_up]
    rw [e] at hP2 hD2
    exact kk q (r 0) (r 1) (r 2) (r 3) (r 4) H1 hP2 hD2 hS2
end TPN
set_option maxHeartbeats 4000000 in
set_option maxRecDepth 100000 in
/-- TaperOffice() -/
theorem oc_init (l : Launch) (D : va_G) (cy : Nat → ClassId) (h0 : Nat) (a b : Int32) : tp_N l yX1_init wsX1_init { frames := 1, cells := 1, slots := 6, locals := 20 } D cy [.ref h0] [(h0, .inr (1, [.null, .int a, .int b]))] (fun q => [(h0, .inr (1, [.ref (q 1), .int 0, .int 0])), (q 1, .inl (cy 3, 6, .inr (.inr (.inr (.inr (fun _ => none))))))]) 1 6 := by
  refine tp_ofN (lv := [(0, .ref h0)]) (by decide) rfl (Nat.le_of_ble_eq_true rfl) rfl rfl (fun p e s m args below meth c A ls hx hb hr hml hown hts hlocks hA hK hP hD hS hl hinm hEa hEo => ?_)
  refine lv_aload_n hx hb dX1_init_0 rfl (lv_at hl 0 rfl) ?_
  refine W.objInit hx hb hown (hts _ (List.mem_of_getElem? (i := 1) rfl)) (hts _ (List.mem_of_getElem? (i := 2) rfl)) (hts _ (List.mem_of_getElem? (i := 3) rfl)) rfl (by rw [hml]; exact hl.1) rfl dX1_init_1 (Nat.le_of_ble_eq_true rfl) (Nat.le_of_ble_eq_true rfl) ?_
  refine W.eq (g2 := F0 m 4 ls []) rfl ?_
  refine lv_aload_n hx hb dX1_init_4 rfl (lv_at hl 0 rfl) ?_
  refine lv_bipush (v := 6) hx hb dX1_init_5 (by decide) ?_
  refine tp_newq hx hb hown (hts _ (List.mem_of_getElem? (i := 4) rfl)) hEo hK hP hD hS hA (by decide) (N' := 6) (by decide) (by decide) (Nat.le_of_ble_eq_true rfl) (Nat.le_of_ble_eq_true rfl) dX1_init_7 (fun q1 H hP hD hS => ?_)
  have hP : va_P D vwCl [(h0, .inr (1, [.null, .int a, .int b])), (q1, .inl (cy 3, 6, .inr (.inr (.inr (.inr (fun _ => none))))))] H := hP
  have hD : va_D A [(h0, .inr (1, [.null, .int a, .int b])), (q1, .inl (cy 3, 6, .inr (.inr (.inr (.inr (fun _ => none))))))] := hD
  refine va_putF (D := D) (ci := 1) (v := .ref q1) (ty := (.array (.object "TaperOffice$Household"))) (C := RX1) (T := TX1) (N := 3) hx hb hts (fun _ h => List.mem_cons_of_mem _ (List.mem_append_right _ (h))) tyX1 tyX1_ok nmX1 hown hK hP hD hS 0 rfl rfl 0 (by decide) (hts _ (List.mem_of_getElem? (i := 5) rfl)) (fun _ h9 => h9) rfl hinm rfl (by decide +kernel) rfl rfl (Nat.le_of_ble_eq_true rfl) dX1_init_10 (fun H locs hP hD hS => ?_)
  have hP : va_P D vwCl [(h0, .inr (1, [.ref q1, .int a, .int b])), (q1, .inl (cy 3, 6, .inr (.inr (.inr (.inr (fun _ => none))))))] H := hP
  have hD : va_D A [(h0, .inr (1, [.ref q1, .int a, .int b])), (q1, .inl (cy 3, 6, .inr (.inr (.inr (.inr (fun _ => none))))))] := hD
  refine lv_aload_n hx hb dX1_init_13 rfl (lv_at hl 0 rfl) ?_
  refine lv_iconst (v := 0) hx hb dX1_init_14 (by decide) ?_
  refine va_put (D := D) (ci := 1) (v := .int 0) (ty := .int) (C := RX1) (T := TX1) (N := 3) hx hb hts (fun _ h => List.mem_cons_of_mem _ (List.mem_append_right _ (h))) tyX1 tyX1_ok nmX1 hown hK hP hD hS 0 rfl rfl 1 (by decide) (hts _ (List.mem_of_getElem? (i := 6) rfl)) (fun _ h9 => h9) rfl (by decide +kernel) rfl rfl (Nat.le_of_ble_eq_true rfl) dX1_init_15 (fun H locs hP hD hS => ?_)
  have hP : va_P D vwCl [(h0, .inr (1, [.ref q1, .int 0, .int b])), (q1, .inl (cy 3, 6, .inr (.inr (.inr (.inr (fun _ => none))))))] H := hP
  have hD : va_D A [(h0, .inr (1, [.ref q1, .int 0, .int b])), (q1, .inl (cy 3, 6, .inr (.inr (.inr (.inr (fun _ => none))))))] := hD
  refine lv_aload_n hx hb dX1_init_18 rfl (lv_at hl 0 rfl) ?_
  refine lv_iconst (v := 0) hx hb dX1_init_19 (by decide) ?_
  refine va_put (D := D) (ci := 1) (v := .int 0) (ty := .int) (C := RX1) (T := TX1) (N := 3) hx hb hts (fun _ h => List.mem_cons_of_mem _ (List.mem_append_right _ (h))) tyX1 tyX1_ok nmX1 hown hK hP hD hS 0 rfl rfl 2 (by decide) (hts _ (List.mem_of_getElem? (i := 7) rfl)) (fun _ h9 => h9) rfl (by decide +kernel) rfl rfl (Nat.le_of_ble_eq_true rfl) dX1_init_20 (fun H locs hP hD hS => ?_)
  have hP : va_P D vwCl [(h0, .inr (1, [.ref q1, .int 0, .int 0])), (q1, .inl (cy 3, 6, .inr (.inr (.inr (.inr (fun _ => none))))))] H := hP
  have hD : va_D A [(h0, .inr (1, [.ref q1, .int 0, .int 0])), (q1, .inl (cy 3, 6, .inr (.inr (.inr (.inr (fun _ => none))))))] := hD
  exact tp_retN (F := (fun q => [(h0, .inr (1, [.ref (q 1), .int 0, .int 0])), (q 1, .inl (cy 3, 6, .inr (.inr (.inr (.inr (fun _ => none))))))])) (q := fun _ => q1) hx hb hr hlocks hK hP hD hS dX1_init_23
/-- a new household's numbers -/
def tp_hI (fm : Int32) : Nat → Nat → Int32 := fun k j => if k = 0 then (if j = 3 then fm else 0) else if k = 2 then (if j < 48 then 1 else 0) else 0
def tp_hw (cy : Nat → ClassId) (q : Nat → Nat) (h0 : Nat) (fm : Int32) : va_W := (List.range 15).map (fun j => (if j = 0 then h0 else q j, tp_hc cy q (tp_hI fm) 0 j))
def tp_hq (h0 v v0 v1 v2 v3 v4 z z0 z1 z2 z3 z4 a b : Nat) : Nat → Nat := fun j => [h0, v, v0, v1, v2, v3, v4, z, z0, z1, z2, z3, z4, a, b].getD j 0
theorem tp_rf5 {f g : Nat → Nat} (h0 : f 0 = g 0) (h1 : f 1 = g 1) (h2 : f 2 = g 2) (h3 : f 3 = g 3) (h4 : f 4 = g 4) : tp_rf 5 f = tp_rf 5 g := by
  funext j
  unfold tp_rf
  by_cases h : j < 5
  · rw [if_pos h, if_pos h]
    rcases (show j = 0 ∨ j = 1 ∨ j = 2 ∨ j = 3 ∨ j = 4 by omega) with rfl | rfl | rfl | rfl | rfl
    · rw [h0]
    · rw [h1]
    · rw [h2]
    · rw [h3]
    · rw [h4]
  · rw [if_neg h, if_neg h]
theorem tp_hw_eq {cy : Nat → ClassId} {h0 v v0 v1 v2 v3 v4 z z0 z1 z2 z3 z4 a b : Nat} {fm : Int32} : [(h0, .inr (0, [.ref v, .ref z, .int 0, .int fm, .ref a, .ref b, .int 0, .int 0, .int 0])), (v, .inl (cy 4, 5, .inr (.inr (.inr (.inr (tp_rf 5 (fun f => if f = 0 then v0 else if f = 1 then v1 else if f = 2 then v2 else if f = 3 then v3 else v4))))))), (v0, .inl (cy 0, 48, .inl (fun j => if j < 48 then 1 else 0))), (v1, .inl (cy 0, 48, .inl (fun _ => 0))), (v2, .inl (cy 0, 48, .inl (fun _ => 0))), (v3, .inl (cy 0, 48, .inl (fun _ => 0))), (v4, .inl (cy 0, 48, .inl (fun _ => 0))), (z, .inl (cy 4, 5, .inr (.inr (.inr (.inr (tp_rf 5 (fun f => if f = 0 then z0 else if f = 1 then z1 else if f = 2 then z2 else if f = 3 then z3 else z4))))))), (z0, .inl (cy 0, 48, .inl (fun _ => 0))), (z1, .inl (cy 0, 48, .inl (fun _ => 0))), (z2, .inl (cy 0, 48, .inl (fun _ => 0))), (z3, .inl (cy 0, 48, .inl (fun _ => 0))), (z4, .inl (cy 0, 48, .inl (fun _ => 0))), (a, .inl (cy 0, 48, .inl (fun _ => 0))), (b, .inl (cy 0, 48, .inl (fun _ => 0)))] = tp_hw cy (tp_hq h0 v v0 v1 v2 v3 v4 z z0 z1 z2 z3 z4 a b) h0 fm := by
  rw [show tp_rf 5 (fun f => if f = 0 then v0 else if f = 1 then v1 else if f = 2 then v2 else if f = 3 then v3 else v4) = tp_rf 5 (fun f => tp_hq h0 v v0 v1 v2 v3 v4 z z0 z1 z2 z3 z4 a b (0 + 2 + f)) from tp_rf5 rfl rfl rfl rfl rfl, show tp_rf 5 (fun f => if f = 0 then z0 else if f = 1 then z1 else if f = 2 then z2 else if f = 3 then z3 else z4) = tp_rf 5 (fun f => tp_hq h0 v v0 v1 v2 v3 v4 z z0 z1 z2 z3 z4 a b (0 + 8 + f)) from tp_rf5 rfl rfl rfl rfl rfl]
  rfl
theorem tp_ones {t : Nat} (h : t < 48) : upd (fun j => if j < t then 1 else 0) (nI t).toNatClampNeg 1 = fun j => if j < t + 1 then 1 else 0 := by
  rw [nI_clamp (by omega)]
  funext j
  unfold upd
  dsimp only
  by_cases e : j = t
  · subst e
    rw [if_pos rfl, if_pos (by omega)]
  · rw [if_neg e]
    by_cases e2 : j < t
    · rw [if_pos e2, if_pos (by omega)]
    · rw [if_neg e2, if_neg (by omega)]
theorem tp_aaldL {D : va_G} {cy : Nat → ClassId} {p : Program} {l : Launch} {e : Env} {R : Room} {s : State} {m : MethodId} {args : Array Value} {below : List Frame} {meth : Method} {c : Code} {H : Heap} {locs : List Loc} {cells slots : Nat} {Q : State → Prop} {cc : ByteArray} {pc : Nat} {ls : Array Slot} {rest : List Value} {ws : va_W} {a0 N : Nat} {f : Nat → Nat} {x : Int32} (hx : p.tables.exec = Jvm.exec) (hb : c.code = cc) (hK : va_K D vwCl (tp_ty cy) s) (hP : va_P D vwCl ws H) (k j : Nat) (hk : ws[k]? = some (a0, .inl (cy 4, N, .inr (.inr (.inr (.inr (tp_rf N f))))))) (hj : x = nI j ∧ j < N) (hN : N < 2 ^ 31) (hdg : decode cc pc = .ok (.aaload, 1))
    (kk : W p l e R s m args below meth c H locs cells slots Q (F0 m (pc + 1) ls (.ref (f j) :: rest))) : W p l e R s m args below meth c H locs cells slots Q (F0 m pc ls (.int x :: .ref a0 :: rest)) := by
  obtain ⟨rfl, hlt⟩ := hj
  have e1 : tp_rf N f j = some (f j) := if_pos hlt
  exact W.aald (v := .ref (f j)) (ty := .array .int) hx hb (hP k _ hk) ((hK.2 4 _ rfl).1 N (fun j => va_rf (tp_rf N f j))) rfl (fun q => by cases q) (by show ¬ (_ ∨ (arrV _ _ _).slots.size ≤ _); rw [arrV_size]; exact vp_in_nI hlt hN) (by show (arrV _ _ _).slots[_]? = _; rw [nI_clamp (by omega), arrV_read _ _ hlt, e1]; rfl) rfl rfl hdg kk
set_option maxHeartbeats 4000000 in
set_option maxRecDepth 100000 in
/-- Household(firstMonth) -/
theorem hc_init (l : Launch) (D : va_G) (cy : Nat → ClassId) (h0 : Nat) (fm : Int32) : tp_N l yX0_init wsX0_init { frames := 1, cells := 14, slots := 586, locals := 20 } D cy [.ref h0, .int fm] [(h0, .inr (0, [.null, .null, .int 0, .int 0, .null, .null, .int 0, .int 0, .int 0]))] (fun q => tp_hw cy q h0 fm) 14 586 := by
  refine tp_ofN (lv := [(0, .ref h0), (1, .int fm)]) (by decide) rfl (Nat.le_of_ble_eq_true rfl) rfl rfl (fun p e s m args below meth c A ls hx hb hr hml hown hts hlocks hA hK hP hD hS hl hinm hEa hEo => ?_)
  refine lv_aload_n hx hb dX0_init_0 rfl (lv_at hl 0 rfl) ?_
  refine W.objInit hx hb hown (hts _ (List.mem_of_getElem? (i := 1) rfl)) (hts _ (List.mem_of_getElem? (i := 2) rfl)) (hts _ (List.mem_of_getElem? (i := 3) rfl)) rfl (by rw [hml]; exact hl.1) rfl dX0_init_1 (Nat.le_of_ble_eq_true rfl) (Nat.le_of_ble_eq_true rfl) ?_
  refine W.eq (g2 := F0 m 4 ls []) rfl ?_
  refine lv_aload_n hx hb dX0_init_4 rfl (lv_at hl 0 rfl) ?_
  refine lv_iload_n hx hb dX0_init_5 rfl (lv_at hl 1 rfl) ?_
  refine va_putF (D := D) (ci := 0) (v := .int fm) (ty := .int) (C := RX0) (T := TX0) (N := 9) hx hb hts (fun _ h => List.mem_cons_of_mem _ (List.mem_append_right _ (h))) tyX0 tyX0_ok nmX0 hown hK hP hD hS 0 rfl rfl 3 (by decide) (hts _ (List.mem_of_getElem? (i := 4) rfl)) (fun _ h9 => h9) rfl hinm rfl (by decide +kernel) rfl rfl (Nat.le_of_ble_eq_true rfl) dX0_init_6 (fun H locs hP hD hS => ?_)
  have hP : va_P D vwCl [(h0, .inr (0, [.null, .null, .int 0, .int fm, .null, .null, .int 0, .int 0, .int 0]))] H := hP
  have hD : va_D A [(h0, .inr (0, [.null, .null, .int 0, .int fm, .null, .null, .int 0, .int 0, .int 0]))] := hD
  refine lv_aload_n hx hb dX0_init_9 rfl (lv_at hl 0 rfl) ?_
  refine lv_iconst (v := 5) hx hb dX0_init_10 (by decide) ?_
  refine lv_bipush (v := 48) hx hb dX0_init_11 (by decide) ?_
  refine tp_mna hx hb hown (hts _ (List.mem_of_getElem? (i := 5) rfl)) hEa (hts _ (List.mem_of_getElem? (i := 6) rfl)) hK hP hD hS hA (Nat.le_of_ble_eq_true rfl) (Nat.le_of_ble_eq_true rfl) dX0_init_13 (fun v v0 v1 v2 v3 v4 H hP hD hS => ?_)
  have hP : va_P D vwCl [(h0, .inr (0, [.null, .null, .int 0, .int fm, .null, .null, .int 0, .int 0, .int 0])), (v, .inl (cy 4, 5, .inr (.inr (.inr (.inr (tp_rf 5 (fun f => if f = 0 then v0 else if f = 1 then v1 else if f = 2 then v2 else if f = 3 then v3 else v4))))))), (v0, .inl (cy 0, 48, .inl (fun _ => 0))), (v1, .inl (cy 0, 48, .inl (fun _ => 0))), (v2, .inl (cy 0, 48, .inl (fun _ => 0))), (v3, .inl (cy 0, 48, .inl (fun _ => 0))), (v4, .inl (cy 0, 48, .inl (fun _ => 0)))] H := hP
  have hD : va_D A [(h0, .inr (0, [.null, .null, .int 0, .int fm, .null, .null, .int 0, .int 0, .int 0])), (v, .inl (cy 4, 5, .inr (.inr (.inr (.inr (tp_rf 5 (fun f => if f = 0 then v0 else if f = 1 then v1 else if f = 2 then v2 else if f = 3 then v3 else v4))))))), (v0, .inl (cy 0, 48, .inl (fun _ => 0))), (v1, .inl (cy 0, 48, .inl (fun _ => 0))), (v2, .inl (cy 0, 48, .inl (fun _ => 0))), (v3, .inl (cy 0, 48, .inl (fun _ => 0))), (v4, .inl (cy 0, 48, .inl (fun _ => 0)))] := hD
  refine va_putF (D := D) (ci := 0) (v := .ref v) (ty := (.array (.array .int))) (C := RX0) (T := TX0) (N := 9) hx hb hts (fun _ h => List.mem_cons_of_mem _ (List.mem_append_right _ (h))) tyX0 tyX0_ok nmX0 hown hK hP hD hS 0 rfl rfl 0 (by decide) (hts _ (List.mem_of_getElem? (i := 7) rfl)) (fun _ h9 => h9) rfl hinm rfl (by decide +kernel) rfl rfl (Nat.le_of_ble_eq_true rfl) dX0_init_17 (fun H locs hP hD hS => ?_)
  have hP : va_P D vwCl [(h0, .inr (0, [.ref v, .null, .int 0, .int fm, .null, .null, .int 0, .int 0, .int 0])), (v, .inl (cy 4, 5, .inr (.inr (.inr (.inr (tp_rf 5 (fun f => if f = 0 then v0 else if f = 1 then v1 else if f = 2 then v2 else if f = 3 then v3 else v4))))))), (v0, .inl (cy 0, 48, .inl (fun _ => 0))), (v1, .inl (cy 0, 48, .inl (fun _ => 0))), (v2, .inl (cy 0, 48, .inl (fun _ => 0))), (v3, .inl (cy 0, 48, .inl (fun _ => 0))), (v4, .inl (cy 0, 48, .inl (fun _ => 0)))] H := hP
  have hD : va_D A [(h0, .inr (0, [.ref v, .null, .int 0, .int fm, .null, .null, .int 0, .int 0, .int 0])), (v, .inl (cy 4, 5, .inr (.inr (.inr (.inr (tp_rf 5 (fun f => if f = 0 then v0 else if f = 1 then v1 else if f = 2 then v2 else if f = 3 then v3 else v4))))))), (v0, .inl (cy 0, 48, .inl (fun _ => 0))), (v1, .inl (cy 0, 48, .inl (fun _ => 0))), (v2, .inl (cy 0, 48, .inl (fun _ => 0))), (v3, .inl (cy 0, 48, .inl (fun _ => 0))), (v4, .inl (cy 0, 48, .inl (fun _ => 0)))] := hD
  refine lv_aload_n hx hb dX0_init_20 rfl (lv_at hl 0 rfl) ?_
  refine lv_iconst (v := 5) hx hb dX0_init_21 (by decide) ?_
  refine lv_bipush (v := 48) hx hb dX0_init_22 (by decide) ?_
  refine tp_mna hx hb hown (hts _ (List.mem_of_getElem? (i := 5) rfl)) hEa (hts _ (List.mem_of_getElem? (i := 6) rfl)) hK hP hD hS hA (Nat.le_of_ble_eq_true rfl) (Nat.le_of_ble_eq_true rfl) dX0_init_24 (fun z z0 z1 z2 z3 z4 H hP hD hS => ?_)
  have hP : va_P D vwCl [(h0, .inr (0, [.ref v, .null, .int 0, .int fm, .null, .null, .int 0, .int 0, .int 0])), (v, .inl (cy 4, 5, .inr (.inr (.inr (.inr (tp_rf 5 (fun f => if f = 0 then v0 else if f = 1 then v1 else if f = 2 then v2 else if f = 3 then v3 else v4))))))), (v0, .inl (cy 0, 48, .inl (fun _ => 0))), (v1, .inl (cy 0, 48, .inl (fun _ => 0))), (v2, .inl (cy 0, 48, .inl (fun _ => 0))), (v3, .inl (cy 0, 48, .inl (fun _ => 0))), (v4, .inl (cy 0, 48, .inl (fun _ => 0))), (z, .inl (cy 4, 5, .inr (.inr (.inr (.inr (tp_rf 5 (fun f => if f = 0 then z0 else if f = 1 then z1 else if f = 2 then z2 else if f = 3 then z3 else z4))))))), (z0, .inl (cy 0, 48, .inl (fun _ => 0))), (z1, .inl (cy 0, 48, .inl (fun _ => 0))), (z2, .inl (cy 0, 48, .inl (fun _ => 0))), (z3, .inl (cy 0, 48, .inl (fun _ => 0))), (z4, .inl (cy 0, 48, .inl (fun _ => 0)))] H := hP
  have hD : va_D A [(h0, .inr (0, [.ref v, .null, .int 0, .int fm, .null, .null, .int 0, .int 0, .int 0])), (v, .inl (cy 4, 5, .inr (.inr (.inr (.inr (tp_rf 5 (fun f => if f = 0 then v0 else if f = 1 then v1 else if f = 2 then v2 else if f = 3 then v3 else v4))))))), (v0, .inl (cy 0, 48, .inl (fun _ => 0))), (v1, .inl (cy 0, 48, .inl (fun _ => 0))), (v2, .inl (cy 0, 48, .inl (fun _ => 0))), (v3, .inl (cy 0, 48, .inl (fun _ => 0))), (v4, .inl (cy 0, 48, .inl (fun _ => 0))), (z, .inl (cy 4, 5, .inr (.inr (.inr (.inr (tp_rf 5 (fun f => if f = 0 then z0 else if f = 1 then z1 else if f = 2 then z2 else if f = 3 then z3 else z4))))))), (z0, .inl (cy 0, 48, .inl (fun _ => 0))), (z1, .inl (cy 0, 48, .inl (fun _ => 0))), (z2, .inl (cy 0, 48, .inl (fun _ => 0))), (z3, .inl (cy 0, 48, .inl (fun _ => 0))), (z4, .inl (cy 0, 48, .inl (fun _ => 0)))] := hD
  refine va_putF (D := D) (ci := 0) (v := .ref z) (ty := (.array (.array .int))) (C := RX0) (T := TX0) (N := 9) hx hb hts (fun _ h => List.mem_cons_of_mem _ (List.mem_append_right _ (h))) tyX0 tyX0_ok nmX0 hown hK hP hD hS 0 rfl rfl 1 (by decide) (hts _ (List.mem_of_getElem? (i := 8) rfl)) (fun _ h9 => h9) rfl hinm rfl (by decide +kernel) rfl rfl (Nat.le_of_ble_eq_true rfl) dX0_init_28 (fun H locs hP hD hS => ?_)
  have hP : va_P D vwCl [(h0, .inr (0, [.ref v, .ref z, .int 0, .int fm, .null, .null, .int 0, .int 0, .int 0])), (v, .inl (cy 4, 5, .inr (.inr (.inr (.inr (tp_rf 5 (fun f => if f = 0 then v0 else if f = 1 then v1 else if f = 2 then v2 else if f = 3 then v3 else v4))))))), (v0, .inl (cy 0, 48, .inl (fun _ => 0))), (v1, .inl (cy 0, 48, .inl (fun _ => 0))), (v2, .inl (cy 0, 48, .inl (fun _ => 0))), (v3, .inl (cy 0, 48, .inl (fun _ => 0))), (v4, .inl (cy 0, 48, .inl (fun _ => 0))), (z, .inl (cy 4, 5, .inr (.inr (.inr (.inr (tp_rf 5 (fun f => if f = 0 then z0 else if f = 1 then z1 else if f = 2 then z2 else if f = 3 then z3 else z4))))))), (z0, .inl (cy 0, 48, .inl (fun _ => 0))), (z1, .inl (cy 0, 48, .inl (fun _ => 0))), (z2, .inl (cy 0, 48, .inl (fun _ => 0))), (z3, .inl (cy 0, 48, .inl (fun _ => 0))), (z4, .inl (cy 0, 48, .inl (fun _ => 0)))] H := hP
  have hD : va_D A [(h0, .inr (0, [.ref v, .ref z, .int 0, .int fm, .null, .null, .int 0, .int 0, .int 0])), (v, .inl (cy 4, 5, .inr (.inr (.inr (.inr (tp_rf 5 (fun f => if f = 0 then v0 else if f = 1 then v1 else if f = 2 then v2 else if f = 3 then v3 else v4))))))), (v0, .inl (cy 0, 48, .inl (fun _ => 0))), (v1, .inl (cy 0, 48, .inl (fun _ => 0))), (v2, .inl (cy 0, 48, .inl (fun _ => 0))), (v3, .inl (cy 0, 48, .inl (fun _ => 0))), (v4, .inl (cy 0, 48, .inl (fun _ => 0))), (z, .inl (cy 4, 5, .inr (.inr (.inr (.inr (tp_rf 5 (fun f => if f = 0 then z0 else if f = 1 then z1 else if f = 2 then z2 else if f = 3 then z3 else z4))))))), (z0, .inl (cy 0, 48, .inl (fun _ => 0))), (z1, .inl (cy 0, 48, .inl (fun _ => 0))), (z2, .inl (cy 0, 48, .inl (fun _ => 0))), (z3, .inl (cy 0, 48, .inl (fun _ => 0))), (z4, .inl (cy 0, 48, .inl (fun _ => 0)))] := hD
  refine lv_aload_n hx hb dX0_init_31 rfl (lv_at hl 0 rfl) ?_
  refine lv_bipush (v := 48) hx hb dX0_init_32 (by decide) ?_
  refine tp_newa (atype := .int) (ty := .int) (a0 := (48, .inl (fun _ => 0))) hx hb 0 (hts _ (List.mem_of_getElem? (i := 6) rfl)) rfl rfl (fun _ _ => tp_raI) hK hP hD hS hA (N' := 48) (fun _ => rfl) (by decide) (by decide) (by decide) (Nat.le_of_ble_eq_true rfl) (Nat.le_of_ble_eq_true rfl) dX0_init_34 (fun a H hP hD hS => ?_)
  have hP : va_P D vwCl [(h0, .inr (0, [.ref v, .ref z, .int 0, .int fm, .null, .null, .int 0, .int 0, .int 0])), (v, .inl (cy 4, 5, .inr (.inr (.inr (.inr (tp_rf 5 (fun f => if f = 0 then v0 else if f = 1 then v1 else if f = 2 then v2 else if f = 3 then v3 else v4))))))), (v0, .inl (cy 0, 48, .inl (fun _ => 0))), (v1, .inl (cy 0, 48, .inl (fun _ => 0))), (v2, .inl (cy 0, 48, .inl (fun _ => 0))), (v3, .inl (cy 0, 48, .inl (fun _ => 0))), (v4, .inl (cy 0, 48, .inl (fun _ => 0))), (z, .inl (cy 4, 5, .inr (.inr (.inr (.inr (tp_rf 5 (fun f => if f = 0 then z0 else if f = 1 then z1 else if f = 2 then z2 else if f = 3 then z3 else z4))))))), (z0, .inl (cy 0, 48, .inl (fun _ => 0))), (z1, .inl (cy 0, 48, .inl (fun _ => 0))), (z2, .inl (cy 0, 48, .inl (fun _ => 0))), (z3, .inl (cy 0, 48, .inl (fun _ => 0))), (z4, .inl (cy 0, 48, .inl (fun _ => 0))), (a, .inl (cy 0, 48, .inl (fun _ => 0)))] H := hP
  have hD : va_D A [(h0, .inr (0, [.ref v, .ref z, .int 0, .int fm, .null, .null, .int 0, .int 0, .int 0])), (v, .inl (cy 4, 5, .inr (.inr (.inr (.inr (tp_rf 5 (fun f => if f = 0 then v0 else if f = 1 then v1 else if f = 2 then v2 else if f = 3 then v3 else v4))))))), (v0, .inl (cy 0, 48, .inl (fun _ => 0))), (v1, .inl (cy 0, 48, .inl (fun _ => 0))), (v2, .inl (cy 0, 48, .inl (fun _ => 0))), (v3, .inl (cy 0, 48, .inl (fun _ => 0))), (v4, .inl (cy 0, 48, .inl (fun _ => 0))), (z, .inl (cy 4, 5, .inr (.inr (.inr (.inr (tp_rf 5 (fun f => if f = 0 then z0 else if f = 1 then z1 else if f = 2 then z2 else if f = 3 then z3 else z4))))))), (z0, .inl (cy 0, 48, .inl (fun _ => 0))), (z1, .inl (cy 0, 48, .inl (fun _ => 0))), (z2, .inl (cy 0, 48, .inl (fun _ => 0))), (z3, .inl (cy 0, 48, .inl (fun _ => 0))), (z4, .inl (cy 0, 48, .inl (fun _ => 0))), (a, .inl (cy 0, 48, .inl (fun _ => 0)))] := hD
  refine va_putF (D := D) (ci := 0) (v := .ref a) (ty := (.array .int)) (C := RX0) (T := TX0) (N := 9) hx hb hts (fun _ h => List.mem_cons_of_mem _ (List.mem_append_right _ (h))) tyX0 tyX0_ok nmX0 hown hK hP hD hS 0 rfl rfl 4 (by decide) (hts _ (List.mem_of_getElem? (i := 9) rfl)) (fun _ h9 => h9) rfl hinm rfl (by decide +kernel) rfl rfl (Nat.le_of_ble_eq_true rfl) dX0_init_36 (fun H locs hP hD hS => ?_)
  have hP : va_P D vwCl [(h0, .inr (0, [.ref v, .ref z, .int 0, .int fm, .ref a, .null, .int 0, .int 0, .int 0])), (v, .inl (cy 4, 5, .inr (.inr (.inr (.inr (tp_rf 5 (fun f => if f = 0 then v0 else if f = 1 then v1 else if f = 2 then v2 else if f = 3 then v3 else v4))))))), (v0, .inl (cy 0, 48, .inl (fun _ => 0))), (v1, .inl (cy 0, 48, .inl (fun _ => 0))), (v2, .inl (cy 0, 48, .inl (fun _ => 0))), (v3, .inl (cy 0, 48, .inl (fun _ => 0))), (v4, .inl (cy 0, 48, .inl (fun _ => 0))), (z, .inl (cy 4, 5, .inr (.inr (.inr (.inr (tp_rf 5 (fun f => if f = 0 then z0 else if f = 1 then z1 else if f = 2 then z2 else if f = 3 then z3 else z4))))))), (z0, .inl (cy 0, 48, .inl (fun _ => 0))), (z1, .inl (cy 0, 48, .inl (fun _ => 0))), (z2, .inl (cy 0, 48, .inl (fun _ => 0))), (z3, .inl (cy 0, 48, .inl (fun _ => 0))), (z4, .inl (cy 0, 48, .inl (fun _ => 0))), (a, .inl (cy 0, 48, .inl (fun _ => 0)))] H := hP
  have hD : va_D A [(h0, .inr (0, [.ref v, .ref z, .int 0, .int fm, .ref a, .null, .int 0, .int 0, .int 0])), (v, .inl (cy 4, 5, .inr (.inr (.inr (.inr (tp_rf 5 (fun f => if f = 0 then v0 else if f = 1 then v1 else if f = 2 then v2 else if f = 3 then v3 else v4))))))), (v0, .inl (cy 0, 48, .inl (fun _ => 0))), (v1, .inl (cy 0, 48, .inl (fun _ => 0))), (v2, .inl (cy 0, 48, .inl (fun _ => 0))), (v3, .inl (cy 0, 48, .inl (fun _ => 0))), (v4, .inl (cy 0, 48, .inl (fun _ => 0))), (z, .inl (cy 4, 5, .inr (.inr (.inr (.inr (tp_rf 5 (fun f => if f = 0 then z0 else if f = 1 then z1 else if f = 2 then z2 else if f = 3 then z3 else z4))))))), (z0, .inl (cy 0, 48, .inl (fun _ => 0))), (z1, .inl (cy 0, 48, .inl (fun _ => 0))), (z2, .inl (cy 0, 48, .inl (fun _ => 0))), (z3, .inl (cy 0, 48, .inl (fun _ => 0))), (z4, .inl (cy 0, 48, .inl (fun _ => 0))), (a, .inl (cy 0, 48, .inl (fun _ => 0)))] := hD
  refine lv_aload_n hx hb dX0_init_39 rfl (lv_at hl 0 rfl) ?_
  refine lv_bipush (v := 48) hx hb dX0_init_40 (by decide) ?_
  refine tp_newa (atype := .int) (ty := .int) (a0 := (48, .inl (fun _ => 0))) hx hb 0 (hts _ (List.mem_of_getElem? (i := 6) rfl)) rfl rfl (fun _ _ => tp_raI) hK hP hD hS hA (N' := 48) (fun _ => rfl) (by decide) (by decide) (by decide) (Nat.le_of_ble_eq_true rfl) (Nat.le_of_ble_eq_true rfl) dX0_init_42 (fun b H hP hD hS => ?_)
  have hP : va_P D vwCl [(h0, .inr (0, [.ref v, .ref z, .int 0, .int fm, .ref a, .null, .int 0, .int 0, .int 0])), (v, .inl (cy 4, 5, .inr (.inr (.inr (.inr (tp_rf 5 (fun f => if f = 0 then v0 else if f = 1 then v1 else if f = 2 then v2 else if f = 3 then v3 else v4))))))), (v0, .inl (cy 0, 48, .inl (fun _ => 0))), (v1, .inl (cy 0, 48, .inl (fun _ => 0))), (v2, .inl (cy 0, 48, .inl (fun _ => 0))), (v3, .inl (cy 0, 48, .inl (fun _ => 0))), (v4, .inl (cy 0, 48, .inl (fun _ => 0))), (z, .inl (cy 4, 5, .inr (.inr (.inr (.inr (tp_rf 5 (fun f => if f = 0 then z0 else if f = 1 then z1 else if f = 2 then z2 else if f = 3 then z3 else z4))))))), (z0, .inl (cy 0, 48, .inl (fun _ => 0))), (z1, .inl (cy 0, 48, .inl (fun _ => 0))), (z2, .inl (cy 0, 48, .inl (fun _ => 0))), (z3, .inl (cy 0, 48, .inl (fun _ => 0))), (z4, .inl (cy 0, 48, .inl (fun _ => 0))), (a, .inl (cy 0, 48, .inl (fun _ => 0))), (b, .inl (cy 0, 48, .inl (fun _ => 0)))] H := hP
  have hD : va_D A [(h0, .inr (0, [.ref v, .ref z, .int 0, .int fm, .ref a, .null, .int 0, .int 0, .int 0])), (v, .inl (cy 4, 5, .inr (.inr (.inr (.inr (tp_rf 5 (fun f => if f = 0 then v0 else if f = 1 then v1 else if f = 2 then v2 else if f = 3 then v3 else v4))))))), (v0, .inl (cy 0, 48, .inl (fun _ => 0))), (v1, .inl (cy 0, 48, .inl (fun _ => 0))), (v2, .inl (cy 0, 48, .inl (fun _ => 0))), (v3, .inl (cy 0, 48, .inl (fun _ => 0))), (v4, .inl (cy 0, 48, .inl (fun _ => 0))), (z, .inl (cy 4, 5, .inr (.inr (.inr (.inr (tp_rf 5 (fun f => if f = 0 then z0 else if f = 1 then z1 else if f = 2 then z2 else if f = 3 then z3 else z4))))))), (z0, .inl (cy 0, 48, .inl (fun _ => 0))), (z1, .inl (cy 0, 48, .inl (fun _ => 0))), (z2, .inl (cy 0, 48, .inl (fun _ => 0))), (z3, .inl (cy 0, 48, .inl (fun _ => 0))), (z4, .inl (cy 0, 48, .inl (fun _ => 0))), (a, .inl (cy 0, 48, .inl (fun _ => 0))), (b, .inl (cy 0, 48, .inl (fun _ => 0)))] := hD
  refine va_putF (D := D) (ci := 0) (v := .ref b) (ty := (.array .int)) (C := RX0) (T := TX0) (N := 9) hx hb hts (fun _ h => List.mem_cons_of_mem _ (List.mem_append_right _ (h))) tyX0 tyX0_ok nmX0 hown hK hP hD hS 0 rfl rfl 5 (by decide) (hts _ (List.mem_of_getElem? (i := 10) rfl)) (fun _ h9 => h9) rfl hinm rfl (by decide +kernel) rfl rfl (Nat.le_of_ble_eq_true rfl) dX0_init_44 (fun H locs hP hD hS => ?_)
  have hP : va_P D vwCl [(h0, .inr (0, [.ref v, .ref z, .int 0, .int fm, .ref a, .ref b, .int 0, .int 0, .int 0])), (v, .inl (cy 4, 5, .inr (.inr (.inr (.inr (tp_rf 5 (fun f => if f = 0 then v0 else if f = 1 then v1 else if f = 2 then v2 else if f = 3 then v3 else v4))))))), (v0, .inl (cy 0, 48, .inl (fun _ => 0))), (v1, .inl (cy 0, 48, .inl (fun _ => 0))), (v2, .inl (cy 0, 48, .inl (fun _ => 0))), (v3, .inl (cy 0, 48, .inl (fun _ => 0))), (v4, .inl (cy 0, 48, .inl (fun _ => 0))), (z, .inl (cy 4, 5, .inr (.inr (.inr (.inr (tp_rf 5 (fun f => if f = 0 then z0 else if f = 1 then z1 else if f = 2 then z2 else if f = 3 then z3 else z4))))))), (z0, .inl (cy 0, 48, .inl (fun _ => 0))), (z1, .inl (cy 0, 48, .inl (fun _ => 0))), (z2, .inl (cy 0, 48, .inl (fun _ => 0))), (z3, .inl (cy 0, 48, .inl (fun _ => 0))), (z4, .inl (cy 0, 48, .inl (fun _ => 0))), (a, .inl (cy 0, 48, .inl (fun _ => 0))), (b, .inl (cy 0, 48, .inl (fun _ => 0)))] H := hP
  have hD : va_D A [(h0, .inr (0, [.ref v, .ref z, .int 0, .int fm, .ref a, .ref b, .int 0, .int 0, .int 0])), (v, .inl (cy 4, 5, .inr (.inr (.inr (.inr (tp_rf 5 (fun f => if f = 0 then v0 else if f = 1 then v1 else if f = 2 then v2 else if f = 3 then v3 else v4))))))), (v0, .inl (cy 0, 48, .inl (fun _ => 0))), (v1, .inl (cy 0, 48, .inl (fun _ => 0))), (v2, .inl (cy 0, 48, .inl (fun _ => 0))), (v3, .inl (cy 0, 48, .inl (fun _ => 0))), (v4, .inl (cy 0, 48, .inl (fun _ => 0))), (z, .inl (cy 4, 5, .inr (.inr (.inr (.inr (tp_rf 5 (fun f => if f = 0 then z0 else if f = 1 then z1 else if f = 2 then z2 else if f = 3 then z3 else z4))))))), (z0, .inl (cy 0, 48, .inl (fun _ => 0))), (z1, .inl (cy 0, 48, .inl (fun _ => 0))), (z2, .inl (cy 0, 48, .inl (fun _ => 0))), (z3, .inl (cy 0, 48, .inl (fun _ => 0))), (z4, .inl (cy 0, 48, .inl (fun _ => 0))), (a, .inl (cy 0, 48, .inl (fun _ => 0))), (b, .inl (cy 0, 48, .inl (fun _ => 0)))] := hD
  refine lv_iconst (v := 0) hx hb dX0_init_47 (by decide) ?_
  refine lv_istore_n (lv' := [(2, .int (nI 0)), (0, .ref h0), (1, .int fm)]) hx hb dX0_init_48 rfl hl (by decide) rfl (fun ls hl => ?_)
  refine W.widen (k := 14) (n := 586) (Nat.le_of_ble_eq_true rfl) (Nat.le_of_ble_eq_true rfl) ?_
  have hP : va_P D vwCl [(h0, .inr (0, [.ref v, .ref z, .int 0, .int fm, .ref a, .ref b, .int 0, .int 0, .int 0])), (v, .inl (cy 4, 5, .inr (.inr (.inr (.inr (tp_rf 5 (fun f => if f = 0 then v0 else if f = 1 then v1 else if f = 2 then v2 else if f = 3 then v3 else v4))))))), (v0, .inl (cy 0, 48, .inl (fun j => if j < 0 then 1 else 0))), (v1, .inl (cy 0, 48, .inl (fun _ => 0))), (v2, .inl (cy 0, 48, .inl (fun _ => 0))), (v3, .inl (cy 0, 48, .inl (fun _ => 0))), (v4, .inl (cy 0, 48, .inl (fun _ => 0))), (z, .inl (cy 4, 5, .inr (.inr (.inr (.inr (tp_rf 5 (fun f => if f = 0 then z0 else if f = 1 then z1 else if f = 2 then z2 else if f = 3 then z3 else z4))))))), (z0, .inl (cy 0, 48, .inl (fun _ => 0))), (z1, .inl (cy 0, 48, .inl (fun _ => 0))), (z2, .inl (cy 0, 48, .inl (fun _ => 0))), (z3, .inl (cy 0, 48, .inl (fun _ => 0))), (z4, .inl (cy 0, 48, .inl (fun _ => 0))), (a, .inl (cy 0, 48, .inl (fun _ => 0))), (b, .inl (cy 0, 48, .inl (fun _ => 0)))] H := hP
  have hD : va_D A [(h0, .inr (0, [.ref v, .ref z, .int 0, .int fm, .ref a, .ref b, .int 0, .int 0, .int 0])), (v, .inl (cy 4, 5, .inr (.inr (.inr (.inr (tp_rf 5 (fun f => if f = 0 then v0 else if f = 1 then v1 else if f = 2 then v2 else if f = 3 then v3 else v4))))))), (v0, .inl (cy 0, 48, .inl (fun j => if j < 0 then 1 else 0))), (v1, .inl (cy 0, 48, .inl (fun _ => 0))), (v2, .inl (cy 0, 48, .inl (fun _ => 0))), (v3, .inl (cy 0, 48, .inl (fun _ => 0))), (v4, .inl (cy 0, 48, .inl (fun _ => 0))), (z, .inl (cy 4, 5, .inr (.inr (.inr (.inr (tp_rf 5 (fun f => if f = 0 then z0 else if f = 1 then z1 else if f = 2 then z2 else if f = 3 then z3 else z4))))))), (z0, .inl (cy 0, 48, .inl (fun _ => 0))), (z1, .inl (cy 0, 48, .inl (fun _ => 0))), (z2, .inl (cy 0, 48, .inl (fun _ => 0))), (z3, .inl (cy 0, 48, .inl (fun _ => 0))), (z4, .inl (cy 0, 48, .inl (fun _ => 0))), (a, .inl (cy 0, 48, .inl (fun _ => 0))), (b, .inl (cy 0, 48, .inl (fun _ => 0)))] := hD
  have key : ∀ (k t : Nat), t + k = 48 → ∀ (ls : Array Slot) (H : Heap) (locs : List Loc), lv_has ls 3 [(2, .int (nI t)), (0, .ref h0), (1, .int fm)] → va_P D vwCl [(h0, .inr (0, [.ref v, .ref z, .int 0, .int fm, .ref a, .ref b, .int 0, .int 0, .int 0])), (v, .inl (cy 4, 5, .inr (.inr (.inr (.inr (tp_rf 5 (fun f => if f = 0 then v0 else if f = 1 then v1 else if f = 2 then v2 else if f = 3 then v3 else v4))))))), (v0, .inl (cy 0, 48, .inl (fun j => if j < t then 1 else 0))), (v1, .inl (cy 0, 48, .inl (fun _ => 0))), (v2, .inl (cy 0, 48, .inl (fun _ => 0))), (v3, .inl (cy 0, 48, .inl (fun _ => 0))), (v4, .inl (cy 0, 48, .inl (fun _ => 0))), (z, .inl (cy 4, 5, .inr (.inr (.inr (.inr (tp_rf 5 (fun f => if f = 0 then z0 else if f = 1 then z1 else if f = 2 then z2 else if f = 3 then z3 else z4))))))), (z0, .inl (cy 0, 48, .inl (fun _ => 0))), (z1, .inl (cy 0, 48, .inl (fun _ => 0))), (z2, .inl (cy 0, 48, .inl (fun _ => 0))), (z3, .inl (cy 0, 48, .inl (fun _ => 0))), (z4, .inl (cy 0, 48, .inl (fun _ => 0))), (a, .inl (cy 0, 48, .inl (fun _ => 0))), (b, .inl (cy 0, 48, .inl (fun _ => 0)))] H → va_D A [(h0, .inr (0, [.ref v, .ref z, .int 0, .int fm, .ref a, .ref b, .int 0, .int 0, .int 0])), (v, .inl (cy 4, 5, .inr (.inr (.inr (.inr (tp_rf 5 (fun f => if f = 0 then v0 else if f = 1 then v1 else if f = 2 then v2 else if f = 3 then v3 else v4))))))), (v0, .inl (cy 0, 48, .inl (fun j => if j < t then 1 else 0))), (v1, .inl (cy 0, 48, .inl (fun _ => 0))), (v2, .inl (cy 0, 48, .inl (fun _ => 0))), (v3, .inl (cy 0, 48, .inl (fun _ => 0))), (v4, .inl (cy 0, 48, .inl (fun _ => 0))), (z, .inl (cy 4, 5, .inr (.inr (.inr (.inr (tp_rf 5 (fun f => if f = 0 then z0 else if f = 1 then z1 else if f = 2 then z2 else if f = 3 then z3 else z4))))))), (z0, .inl (cy 0, 48, .inl (fun _ => 0))), (z1, .inl (cy 0, 48, .inl (fun _ => 0))), (z2, .inl (cy 0, 48, .inl (fun _ => 0))), (z3, .inl (cy 0, 48, .inl (fun _ => 0))), (z4, .inl (cy 0, 48, .inl (fun _ => 0))), (a, .inl (cy 0, 48, .inl (fun _ => 0))), (b, .inl (cy 0, 48, .inl (fun _ => 0)))] → va_S A s.heap H locs → W p l e { frames := 1, cells := 14, slots := 586, locals := 20 } s m args below meth c H locs 14 586 (MQ below (va_Qv (fun _ : Nat → Nat => True) (tp_BL D cy A (fun q => tp_hw cy q h0 fm)) A) args s 14 586 A) (F0 m 49 ls []) := by
    intro k
    induction k with
    | zero =>
      intro t h ls H locs hl hP hD hS
      obtain rfl : t = 48 := h
      refine lv_iload_n hx hb dX0_init_49 rfl (lv_at hl 0 rfl) ?_
      refine lv_bipush (v := 48) hx hb dX0_init_50 (by decide) ?_
      refine lv_icmp_ge (tgt := 70) hx hb dX0_init_52 (by decide) (fun c1 => ?_) (fun c1 => ?_)
      · have hP : va_P D vwCl (tp_hw cy (tp_hq h0 v v0 v1 v2 v3 v4 z z0 z1 z2 z3 z4 a b) h0 fm) H := by rw [← tp_hw_eq]; exact hP
        have hD : va_D A (tp_hw cy (tp_hq h0 v v0 v1 v2 v3 v4 z z0 z1 z2 z3 z4 a b) h0 fm) := by rw [← tp_hw_eq]; exact hD
        exact tp_retN (F := fun q => tp_hw cy q h0 fm) (q := tp_hq h0 v v0 v1 v2 v3 v4 z z0 z1 z2 z3 z4 a b) hx hb hr hlocks hK hP hD hS dX0_init_70
      · exact absurd (nI_le (a := 48) (b := 48) (by decide) (by decide)) c1
    | succ k ih =>
      intro t h ls H locs hl hP hD hS
      refine lv_iload_n hx hb dX0_init_49 rfl (lv_at hl 0 rfl) ?_
      refine lv_bipush (v := 48) hx hb dX0_init_50 (by decide) ?_
      refine lv_icmp_ge (tgt := 70) hx hb dX0_init_52 (by decide) (fun c1 => ?_) (fun c1 => ?_)
      · exact absurd c1 (nI_ge (a := t) (b := 48) (by omega) (by decide))
      · refine lv_aload_n hx hb dX0_init_55 rfl (lv_at hl 1 rfl) ?_
        refine va_get (D := D) (ci := 0) (v := .ref v) (C := RX0) (T := TX0) (N := 9) hx hb hts (fun _ h => List.mem_cons_of_mem _ (List.mem_append_right _ (h))) hown hK hP 0 rfl rfl 0 (by decide) (hts _ (List.mem_of_getElem? (i := 7) rfl)) (fun _ h9 => h9) rfl dX0_init_56 ?_
        refine lv_iconst (v := 0) hx hb dX0_init_59 (by decide) ?_
        refine tp_aaldL hx hb hK hP 1 0 rfl (by decide) (by decide) dX0_init_60 ?_
        refine lv_iload_n hx hb dX0_init_61 rfl (lv_at hl 0 rfl) ?_
        refine lv_iconst (v := 1) hx hb dX0_init_62 (by decide) ?_
        refine va_iast hx hb hK hP hD hS 2 0 rfl rfl (vp_in_nI (n := t) (by omega) (by decide)) dX0_init_63 (fun H locs hP hD hS => ?_)
        have e1 : upd (fun j => if j < t then 1 else 0) (nI t).toNatClampNeg 1 = (fun j => if j < t + 1 then 1 else 0) := tp_ones (by omega)
        have hP : va_P D vwCl [(h0, .inr (0, [.ref v, .ref z, .int 0, .int fm, .ref a, .ref b, .int 0, .int 0, .int 0])), (v, .inl (cy 4, 5, .inr (.inr (.inr (.inr (tp_rf 5 (fun f => if f = 0 then v0 else if f = 1 then v1 else if f = 2 then v2 else if f = 3 then v3 else v4))))))), (v0, .inl (cy 0, 48, .inl (fun j => if j < t + 1 then 1 else 0))), (v1, .inl (cy 0, 48, .inl (fun _ => 0))), (v2, .inl (cy 0, 48, .inl (fun _ => 0))), (v3, .inl (cy 0, 48, .inl (fun _ => 0))), (v4, .inl (cy 0, 48, .inl (fun _ => 0))), (z, .inl (cy 4, 5, .inr (.inr (.inr (.inr (tp_rf 5 (fun f => if f = 0 then z0 else if f = 1 then z1 else if f = 2 then z2 else if f = 3 then z3 else z4))))))), (z0, .inl (cy 0, 48, .inl (fun _ => 0))), (z1, .inl (cy 0, 48, .inl (fun _ => 0))), (z2, .inl (cy 0, 48, .inl (fun _ => 0))), (z3, .inl (cy 0, 48, .inl (fun _ => 0))), (z4, .inl (cy 0, 48, .inl (fun _ => 0))), (a, .inl (cy 0, 48, .inl (fun _ => 0))), (b, .inl (cy 0, 48, .inl (fun _ => 0)))] H := by rw [← e1]; exact hP
        have hD : va_D A [(h0, .inr (0, [.ref v, .ref z, .int 0, .int fm, .ref a, .ref b, .int 0, .int 0, .int 0])), (v, .inl (cy 4, 5, .inr (.inr (.inr (.inr (tp_rf 5 (fun f => if f = 0 then v0 else if f = 1 then v1 else if f = 2 then v2 else if f = 3 then v3 else v4))))))), (v0, .inl (cy 0, 48, .inl (fun j => if j < t + 1 then 1 else 0))), (v1, .inl (cy 0, 48, .inl (fun _ => 0))), (v2, .inl (cy 0, 48, .inl (fun _ => 0))), (v3, .inl (cy 0, 48, .inl (fun _ => 0))), (v4, .inl (cy 0, 48, .inl (fun _ => 0))), (z, .inl (cy 4, 5, .inr (.inr (.inr (.inr (tp_rf 5 (fun f => if f = 0 then z0 else if f = 1 then z1 else if f = 2 then z2 else if f = 3 then z3 else z4))))))), (z0, .inl (cy 0, 48, .inl (fun _ => 0))), (z1, .inl (cy 0, 48, .inl (fun _ => 0))), (z2, .inl (cy 0, 48, .inl (fun _ => 0))), (z3, .inl (cy 0, 48, .inl (fun _ => 0))), (z4, .inl (cy 0, 48, .inl (fun _ => 0))), (a, .inl (cy 0, 48, .inl (fun _ => 0))), (b, .inl (cy 0, 48, .inl (fun _ => 0)))] := by rw [← e1]; exact hD
        refine lv_iinc (v := (nI (t + 1))) (lv' := [(2, .int (nI (t + 1))), (0, .ref h0), (1, .int fm)]) hx hb dX0_init_64 hl (k := 0) rfl (nI_1 _) (by decide) rfl (fun ls hl => ?_)
        refine lv_goto (tgt := 49) hx hb dX0_init_67 (by decide) ?_
        exact ih (t + 1) (by omega) ls H locs hl hP hD hS
  exact key 48 0 (by omega) ls H locs hl hP hD hS
end
section
/-! A HOUSEHOLD ADDED: the world grows -/
def tp_gad (n : Nat) (ad q : Nat → Nat) (q5 : Nat) : Nat → Nat := fun k => if k < 9 + 15 * n then ad k else if k = 9 + 15 * n then q5 else q (k - (9 + 15 * n))
def tp_gI (n : Nat) (I : Nat → Nat → Int32) (fm : Int32) : Nat → Nat → Int32 := fun k => if k < 9 + 15 * n then I k else tp_hI fm (k - (9 + 15 * n))
theorem tp_gad_lo {n k : Nat} {ad q : Nat → Nat} {q5 : Nat} (h : k < 9 + 15 * n) : tp_gad n ad q q5 k = ad k := if_pos h
theorem tp_gad_hi {n j : Nat} {ad q : Nat → Nat} {q5 : Nat} (h : 0 < j) : tp_gad n ad q q5 (9 + 15 * n + j) = q j := by
  unfold tp_gad
  rw [if_neg (by omega), if_neg (by omega), Nat.add_sub_cancel_left]
theorem tp_gad_0 {n : Nat} {ad q : Nat → Nat} {q5 : Nat} : tp_gad n ad q q5 (9 + 15 * n) = q5 := by
  unfold tp_gad
  rw [if_neg (by omega), if_pos rfl]
theorem tp_gI_lo {n k : Nat} {I : Nat → Nat → Int32} {fm : Int32} (h : k < 9 + 15 * n) : tp_gI n I fm k = I k := if_pos h
theorem tp_gI_hi {n j : Nat} {I : Nat → Nat → Int32} {fm : Int32} : tp_gI n I fm (9 + 15 * n + j) = tp_hI fm j := by
  unfold tp_gI
  rw [if_neg (by omega), Nat.add_sub_cancel_left]
theorem tp_hc_0 {cy : Nat → ClassId} {ad : Nat → Nat} {I : Nat → Nat → Int32} {b : Nat} : tp_hc cy ad I b 0 = .inr (0, [.ref (ad (b + 1)), .ref (ad (b + 7)), .int (I b 2), .int (I b 3), .ref (ad (b + 13)), .ref (ad (b + 14)), .int (I b 6), .int (I b 7), .int (I b 8)]) := rfl
theorem tp_hc_1 {cy : Nat → ClassId} {ad : Nat → Nat} {I : Nat → Nat → Int32} {b : Nat} : tp_hc cy ad I b 1 = .inl (cy 4, 5, .inr (.inr (.inr (.inr (tp_rf 5 (fun f => ad (b + 2 + f))))))) := rfl
theorem tp_hc_7 {cy : Nat → ClassId} {ad : Nat → Nat} {I : Nat → Nat → Int32} {b : Nat} : tp_hc cy ad I b 7 = .inl (cy 4, 5, .inr (.inr (.inr (.inr (tp_rf 5 (fun f => ad (b + 8 + f))))))) := rfl
theorem tp_hc_r {cy : Nat → ClassId} {ad : Nat → Nat} {I : Nat → Nat → Int32} {b j : Nat} (h0 : j ≠ 0) (h1 : j ≠ 1) (h7 : j ≠ 7) : tp_hc cy ad I b j = .inl (cy 0, 48, .inl (I (b + j))) := by
  unfold tp_hc
  split
  · exact absurd rfl h0
  · exact absurd rfl h1
  · exact absurd rfl h7
  · rfl
theorem tp_c_cong {cy : Nat → ClassId} {n n' : Nat} {ad ad' : Nat → Nat} {I I' : Nat → Nat → Int32} {o : Int64} {k : Nat} (hk : k < 9 + 15 * n) (h1 : k ≠ 1) (ha : ∀ j, j < 9 + 15 * n → ad' j = ad j) (hI : I' k = I k) : tp_c cy n' ad' I' o k = tp_c cy n ad I o k := by
  by_cases h14 : k < 9
  · rcases (show k = 0 ∨ k = 2 ∨ k = 3 ∨ k = 4 ∨ k = 5 ∨ k = 6 ∨ k = 7 ∨ k = 8 by omega) with rfl | rfl | rfl | rfl | rfl | rfl | rfl | rfl
    · show (Sum.inr (1, [.ref (ad' 1), .int (I' 0 1), .int (I' 0 2)]) : va_E) = .inr (1, [.ref (ad 1), .int (I 0 1), .int (I 0 2)])
      rw [hI, ha 1 (by omega)]
    all_goals first | rfl | (unfold tp_c; rw [hI])
  · obtain ⟨i, j, hj, rfl⟩ : ∃ i j, j < 15 ∧ k = 9 + 15 * i + j := ⟨(k - 9) / 15, (k - 9) % 15, Nat.mod_lt _ (by omega), by omega⟩
    have hi : i < n := by omega
    rw [tp_cH i hj, tp_cH i hj]
    rcases (show j = 0 ∨ j = 1 ∨ j = 7 ∨ (j ≠ 0 ∧ j ≠ 1 ∧ j ≠ 7) by omega) with rfl | rfl | rfl | ⟨n0, n1, n7⟩
    · have hI : I' (9 + 15 * i) = I (9 + 15 * i) := hI
      rw [tp_hc_0, tp_hc_0, hI, ha _ (by omega), ha _ (by omega), ha _ (by omega), ha _ (by omega)]
    · rw [tp_hc_1, tp_hc_1, tp_rf5 (f := fun f => ad' (9 + 15 * i + 2 + f)) (g := fun f => ad (9 + 15 * i + 2 + f)) (ha _ (by omega)) (ha _ (by omega)) (ha _ (by omega)) (ha _ (by omega)) (ha _ (by omega))]
    · rw [tp_hc_7, tp_hc_7, tp_rf5 (f := fun f => ad' (9 + 15 * i + 8 + f)) (g := fun f => ad (9 + 15 * i + 8 + f)) (ha _ (by omega)) (ha _ (by omega)) (ha _ (by omega)) (ha _ (by omega)) (ha _ (by omega))]
    · rw [tp_hc_r n0 n1 n7, tp_hc_r n0 n1 n7, hI]
theorem tp_gad_k {n k j : Nat} {ad q : Nat → Nat} {q5 : Nat} (h : 0 < j) (hk : k = 9 + 15 * n + j) : tp_gad n ad q q5 k = q j := by rw [hk, tp_gad_hi h]
theorem tp_hc_new {cy : Nat → ClassId} {n j : Nat} {ad q : Nat → Nat} {q5 : Nat} {I : Nat → Nat → Int32} {fm : Int32} : tp_hc cy (tp_gad n ad q q5) (tp_gI n I fm) (9 + 15 * n) j = tp_hc cy q (tp_hI fm) 0 j := by
  rcases (show j = 0 ∨ j = 1 ∨ j = 7 ∨ (j ≠ 0 ∧ j ≠ 1 ∧ j ≠ 7) by omega) with rfl | rfl | rfl | ⟨n0, n1, n7⟩
  · rw [tp_hc_0, tp_hc_0, show tp_gI n I fm (9 + 15 * n) = tp_hI fm 0 from tp_gI_hi (j := 0), tp_gad_k (j := 1) (by decide) rfl, tp_gad_k (j := 7) (by decide) rfl, tp_gad_k (j := 13) (by decide) rfl, tp_gad_k (j := 14) (by decide) rfl]
  · rw [tp_hc_1, tp_hc_1, tp_rf5 (f := fun f => tp_gad n ad q q5 (9 + 15 * n + 2 + f)) (g := fun f => q (0 + 2 + f)) (tp_gad_k (by decide) (by omega)) (tp_gad_k (by decide) (by omega)) (tp_gad_k (by decide) (by omega)) (tp_gad_k (by decide) (by omega)) (tp_gad_k (by decide) (by omega))]
  · rw [tp_hc_7, tp_hc_7, tp_rf5 (f := fun f => tp_gad n ad q q5 (9 + 15 * n + 8 + f)) (g := fun f => q (0 + 8 + f)) (tp_gad_k (by decide) (by omega)) (tp_gad_k (by decide) (by omega)) (tp_gad_k (by decide) (by omega)) (tp_gad_k (by decide) (by omega)) (tp_gad_k (by decide) (by omega))]
  · rw [tp_hc_r n0 n1 n7, tp_hc_r n0 n1 n7, tp_gI_hi, Nat.zero_add]
theorem tp_w_len {cy : Nat → ClassId} {n : Nat} {ad : Nat → Nat} {I : Nat → Nat → Int32} {o : Int64} : (tp_w cy n ad I o).length = 9 + 15 * n := by unfold tp_w; simp
theorem tp_hw_at {cy : Nat → ClassId} {q : Nat → Nat} {q5 j : Nat} {fm : Int32} (h : j < 15) : (tp_hw cy q q5 fm)[j]? = some (if j = 0 then q5 else q j, tp_hc cy q (tp_hI fm) 0 j) := by
  unfold tp_hw
  rw [List.getElem?_map, List.getElem?_range h]
  rfl
theorem tp_hw_len {cy : Nat → ClassId} {q : Nat → Nat} {q5 : Nat} {fm : Int32} : (tp_hw cy q q5 fm).length = 15 := by unfold tp_hw; simp
theorem tp_grow {cy : Nat → ClassId} {n : Nat} {ad q : Nat → Nat} {q5 : Nat} {I : Nat → Nat → Int32} {o : Int64} {fm : Int32} : (tp_w cy n ad I o ++ tp_hw cy q q5 fm).set 1 (ad 1, .inl (cy 3, 6, .inr (.inr (.inr (.inr (va_up (tp_rf n (fun j => ad (9 + 15 * j))) n (some q5))))))) = tp_w cy (n + 1) (tp_gad n ad q q5) (tp_gI n I fm) o := by
  apply List.ext_getElem?
  intro k
  by_cases h1 : k = 1
  · subst h1
    rw [List.getElem?_set_self (by rw [List.length_append, tp_w_len]; omega), tp_at (by omega), tp_gad_lo (by omega)]
    show some (ad 1, (Sum.inl (cy 3, 6, .inr (.inr (.inr (.inr (va_up (tp_rf n (fun j => ad (9 + 15 * j))) n (some q5)))))) : va_E)) = some (ad 1, .inl (cy 3, 6, .inr (.inr (.inr (.inr (tp_rf (n + 1) (fun j => tp_gad n ad q q5 (9 + 15 * j))))))))
    rw [show va_up (tp_rf n (fun j => ad (9 + 15 * j))) n (some q5) = tp_rf (n + 1) (fun j => tp_gad n ad q q5 (9 + 15 * j)) from ?_]
    funext j
    unfold tp_rf
    by_cases hj : j = n
    · subst hj
      rw [va_up_self, if_pos (by omega)]
      exact congrArg some tp_gad_0.symm
    · rw [va_up_ne _ _ hj]
      by_cases hl : j < n
      · rw [if_pos hl, if_pos (by omega)]
        exact congrArg some (tp_gad_lo (by omega)).symm
      · rw [if_neg hl, if_neg (by omega)]
  · rw [List.getElem?_set_ne (Ne.symm h1)]
    by_cases hk : k < 9 + 15 * n
    · rw [List.getElem?_append_left (by rw [tp_w_len]; exact hk), tp_at hk, tp_at (by omega), tp_gad_lo hk, tp_c_cong (n' := n + 1) (ad' := tp_gad n ad q q5) (I' := tp_gI n I fm) hk h1 (fun j hj => tp_gad_lo hj) (tp_gI_lo hk)]
    · rw [List.getElem?_append_right (by rw [tp_w_len]; omega), tp_w_len]
      by_cases hk2 : k < 9 + 15 * (n + 1)
      · obtain ⟨j, hj, rfl⟩ : ∃ j, j < 15 ∧ k = 9 + 15 * n + j := ⟨k - (9 + 15 * n), by omega, by omega⟩
        rw [Nat.add_sub_cancel_left, tp_hw_at hj, tp_at hk2, tp_cH n hj, tp_hc_new]
        by_cases h0 : j = 0
        · subst h0
          rw [if_pos rfl]
          exact congrArg (fun z => some (z, _)) tp_gad_0.symm
        · rw [if_neg h0, tp_gad_hi (by omega)]
      · rw [List.getElem?_eq_none (by rw [tp_hw_len]; omega), List.getElem?_eq_none (by rw [tp_w_len]; omega)]
theorem tp_app {ws : va_W} {l : va_W} {k : Nat} {q : Nat × va_E} (h : ws[k]? = some q) : (ws ++ l)[k]? = some q := by
  rw [List.getElem?_append_left (List.getElem?_eq_some_iff.mp h).1]
  exact h
theorem tp_lastP {D : va_G} {cl : List vw_C} {ws : va_W} {x : Nat × va_E} {H : Heap} (h : va_P D cl (ws ++ [x]) H) : va_P D cl [x] H := fun k q hk => by
  have h0 : k < 1 := (List.getElem?_eq_some_iff.mp hk).1
  obtain rfl : k = 0 := by omega
  cases hk
  exact h ws.length _ (by rw [List.getElem?_append_right (Nat.le_refl _), Nat.sub_self]; rfl)
theorem tp_lastD {A : Nat → Prop} {x : Nat × va_E} (h : A x.1) : va_D A [x] := by
  refine ⟨fun i j p q hi hj _ => ?_, fun k q hk => ?_⟩
  · have h0 : i < 1 := (List.getElem?_eq_some_iff.mp hi).1
    have h1 : j < 1 := (List.getElem?_eq_some_iff.mp hj).1
    omega
  · have h0 : k < 1 := (List.getElem?_eq_some_iff.mp hk).1
    obtain rfl : k = 0 := by omega
    cases hk
    exact h
/-- behind a call on the last cell alone -/
theorem tp_join2 {D : va_G} {cl : List vw_C} {A : Nat → Prop} {ws w1 : va_W} {x : Nat × va_E} {H H1 : Heap} (hP : va_P D cl (ws ++ [x]) H) (hD : va_D A (ws ++ [x])) (hF : ∀ q, va_A [x] H.size q → A q) (hk : ∀ q : Nat, q < H.size → ¬ va_A [x] H.size q → H1[q]? = H[q]?) (hP1 : va_P D cl w1 H1) (hD1 : va_D (va_A [x] H.size) w1) : va_P D cl (ws ++ w1) H1 ∧ va_D A (ws ++ w1) := by
  have hx : (ws ++ [x])[ws.length]? = some x := by rw [List.getElem?_append_right (Nat.le_refl _), Nat.sub_self]; rfl
  have hne : ∀ (k : Nat) (q : Nat × va_E), ws[k]? = some q → q.1 < H.size ∧ q.1 ≠ x.1 := fun k q hq => by
    have hl := (List.getElem?_eq_some_iff.mp hq).1
    refine ⟨(hP k q (tp_app hq)).lt, fun e => ?_⟩
    have := hD.1 k ws.length q x (tp_app hq) hx e
    omega
  have hout : ∀ (k : Nat) (q : Nat × va_E), ws[k]? = some q → ¬ va_A [x] H.size q.1 := fun k q hq hv => by
    obtain ⟨h1, h2⟩ := hne k q hq
    rcases hv with ⟨k9, e9, h9⟩ | h9
    · have h0 : k9 < 1 := (List.getElem?_eq_some_iff.mp h9).1
      obtain rfl : k9 = 0 := by omega
      cases h9
      exact h2 rfl
    · omega
  have hP0 : va_P D cl ws H := fun k q hq => hP k q (tp_app hq)
  refine ⟨(hP0.kept (fun k q hq => hk q.1 (hne k q hq).1 (hout k q hq))).app hP1, va_D.app ⟨fun i j p q hi hj e => hD.1 i j p q (tp_app hi) (tp_app hj) e, fun k q hq => hD.2 k q (tp_app hq)⟩ (hD1.weaken (fun _ _ _ h => hF _ h)) (fun i j p q hi hj e => ?_)⟩
  have := hD1.2 j q hj
  rw [← e] at this
  exact hout i p hi this
/-- the contract of add: the world has one household more -/
def tp_AD (l : Launch) (D : va_G) (cy : Nat → ClassId) (n : Nat) (ad : Nat → Nat) (o : Int64) (sa : Nat → Nat) (tL tM : Nat) (I : Nat → Nat → Int32) (e0 : Nat) : Prop :=
  ∀ sz : Nat, Met l yX1_add wsX1_add { frames := 2, cells := 15, slots := 595, locals := 42 } (va_Pc [.ref (ad 0)] (tp_PE D cy n ad I o sa tL tM sz)) (va_Qi (fun x (u : Nat → Nat) => x = nI n ∧ ∀ k, k < 9 + 15 * n → u k = ad k) (fun u t => va_P D vwCl (tp_w cy (n + 1) u (tp_u (tp_gI n I (nI e0)) 0 1 (nI (n + 1))) o) t.heap ∧ va_K D vwCl (tp_ty cy) t ∧ va_D (va_A (tp_w cy n ad I o) sz) (tp_w cy (n + 1) u (tp_u (tp_gI n I (nI e0)) 0 1 (nI (n + 1))) o)) (va_A (tp_w cy n ad I o) sz)) 15 595 (va_A (tp_w cy n ad I o) sz)
set_option maxHeartbeats 4000000 in
set_option maxRecDepth 100000 in
/-- add: ok -/
theorem op_add_ok (l : Launch) (D : va_G) (cy : Nat → ClassId) (n : Nat) (ad : Nat → Nat) (o : Int64) (I : Nat → Nat → Int32) (sa : Nat → Nat) (tL tM : Nat) (e0 : Nat) (hn6 : n < 6) (hna : I 0 1 = nI n) (he : I 0 2 = nI e0) (he8 : e0 < 48) : tp_AD l D cy n ad o sa tL tM I e0 := by
  intro sz
  refine Met.ofW (cc := cX1_add) (maxL := 2) (ret := some .int) (by decide) rfl ?_
  intro p e s m args below meth c s₁ B hml hv
  obtain ⟨rfl, ⟨hsz, hP, hK, hD0⟩, hE⟩ := hv
  subst hsz
  have hx := B.exec
  have hb := B.bytes
  have hr := B.returns
  have hts := atoms_spec (ws := wsX1_add) B.pre
  have hlocks := B.notSynchronized
  have hown : s.vm.findClass RX1 = some m.cls := findClass_of_methodNamed B.named
  have hD := hD0.self (sz := s.heap.size)
  generalize hAe : va_A (tp_w cy n ad I o) s.heap.size = A at hD hE ⊢
  have hA : ∀ q : Nat, s.heap.size ≤ q → A q := fun q h => by rw [← hAe]; exact Or.inr h
  have hS : va_S A s.heap s.heap [] := va_S.rf
  have hl := lv_entry ([.ref (ad 0)]) (n := 2) (Nat.le_of_ble_eq_true rfl)
  rw [lg_entry_eq]
  generalize (lg_sl ([.ref (ad 0)]) ++ List.replicate (2 - (lg_sl ([.ref (ad 0)])).length) Slot.unset).toArray = ls at hl ⊢
  have hl : lv_has ls 2 [(0, .ref (ad 0))] := hl
  obtain ⟨-, -, -, hEw, -, hEa, hEo⟩ := id hE
  refine lv_aload_n hx hb dX1_add_0 rfl (lv_at hl 0 rfl) ?_
  refine va_get (D := D) (ci := 1) (v := .int (I 0 1)) (C := RX1) (T := TX1) (N := 3) hx hb hts (fun _ h => List.mem_cons_of_mem _ (List.mem_append_left _ (List.mem_append_left _ (List.mem_append_right _ (h))))) hown hK hP 0 tp_e0 rfl 1 (by decide) (hts _ (List.mem_of_getElem? (i := 3) rfl)) (fun _ h9 => h9) rfl dX1_add_1 ?_
  refine tp_eqi (y := nI n) hna ?_
  refine lv_if_lt (tgt := 19) hx hb dX1_add_4 (by decide) (fun c4 => absurd c4 (nI_pos (by omega))) (fun c4 => ?_)
  refine lv_aload_n hx hb dX1_add_7 rfl (lv_at hl 0 rfl) ?_
  refine va_get (D := D) (ci := 1) (v := .int (I 0 1)) (C := RX1) (T := TX1) (N := 3) hx hb hts (fun _ h => List.mem_cons_of_mem _ (List.mem_append_left _ (List.mem_append_left _ (List.mem_append_right _ (h))))) hown hK hP 0 tp_e0 rfl 1 (by decide) (hts _ (List.mem_of_getElem? (i := 3) rfl)) (fun _ h9 => h9) rfl dX1_add_8 ?_
  refine tp_eqi (y := nI n) hna ?_
  refine lv_aload_n hx hb dX1_add_11 rfl (lv_at hl 0 rfl) ?_
  refine va_get (D := D) (ci := 1) (v := .ref (ad 1)) (C := RX1) (T := TX1) (N := 3) hx hb hts (fun _ h => List.mem_cons_of_mem _ (List.mem_append_left _ (List.mem_append_left _ (List.mem_append_right _ (h))))) hown hK hP 0 tp_e0 rfl 0 (by decide) (hts _ (List.mem_of_getElem? (i := 4) rfl)) (fun _ h9 => h9) rfl dX1_add_12 ?_
  refine tp_rlen hx hb hK hP dX1_add_15 ?_
  refine lv_icmp_lt (tgt := 29) hx hb dX1_add_16 (by decide) (fun c16 => ?_) (fun c16 => absurd (nI_lt (a := n) (b := 6) (by omega) (by decide)) c16)
  refine lv_aload_n hx hb dX1_add_29 rfl (lv_at hl 0 rfl) ?_
  refine va_get (D := D) (ci := 1) (v := .int (I 0 2)) (C := RX1) (T := TX1) (N := 3) hx hb hts (fun _ h => List.mem_cons_of_mem _ (List.mem_append_left _ (List.mem_append_left _ (List.mem_append_right _ (h))))) hown hK hP 0 tp_e0 rfl 2 (by decide) (hts _ (List.mem_of_getElem? (i := 5) rfl)) (fun _ h9 => h9) rfl dX1_add_30 ?_
  refine tp_eqi (y := nI e0) he ?_
  refine lv_bipush (v := 48) hx hb dX1_add_33 (by decide) ?_
  refine lv_icmp_lt (tgt := 48) hx hb dX1_add_35 (by decide) (fun c35 => ?_) (fun c35 => absurd (nI_lt (a := e0) (b := 48) (by omega) (by decide)) c35)
  refine lv_aload_n hx hb dX1_add_48 rfl (lv_at hl 0 rfl) ?_
  refine va_get (D := D) (ci := 1) (v := .int (I 0 1)) (C := RX1) (T := TX1) (N := 3) hx hb hts (fun _ h => List.mem_cons_of_mem _ (List.mem_append_left _ (List.mem_append_left _ (List.mem_append_right _ (h))))) hown hK hP 0 tp_e0 rfl 1 (by decide) (hts _ (List.mem_of_getElem? (i := 3) rfl)) (fun _ h9 => h9) rfl dX1_add_49 ?_
  refine tp_eqi (y := nI n) hna ?_
  refine lv_istore_n (lv' := [(1, .int (nI n)), (0, .ref (ad 0))]) hx hb dX1_add_52 rfl hl (by decide) rfl (fun ls hl => ?_)
  refine lv_aload_n hx hb dX1_add_53 rfl (lv_at hl 1 rfl) ?_
  refine va_get (D := D) (ci := 1) (v := .ref (ad 1)) (C := RX1) (T := TX1) (N := 3) hx hb hts (fun _ h => List.mem_cons_of_mem _ (List.mem_append_left _ (List.mem_append_left _ (List.mem_append_right _ (h))))) hown hK hP 0 tp_e0 rfl 0 (by decide) (hts _ (List.mem_of_getElem? (i := 4) rfl)) (fun _ h9 => h9) rfl dX1_add_54 ?_
  refine lv_iload_n hx hb dX1_add_57 rfl (lv_at hl 0 rfl) ?_
  refine va_new (ci := 0) (fs := [.null, .null, .int 0, .int 0, .null, .null, .int 0, .int 0, .int 0]) (C := RX0) (T := TX0) (N := 9) hx hb hts (fun _ h => List.mem_cons_of_mem _ (List.mem_append_left _ (List.mem_append_right _ (h)))) tyX0 tyX0_ok hown (hts _ (List.mem_of_getElem? (i := 6) rfl)) (hts _ (List.mem_of_getElem? (i := 7) rfl)) (hts _ (List.mem_of_getElem? (i := 8) rfl)) hK hP hD hS hA rfl (fun j hj => by rcases (show j = 0 ∨ j = 1 ∨ j = 2 ∨ j = 3 ∨ j = 4 ∨ j = 5 ∨ j = 6 ∨ j = 7 ∨ j = 8 by omega) with rfl | rfl | rfl | rfl | rfl | rfl | rfl | rfl | rfl <;> rfl) (Nat.le_of_ble_eq_true rfl) (Nat.le_of_ble_eq_true rfl) dX1_add_58 (fun q5 H hP hD hS => ?_)
  refine lv_dup hx hb dX1_add_61 rfl ?_
  refine lv_aload_n hx hb dX1_add_62 rfl (lv_at hl 1 rfl) ?_
  refine va_get (D := D) (ci := 1) (v := .int (I 0 2)) (C := RX1) (T := TX1) (N := 3) hx hb hts (fun _ h => List.mem_cons_of_mem _ (List.mem_append_left _ (List.mem_append_left _ (List.mem_append_right _ (h))))) hown hK hP 0 (tp_app tp_e0) rfl 2 (by decide) (hts _ (List.mem_of_getElem? (i := 5) rfl)) (fun _ h9 => h9) rfl dX1_add_63 ?_
  refine tp_eqi (y := nI e0) he ?_
  have hA5 : A q5 := hD.2 (tp_w cy n ad I o).length (q5, .inr (0, [.null, .null, .int 0, .int 0, .null, .null, .int 0, .int 0, .int 0])) (by rw [List.getElem?_append_right (Nat.le_refl _), Nat.sub_self]; rfl)
  have hF : ∀ q, va_A [(q5, .inr (0, [.null, .null, .int 0, .int 0, .null, .null, .int 0, .int 0, .int 0]))] H.size q → A q := by
    intro q hq
    rcases hq with ⟨k9, e9, h9⟩ | h9
    · have h0 : k9 < 1 := (List.getElem?_eq_some_iff.mp h9).1
      obtain rfl : k9 = 0 := by omega
      cases h9
      exact hA5
    · exact hA q (Nat.le_trans hS.1 h9)
  refine va_callv (va_runIN (As := [.int (nI e0)]) (rest := [.ref q5, .int (nI n), .ref (ad 1)]) ⟨hx, hb, hml, hown, hts⟩ (hc_init l D cy q5 (nI e0) H.size) ⟨va_cnB (host := "TaperOffice") 1 hts gX1_add_X0_init_n31 rfl rfl rfl (hEw _ (List.mem_of_getElem? (i := 7) rfl)) (hts _ (List.mem_of_getElem? (i := 8) rfl)) (by decide +kernel) ⟨(Nat.le_of_ble_eq_true rfl), (Nat.le_of_ble_eq_true rfl)⟩, rfl, (hts _ (List.mem_of_getElem? (i := 9) rfl))⟩ ⟨tp_blindN, fun U hU hW => ⟨rfl, ⟨by rw [hU], by rw [hU]; exact tp_lastP hP, va_K.moved hW.alike hK, tp_lastD trivial⟩, va_AOA.moved hW.alike hEa, va_AO.moved hW.alike hEo⟩⟩ rfl rfl hl.1 rfl (lv_room (Nat.le_of_ble_eq_true rfl)) dX1_add_66 ⟨(Nat.le_of_ble_eq_true rfl), (Nat.le_of_ble_eq_true rfl)⟩) hS (fun q _ h => hF q h) hF (fun u t H1 locs ht hvm hw hB hz1 hk1 hS => ?_)
  obtain ⟨hP1, hK1, hD1⟩ := hB
  rw [ht] at hP1
  obtain ⟨hP, hD⟩ := tp_join2 hP hD hF hk1 hP1 hD1
  refine va_astq hx hb hK hP hD hS 1 3 (9 + 15 * n) 0 (tp_app (tp_at (by omega))) rfl (v := q5) (vs := [.ref (u 1), .ref (u 7), .int 0, .int (nI e0), .ref (u 13), .ref (u 14), .int 0, .int 0, .int 0]) (by rw [List.getElem?_append_right (by rw [tp_w_len]; exact Nat.le_refl _), tp_w_len, Nat.sub_self, tp_hw_at (by decide)]; rfl) (r := (RX0, TX0, 9)) rfl (vp_in_nI (by omega) (by decide)) dX1_add_69 (fun H locs hP hD hS => ?_)
  rw [nI_clamp (by omega), tp_grow] at hP hD
  have hg0 : ad 0 = tp_gad n ad u q5 0 := (tp_gad_lo (by omega)).symm
  rw [hg0] at hl
  refine lv_aload_n hx hb dX1_add_70 rfl (lv_at hl 1 rfl) ?_
  refine lv_iload_n hx hb dX1_add_71 rfl (lv_at hl 0 rfl) ?_
  refine lv_iconst (v := 1) hx hb dX1_add_72 (by decide) ?_
  refine lv_iadd hx hb dX1_add_73 ?_
  refine tp_eqi (y := nI (n + 1)) (nI_1 n) ?_
  refine tp_put (ci := 1) (v := nI (n + 1)) (ty := .int) (C := RX1) (T := TX1) (N := 3) hx hb hts (fun _ h => List.mem_cons_of_mem _ (List.mem_append_left _ (List.mem_append_left _ (List.mem_append_right _ (h))))) tyX1 tyX1_ok nmX1 hown hK hP hD hS 0 tp_e0 (by omega) rfl 1 (by decide) (hts _ (List.mem_of_getElem? (i := 3) rfl)) rfl (by decide +kernel) rfl rfl (Nat.le_of_ble_eq_true rfl) rfl dX1_add_74 (fun H locs hP hD hS => ?_)
  refine lv_iload_n hx hb dX1_add_77 rfl (lv_at hl 0 rfl) ?_
  refine W.widen (k := 15) (n := 595) (Nat.le_of_ble_eq_true rfl) (Nat.le_of_ble_eq_true rfl) ?_
  exact W.iret (v := nI n) hx hb hr (fun t ht hW => ⟨⟨nI n, tp_gad n ad u q5, rfl, ⟨rfl, fun k hk => tp_gad_lo hk⟩, by rw [ht]; exact hP, va_K.moved hW.alike hK, hD⟩, hS.F ht⟩) hS.2.2 dX1_add_78
end
section
/-! NUMBERS -/
theorem tm_add {a b : Int32} (h1 : -2147483648 ≤ a.toInt + b.toInt) (h2 : a.toInt + b.toInt < 2147483648) : (a + b).toInt = a.toInt + b.toInt := by
  rw [Int32.toInt_add]
  exact Int.bmod_eq_of_le (by omega) (by omega)
theorem tm_sub {a b : Int32} (h1 : -2147483648 ≤ a.toInt - b.toInt) (h2 : a.toInt - b.toInt < 2147483648) : (a - b).toInt = a.toInt - b.toInt := by
  rw [Int32.toInt_sub]
  exact Int.bmod_eq_of_le (by omega) (by omega)
theorem tm_lt {a b : Int32} : a < b ↔ a.toInt < b.toInt := Int32.lt_iff_toInt_lt
theorem tm_le {a b : Int32} : a ≤ b ↔ a.toInt ≤ b.toInt := Int32.le_iff_toInt_le
theorem tm_nle {a b : Int32} (h : a < b) : ¬ b ≤ a := fun q => by rw [tm_lt] at h; rw [tm_le] at q; omega
theorem tm_nlt {a b : Int32} (h : a ≤ b) : ¬ b < a := fun q => by rw [tm_le] at h; rw [tm_lt] at q; omega
theorem tm_ge {a b : Int32} (h : ¬ a < b) : b ≤ a := by rw [tm_lt] at h; rw [tm_le]; omega
theorem tm_gt {a b : Int32} (h : ¬ a ≤ b) : b < a := by rw [tm_le] at h; rw [tm_lt]; omega
theorem tm_nat {x : Int32} {N : Nat} (h0 : 0 ≤ x.toInt) (h1 : x.toInt ≤ N) (hN : N < 2 ^ 31) : ∃ k : Nat, k ≤ N ∧ x = nI k := ⟨x.toInt.toNat, by omega, Int32.toInt_inj.mp (by rw [nI_toInt (by omega)]; omega)⟩
theorem tm_bd (x : Int32) : -2147483648 ≤ x.toInt ∧ x.toInt < 2147483648 := ⟨x.le_toInt, x.toInt_lt⟩
theorem tp_nIj {a b : Nat} (h : nI a = nI b) (ha : a < 2 ^ 31) (hb : b < 2 ^ 31) : a = b := by
  have h2 := congrArg Int32.toNatClampNeg h
  rwa [nI_clamp ha, nI_clamp hb] at h2
/-- a + b - c and a - c + b -/
theorem tm_abc (a b c : Int32) : a + b - c = a - c + b := by
  rw [Int32.sub_eq_add_neg, Int32.sub_eq_add_neg, Int32.add_assoc, Int32.add_assoc, Int32.add_comm b]
/-- five facts within their ranges -/
def tm_fx (V : Nat → Int32) : Prop := (V 0 = nI 1 ∨ V 0 = nI 2) ∧ (∃ k, k ≤ 9 ∧ V 1 = nI k) ∧ (∃ k, k ≤ 1000000 ∧ V 2 = nI k) ∧ (∃ k, k ≤ 1000000 ∧ V 3 = nI k) ∧ (∃ k, k ≤ 10000000 ∧ V 4 = nI k)
theorem tm_ranges {V : Nat → Int32} (h : ∀ f, f < 5 → ¬ V f < tp_vl f ∧ V f ≤ tp_vm f) : tm_fx V := by
  have key : ∀ f N : Nat, f < 5 → (tp_vm f).toInt = N → N < 2 ^ 31 → (0 ≤ (tp_vl f).toInt) → ∃ k, k ≤ N ∧ V f = nI k := fun f N hf hN h31 h0 => by
    obtain ⟨h1, h2⟩ := h f hf
    rw [tm_lt] at h1
    rw [tm_le] at h2
    exact tm_nat (by omega) (by omega) h31
  refine ⟨?_, key 1 9 (by decide) (by decide) (by decide) (by decide), key 2 1000000 (by decide) (by decide) (by decide) (by decide), key 3 1000000 (by decide) (by decide) (by decide) (by decide), key 4 10000000 (by decide) (by decide) (by decide) (by decide)⟩
  obtain ⟨k, hk, e⟩ := key 0 2 (by decide) (by decide) (by decide) (by decide)
  have h1 := (h 0 (by decide)).1
  rw [e] at h1 ⊢
  rcases (show k = 0 ∨ k = 1 ∨ k = 2 by omega) with rfl | rfl | rfl
  · exact absurd (by decide : nI 0 < tp_vl 0) h1
  · exact Or.inl rfl
  · exact Or.inr rfl
theorem tm_over {k d : Nat} (hk : k ≤ 10000000) (hd : d ≤ 1000000) : tp_pos (nI k - nI d) = nI (k - d) := by
  have h1 : (nI k - nI d).toInt = (k : Int) - d := pk_sub_toInt (by omega) (by omega)
  have c0 : (0 : Int32).toInt = 0 := rfl
  unfold tp_pos
  by_cases h : k ≤ d
  · rw [if_neg (fun q => by rw [tm_lt, h1] at q; omega), show k - d = 0 by omega]
    rfl
  · rw [if_pos (by rw [tm_lt, h1]; omega), pk_sub (by omega)]
section TN
variable {I : Nat → Nat → Int32} {b m : Nat}
theorem tn_min60 {k : Nat} (h : k ≤ 1000000) : (if (60000 : Int32) < nI k then 60000 else nI k) = nI (min 60000 k) ∧ (if nI k ≤ (60000 : Int32) then nI k else 60000) = nI (min 60000 k) := by
  have p1 : (60000 : Int32) < nI k ↔ 60000 < k := nI_ltI (a := 60000) (by decide) (by omega)
  have p2 : nI k ≤ (60000 : Int32) ↔ k ≤ 60000 := nI_leI (b := 60000) (by omega) (by decide)
  refine ⟨?_, ?_⟩
  · by_cases h1 : 60000 < k
    · rw [if_pos (p1.mpr h1), Nat.min_eq_left (by omega)]
      rfl
    · rw [if_neg (fun q => h1 (p1.mp q)), Nat.min_eq_right (by omega)]
  · by_cases h1 : k ≤ 60000
    · rw [if_pos (p2.mpr h1), Nat.min_eq_right (by omega)]
    · rw [if_neg (fun q => h1 (p2.mp q)), Nat.min_eq_left (by omega)]
      rfl
/-- the need, as the law reckons it -/
theorem tn_need (h : tm_fx (fun f => I (b + 2 + f) m)) : 18000 + 12000 * I (b + 2 + 0) m + 8000 * I (b + 2 + 1) m + (if I (b + 2 + 2) m ≤ 60000 then I (b + 2 + 2) m else 60000) = tp_need I b m ∧ ∃ k : Nat, 30000 ≤ k ∧ k ≤ 174000 ∧ tp_need I b m = nI k := by
  obtain ⟨h0, ⟨c, hc, e1⟩, ⟨r, hr, e2⟩, -, -⟩ := h
  dsimp only at h0 e1 e2
  unfold tp_need
  rw [e1, e2, (tn_min60 hr).1, (tn_min60 hr).2, show nI c * 8000 = nI (c * 8000) from pk_mul c 8000, show 8000 * nI c = nI (8000 * c) from pk_mul 8000 c, show 30000 + nI (c * 8000) = nI (30000 + c * 8000) from nI_add 30000 _]
  rcases h0 with h0 | h0
  · rw [h0, if_pos (show nI 1 ≤ 1 by decide), show 12000 * nI 1 = nI 12000 by decide, show 18000 + nI 12000 = nI 30000 by decide, nI_add, nI_add, nI_add]
    refine ⟨congrArg nI (by omega), 30000 + c * 8000 + min 60000 r, by omega, by omega, rfl⟩
  · rw [h0, if_neg (show ¬ nI 2 ≤ 1 by decide), show 12000 * nI 2 = nI 24000 by decide, show 18000 + nI 24000 = nI 42000 by decide, show nI (30000 + c * 8000) + 12000 = nI (30000 + c * 8000 + 12000) from nI_add _ 12000, nI_add, nI_add, nI_add]
    refine ⟨congrArg nI (by omega), 30000 + c * 8000 + 12000 + min 60000 r, by omega, by omega, rfl⟩
/-- the taper -/
theorem tn_taper (h : tm_fx (fun f => I (b + 2 + f) m)) : ∃ s k : Nat, s ≤ 1000000 ∧ k ≤ 600000 ∧ I (b + 2 + 3) m = nI s ∧ tp_taper I b m = nI k ∧ k = (s - 20000) * 60 / 100 := by
  obtain ⟨-, -, -, ⟨s, hs, e⟩, -⟩ := h
  dsimp only at e
  refine ⟨s, (s - 20000) * 60 / 100, hs, by omega, e, ?_, rfl⟩
  unfold tp_taper
  rw [e, show tp_pos (nI s - 20000) = nI (s - 20000) from tm_over (d := 20000) (by omega) (by decide), show nI (s - 20000) * 60 = nI ((s - 20000) * 60) from pk_mul _ 60]
  exact pk_div (by omega) (by decide) (by decide)
theorem tn_taper0 (h : tm_fx (fun f => I (b + 2 + f) m)) (c : ¬ 20000 ≤ I (b + 2 + 3) m) : 0 = tp_taper I b m := by
  obtain ⟨s, k, hs, hk, e, e2, e3⟩ := tn_taper h
  rw [e] at c
  rw [e2]
  have c1 : ¬ 20000 ≤ s := fun q => c (nI_le (a := 20000) q (by omega))
  rw [e3, show (s - 20000) * 60 / 100 = 0 by omega]
  rfl
theorem tn_lmul (a b : Nat) : lN a * lN b = lN (a * b) := (Int64.ofNat_mul a b).symm
theorem tn_lsub {a b : Nat} (h : b ≤ a) : lN a - lN b = lN (a - b) := by
  have e : lN a = lN (a - b) + lN b := by
    rw [show lN (a - b) + lN b = lN (a - b + b) from (Int64.ofNat_add _ _).symm, Nat.sub_add_cancel h]
  rw [e, Int64.add_sub_cancel]
theorem tn_l2i {n : Nat} (h : n < 2 ^ 31) : (lN n).toInt32 = nI n := by
  rw [← nI_l h]
  exact Int32.toInt32_toInt64 _
theorem tn_taper1 (h : tm_fx (fun f => I (b + 2 + f) m)) (c : 20000 ≤ I (b + 2 + 3) m) : (((I (b + 2 + 3) m).toInt64 - 20000) * 3 / 5).toInt32 = tp_taper I b m := by
  obtain ⟨s, k, hs, hk, e, e2, e3⟩ := tn_taper h
  rw [e] at c ⊢
  rw [e2]
  have c1 : 20000 ≤ s := (nI_leI (a := 20000) (by decide) (by omega)).mp c
  rw [nI_l (by omega), show lN s - 20000 = lN (s - 20000) from tn_lsub (b := 20000) c1, show lN (s - 20000) * 3 = lN ((s - 20000) * 3) from tn_lmul _ 3, show lN ((s - 20000) * 3) / 5 = lN ((s - 20000) * 3 / 5) from pk_lDiv (b := 5) (by omega) (by decide) (by decide), tn_l2i (by omega)]
  exact congrArg nI (by omega)
/-- the tariff -/
theorem tn_tariff (h : tm_fx (fun f => I (b + 2 + f) m)) : ∃ s : Nat, s ≤ 10000000 ∧ I (b + 2 + 4) m = nI s ∧ tp_tariff I b m = nI (500 * ((s - 600000 + 24999) / 25000)) := by
  obtain ⟨-, -, -, -, ⟨s, hs, e⟩⟩ := h
  dsimp only at e
  refine ⟨s, hs, e, ?_⟩
  unfold tp_tariff
  rw [e, show tp_pos (nI s - 600000) = nI (s - 600000) from tm_over (d := 600000) (by omega) (by decide), show nI (s - 600000) + 25000 = nI (s - 600000 + 25000) from nI_add _ 25000, show nI (s - 600000 + 25000) - 1 = nI (s - 600000 + 25000 - 1) from pk_sub (b := 1) (by omega), show nI (s - 600000 + 25000 - 1) / 25000 = nI ((s - 600000 + 25000 - 1) / 25000) from pk_div (d := 25000) (by omega) (by decide) (by decide), show nI ((s - 600000 + 25000 - 1) / 25000) * 500 = nI ((s - 600000 + 25000 - 1) / 25000 * 500) from pk_mul _ 500]
  exact congrArg nI (by rw [show s - 600000 + 25000 - 1 = s - 600000 + 24999 by omega]; omega)
/-- what is due, within its bounds -/
theorem tn_due (h : tm_fx (fun f => I (b + 2 + f) m)) : ∃ k : Nat, k ≤ 174000 ∧ tp_due I b m = nI k := by
  obtain ⟨-, k1, h1, h2, e1⟩ := tn_need h
  obtain ⟨s2, k2, -, hk2, -, e2, -⟩ := tn_taper h
  obtain ⟨s3, hs3, -, e3⟩ := tn_tariff h
  unfold tp_due
  rw [e1, e2, e3]
  generalize hk3 : 500 * ((s3 - 600000 + 24999) / 25000) = k3
  have hk3 : k3 ≤ 200000 := by omega
  have d1 : (nI k1 - nI k2).toInt = (k1 : Int) - k2 := pk_sub_toInt (by omega) (by omega)
  have d2 : (nI k1 - nI k2 - nI k3).toInt = (k1 : Int) - k2 - k3 := by
    rw [tm_sub (by rw [d1, nI_toInt (by omega)]; omega) (by rw [d1, nI_toInt (by omega)]; omega), d1, nI_toInt (by omega)]
  have c500 : (500 : Int32).toInt = 500 := rfl
  by_cases c1 : I (b + 2 + 4) m ≤ 1600000
  · rw [if_pos c1]
    by_cases c2 : 500 ≤ nI k1 - nI k2 - nI k3
    · rw [if_pos c2]
      rw [tm_le] at c2
      exact tm_nat (by omega) (by omega) (by decide)
    · rw [if_neg c2]
      exact ⟨0, by decide, rfl⟩
  · rw [if_neg c1]
    exact ⟨0, by decide, rfl⟩
end TN
/-! THE LAW'S LIST OF CHANGES -/
def tl_its (I : Nat → Nat → Int32) (h f m k : Nat) : Int32 := if I 3 k - I 3 k / 16 * 16 = nI (8 * h + f) then (if nI m < I 3 k / 16 then 0 else 1) else 0
def tl_v0 (f : Nat) : Int32 := if nI f = 0 then 1 else 0
def tl_scan (I : Nat → Nat → Int32) (h f m : Nat) : Nat → Int32 × Int32
  | 0 => (tl_v0 f, -1)
  | t + 1 => (if tl_its I h f m t = 0 then (tl_scan I h f m t).1 else if I 3 t / 16 < (tl_scan I h f m t).2 then (tl_scan I h f m t).1 else I 4 t, if tl_its I h f m t = 0 then (tl_scan I h f m t).2 else if I 3 t / 16 ≤ (tl_scan I h f m t).2 then (tl_scan I h f m t).2 else I 3 t / 16)
def tp_z (x : Int32) : Int32 := if x = -1 then 0 else x
/-- a change told: its household g, its fact f, the month r that it counts from -/
def tq_row (I : Nat → Nat → Int32) (j g f r : Nat) : Prop := g < 2 ∧ f < 5 ∧ r ≤ 48 ∧ I 3 j = nI (16 * r + 8 * g + f) ∧ ¬ I 4 j < tp_vl f ∧ I 4 j ≤ tp_vm f
/-- the facts of household h -/
def tq_F (I : Nat → Nat → Int32) (h c : Nat) : Prop := (h < 2 ∧ c ≤ 64 ∧ I 2 2 = nI c) ∧ (∀ j, j < c → ∃ g f r, tq_row I j g f r) ∧ ∀ f, f < 5 → ∀ m, m < 48 → I (9 + 15 * h + 2 + f) m = (tl_scan I h f m c).1 ∧ I (9 + 15 * h + 8 + f) m = tp_z (tl_scan I h f m c).2
/-- its reckoning: the month e is the current one, a its first -/
def tq_B (I : Nat → Nat → Int32) (h e a : Nat) : Prop := (h < 2 ∧ a ≤ e ∧ e ≤ 48 ∧ I 2 0 = nI e ∧ I 2 (4 + h) = nI a) ∧
  (∀ m, m < 48 → I (9 + 15 * h + 13) m = I (5 + h) m ∧ I (9 + 15 * h + 14) m = I (7 + h) m ∧ 0 ≤ (I (5 + h) m).toInt ∧ (I (5 + h) m).toInt ≤ 174000) ∧
  I (9 + 15 * h) 6 = I 2 (6 + h) ∧ I (9 + 15 * h) 7 = I 2 (8 + h) ∧ I (9 + 15 * h) 8 = I 2 (10 + h) ∧ (I 2 (10 + h) = 0 ∨ I 2 (10 + h) = 1) ∧ 0 ≤ (I 2 (6 + h)).toInt ∧ (I 2 (6 + h)).toInt ≤ (e : Int) * 8352000
theorem tq_its {I : Nat → Nat → Int32} {j g f r h f0 m : Nat} (R : tq_row I j g f r) (hh : h < 2) (hf : f0 < 5) (hm : m < 48) : (tl_its I h f0 m j = if g = h ∧ f = f0 ∧ r ≤ m then 1 else 0) ∧ I 3 j / 16 = nI r := by
  obtain ⟨r1, r2, r3, r4, -, -⟩ := R
  have e1 : I 3 j / 16 = nI ((16 * r + 8 * g + f) / 16) := by
    rw [r4]
    exact pk_div (d := 16) (by omega) (by decide) (by decide)
  have e2 : I 3 j - I 3 j / 16 * 16 = nI ((16 * r + 8 * g + f) % 16) := by
    rw [r4]
    exact pk_rem (d := 16) (by omega) (by decide) (by decide)
  have e3 : (16 * r + 8 * g + f) / 16 = r := by omega
  have e4 : (16 * r + 8 * g + f) % 16 = 8 * g + f := by omega
  rw [e4] at e2
  rw [e3] at e1
  refine ⟨?_, e1⟩
  unfold tl_its
  rw [e2, e1]
  by_cases q : nI (8 * g + f) = nI (8 * h + f0)
  · have q2 := tp_nIj q (by omega) (by omega)
    rw [if_pos q]
    by_cases q3 : r ≤ m
    · rw [if_neg (nI_nlt q3 (by omega)), if_pos ⟨by omega, by omega, q3⟩]
    · rw [if_pos (nI_lt (by omega) (by omega)), if_neg (fun z => q3 z.2.2)]
  · rw [if_neg q, if_neg (fun z => q (by rw [z.1, z.2.1]))]
theorem tq_range {I : Nat → Nat → Int32} {h f m c : Nat} (hh : h < 2) (hf : f < 5) (hm : m < 48) (hr : ∀ j, j < c → ∃ g f r, tq_row I j g f r) : ∀ t, t ≤ c → ¬ (tl_scan I h f m t).1 < tp_vl f ∧ (tl_scan I h f m t).1 ≤ tp_vm f
  | 0, _ => by
    show ¬ tl_v0 f < tp_vl f ∧ tl_v0 f ≤ tp_vm f
    rcases (show f = 0 ∨ f = 1 ∨ f = 2 ∨ f = 3 ∨ f = 4 by omega) with rfl | rfl | rfl | rfl | rfl <;> decide
  | t + 1, ht => by
    have ih := tq_range (I := I) hh hf hm hr t (by omega)
    obtain ⟨g, f2, r, R⟩ := hr t (by omega)
    obtain ⟨e1, -⟩ := tq_its R hh hf hm
    unfold tl_scan
    dsimp only
    by_cases q : tl_its I h f m t = 0
    · rw [if_pos q]
      exact ih
    · rw [if_neg q]
      rw [e1] at q
      have q2 : g = h ∧ f2 = f ∧ r ≤ m := Decidable.byContradiction (fun z => q (if_neg z))
      by_cases q3 : I 3 t / 16 < (tl_scan I h f m t).2
      · rw [if_pos q3]
        exact ih
      · rw [if_neg q3, ← q2.2.1]
        exact R.2.2.2.2
theorem tq_fx {I : Nat → Nat → Int32} {h c m : Nat} (R : tq_F I h c) (hm : m < 48) : tm_fx (fun f => I (9 + 15 * h + 2 + f) m) := tm_ranges (fun f hf => by
  show ¬ I (9 + 15 * h + 2 + f) m < _ ∧ I (9 + 15 * h + 2 + f) m ≤ _
  rw [(R.2.2 f hf m hm).1]
  exact tq_range R.1.1 hf hm R.2.1 c (Nat.le_refl _))
/-! THE RECKONING OF A MONTH -/
theorem tq_dueN {I : Nat → Nat → Int32} {h c m : Nat} (R : tq_F I h c) (hm : m < 48) : ∃ k : Nat, k ≤ 174000 ∧ tp_due I (9 + 15 * h) m = nI k := tn_due (tq_fx R hm)
theorem tq_sum {I : Nat → Nat → Int32} {h c e a : Nat} (R : tq_F I h c) (B : tq_B I h e a) {x : Nat} : ∀ k : Nat, x + k ≤ 48 → -(174000 * (k : Int)) ≤ (tp_sum (fun m => tp_due I (9 + 15 * h) m - I (9 + 15 * h + 13) m) x k).toInt ∧ (tp_sum (fun m => tp_due I (9 + 15 * h) m - I (9 + 15 * h + 13) m) x k).toInt ≤ 174000 * (k : Int)
  | 0, _ => by
    show _ ≤ (0 : Int32).toInt ∧ (0 : Int32).toInt ≤ _
    have : (0 : Int32).toInt = 0 := rfl
    omega
  | k + 1, hk => by
    obtain ⟨i1, i2⟩ := tq_sum R B (x := x) k (by omega)
    obtain ⟨d, hd, ed⟩ := tq_dueN R (m := x + k) (by omega)
    obtain ⟨b0, -, b1, b2⟩ := B.2.1 (x + k) (by omega)
    have t1 : (tp_due I (9 + 15 * h) (x + k)).toInt = d := by rw [ed, nI_toInt (by omega)]
    have t2 : (tp_due I (9 + 15 * h) (x + k) - I (9 + 15 * h + 13) (x + k)).toInt = d - (I (5 + h) (x + k)).toInt := by
      rw [b0, tm_sub (by omega) (by omega), t1]
    show _ ≤ (tp_sum _ x k + (tp_due I (9 + 15 * h) (x + k) - I (9 + 15 * h + 13) (x + k))).toInt ∧ (tp_sum _ x k + (tp_due I (9 + 15 * h) (x + k) - I (9 + 15 * h + 13) (x + k))).toInt ≤ _
    rw [tm_add (by omega) (by omega), t2]
    omega
theorem tq_open {I : Nat → Nat → Int32} {h c e a : Nat} (R : tq_F I h c) (B : tq_B I h e a) : -8352000 ≤ (tp_open I (9 + 15 * h) a e).toInt ∧ (tp_open I (9 + 15 * h) a e).toInt ≤ 8352000 := by
  unfold tp_open
  obtain ⟨-, b1, b2, -, -⟩ := B.1
  obtain ⟨h1, h2⟩ := tq_sum R B (x := a) (e - a) (by omega)
  omega
theorem tm_posI (x : Int32) : (tp_pos x).toInt = if 0 < x.toInt then x.toInt else 0 := by
  have c0 : (0 : Int32).toInt = 0 := rfl
  unfold tp_pos
  by_cases h : 0 < x
  · rw [if_pos h, if_pos (by rw [tm_lt] at h; omega)]
  · rw [if_neg h, if_neg (by rw [tm_lt] at h; omega)]
    rfl
theorem tm_minI (x y : Int32) : (tp_min x y).toInt = if y.toInt < x.toInt then y.toInt else x.toInt := by
  unfold tp_min
  by_cases h : y < x
  · rw [if_pos h, if_pos (tm_lt.mp h)]
  · rw [if_neg h, if_neg (fun q => h (tm_lt.mpr q))]
/-- the debt then, the arrears -/
theorem tn_owed {D X : Int32} (h1 : 0 ≤ D.toInt) (h2 : D.toInt ≤ 410000000) (h3 : -8352000 ≤ X.toInt) (h4 : X.toInt ≤ 8352000) :
    (X ≤ 0 → D - X = tp_pos (D - X)) ∧ (0 ≤ D - X → D - X = tp_pos (D - X)) ∧ (¬ 0 ≤ D - X → 0 = tp_pos (D - X)) ∧ 0 ≤ (tp_pos (D - X)).toInt ∧ (tp_pos (D - X)).toInt ≤ D.toInt + 8352000 := by
  have c0 : (0 : Int32).toInt = 0 := rfl
  have d1 : (D - X).toInt = D.toInt - X.toInt := tm_sub (by omega) (by omega)
  have q1 := tm_posI (D - X)
  rw [d1] at q1
  refine ⟨fun q => Int32.toInt_inj.mp ?_, fun q => Int32.toInt_inj.mp ?_, fun q => Int32.toInt_inj.mp ?_, by rw [q1]; split <;> omega, by rw [q1]; split <;> omega⟩
  · rw [tm_le] at q
    rw [q1, d1]
    split <;> omega
  · rw [tm_le] at q
    rw [q1, d1]
    split <;> omega
  · rw [tm_le] at q
    rw [q1]
    split <;> omega
theorem tn_arr {D X : Int32} (h1 : 0 ≤ D.toInt) (h2 : D.toInt ≤ 410000000) (h3 : -8352000 ≤ X.toInt) (h4 : X.toInt ≤ 8352000) :
    (X ≤ D → 0 = tp_pos (X - D)) ∧ (X ≤ 0 → 0 = tp_pos (X - D)) ∧ (¬ X ≤ D → X - D = tp_pos (X - D)) := by
  have c0 : (0 : Int32).toInt = 0 := rfl
  have d1 : (X - D).toInt = X.toInt - D.toInt := tm_sub (by omega) (by omega)
  have q1 := tm_posI (X - D)
  rw [d1] at q1
  refine ⟨fun q => Int32.toInt_inj.mp ?_, fun q => Int32.toInt_inj.mp ?_, fun q => Int32.toInt_inj.mp ?_⟩
  · rw [tm_le] at q
    rw [q1]
    split <;> omega
  · rw [tm_le] at q
    rw [q1]
    split <;> omega
  · rw [tm_le] at q
    rw [q1, d1]
    split <;> omega
/-- what is recovered, as the law reckons it -/
def tl_s1 (x M : Int32) : Int32 := if M ≤ x then M else x
def tl_s2 (x M room : Int32) : Int32 := if tl_s1 x M ≤ room then tl_s1 x M else room
theorem tn_15 {k : Nat} (hk : k ≤ 174000) : nI k * 3 / 20 = nI k * 15 / 100 ∧ 0 ≤ (nI k * 15 / 100).toInt := by
  rw [show nI k * 3 = nI (k * 3) from pk_mul k 3, show nI k * 15 = nI (k * 15) from pk_mul k 15, show nI (k * 3) / 20 = nI (k * 3 / 20) from pk_div (d := 20) (by omega) (by decide) (by decide), show nI (k * 15) / 100 = nI (k * 15 / 100) from pk_div (d := 100) (by omega) (by decide) (by decide), nI_toInt (by omega)]
  exact ⟨congrArg nI (by omega), by omega⟩
theorem tn_rec {N d room : Int32} (h1 : 0 ≤ N.toInt) (h2 : 0 ≤ d.toInt) : (0 ≤ tl_s2 N d room → tl_s2 N d room = tp_min N (tp_min d (tp_pos room))) ∧ (¬ 0 ≤ tl_s2 N d room → 0 = tp_min N (tp_min d (tp_pos room))) ∧ 0 ≤ (tp_min N (tp_min d (tp_pos room))).toInt ∧ (tp_min N (tp_min d (tp_pos room))).toInt ≤ N.toInt := by
  have c0 : (0 : Int32).toInt = 0 := rfl
  have q0 : (tl_s1 N d).toInt = if d.toInt ≤ N.toInt then d.toInt else N.toInt := by
    unfold tl_s1
    by_cases h : d ≤ N
    · rw [if_pos h, if_pos (tm_le.mp h)]
    · rw [if_neg h, if_neg (fun q => h (tm_le.mpr q))]
  have q1 : (tl_s2 N d room).toInt = if (tl_s1 N d).toInt ≤ room.toInt then (tl_s1 N d).toInt else room.toInt := by
    unfold tl_s2
    by_cases h : tl_s1 N d ≤ room
    · rw [if_pos h, if_pos (tm_le.mp h)]
    · rw [if_neg h, if_neg (fun q => h (tm_le.mpr q))]
  have q2 := tm_minI N (tp_min d (tp_pos room))
  have q3 := tm_minI d (tp_pos room)
  have q4 := tm_posI room
  generalize (tl_s1 N d).toInt = S1 at q0 q1
  generalize (tp_pos room).toInt = P at q3 q4
  generalize hM : (tp_min d (tp_pos room)).toInt = M at q2 q3
  refine ⟨fun q => Int32.toInt_inj.mp ?_, fun q => Int32.toInt_inj.mp ?_, ?_, ?_⟩
  · rw [tm_le, q1] at q
    rw [q1, q2]
    (repeat' split at *) <;> omega
  · rw [tm_le, q1] at q
    rw [q2]
    (repeat' split at *) <;> omega
  · rw [q2]
    (repeat' split at *) <;> omega
  · rw [q2]
    (repeat' split at *) <;> omega
end
section
/-! THE LAW'S OWN RECKONING -/
def tl_shr (x y : Int32) : Int32 := x >>> (y &&& 31)
def tl_low (x : Int32) (k : Nat) : Nat := x.toBitVec.toNat % 2 ^ 31 % k
theorem tl_low_lt {x : Int32} {k : Nat} (h : 0 < k) : tl_low x k < k := Nat.mod_lt _ h
set_option maxHeartbeats 4000000 in
set_option maxRecDepth 100000 in
/-- low(v, n) -/
theorem lf_low (l : Launch) (D : va_G) (cy : Nat → ClassId) (n : Nat) (ad : Nat → Nat) (o : Int64) (I : Nat → Nat → Int32) (x : Int32) (k : Nat) (hk0 : 0 < k) (hk : k < 2 ^ 31) : tp_I l yL_low wsL_low (tp_rm 0 0) D cy n ad o [.int x, .int (nI k)] I (nI (tl_low x k)) (I) := by
  refine tp_ofI (lv := [(0, .int x), (1, .int (nI k))]) (by decide) rfl (Nat.le_of_ble_eq_true rfl) rfl (fun p e s m args below meth c A ls S0 => ?_)
  obtain ⟨hx, hb, hr, hml, hown, hts, hlocks, hA, hK, hP, hD, hS, hl⟩ := S0
  refine lv_iload_n hx hb dL_low_0 rfl (lv_at hl 0 rfl) ?_
  refine lv_ldc (v := 2147483647) hx hb hown (hts _ (List.mem_of_getElem? (i := 1) rfl)) dL_low_1 ?_
  refine lv_iand hx hb dL_low_3 ?_
  refine tp_eqi (y := (nI (x.toBitVec.toNat % 2 ^ 31))) (pk_and x 31 (by decide)) ?_
  refine lv_iload_n hx hb dL_low_4 rfl (lv_at hl 1 rfl) ?_
  refine lv_irem hx hb dL_low_5 (nI_ne0 hk0 hk) ?_
  refine tp_eqi (y := nI (tl_low x k)) (pk_rem (Nat.mod_lt _ (by decide)) hk0 hk) ?_
  exact tp_reti hx hb hr hlocks hK hP hD hS rfl rfl rfl dL_low_6
theorem tl_cA {cy : Nat → ClassId} {n : Nat} {ad : Nat → Nat} {I : Nat → Nat → Int32} {o : Int64} {h : Nat} (hh : h < 2) : tp_c cy n ad I o (5 + h) = .inl (cy 0, 48, .inl (I (5 + h))) := by
  rcases (show h = 0 ∨ h = 1 by omega) with rfl | rfl <;> rfl
theorem tl_cP {cy : Nat → ClassId} {n : Nat} {ad : Nat → Nat} {I : Nat → Nat → Int32} {o : Int64} {h : Nat} (hh : h < 2) : tp_c cy n ad I o (7 + h) = .inl (cy 0, 48, .inl (I (7 + h))) := by
  rcases (show h = 0 ∨ h = 1 by omega) with rfl | rfl <;> rfl
set_option maxHeartbeats 4000000 in
set_option maxRecDepth 100000 in
/-- fact(home, fact, month, f, v, q) -/
theorem lf_fact (l : Launch) (D : va_G) (cy : Nat → ClassId) (n : Nat) (ad : Nat → Nat) (o : Int64) (I : Nat → Nat → Int32) (h c0 : Nat) (hF : tq_F I h c0) (f0 m0 : Nat) (hf : f0 < 5) (hm : m0 < 48) : tp_I l yL_fact wsL_fact (tp_rm 0 0) D cy n ad o [.int (nI h), .int (nI f0), .int (nI m0), .ref (ad (3)), .ref (ad (4)), .ref (ad (2))] I (I (9 + 15 * h + 2 + f0) m0) (I) := by
  have hc64 := hF.1.2.1
  refine tp_ofI (lv := [(0, .int (nI h)), (1, .int (nI f0)), (2, .int (nI m0)), (3, .ref (ad (3))), (4, .ref (ad (4))), (5, .ref (ad (2)))]) (by decide) rfl (Nat.le_of_ble_eq_true rfl) rfl (fun p e s m args below meth c A ls S0 => ?_)
  obtain ⟨hx, hb, hr, hml, hown, hts, hlocks, hA, hK, hP, hD, hS, hl⟩ := S0
  refine tp_meetH (D := D) (cy := cy) (n := n) (ad := ad) (I := I) (o := o) (A := A) (H0 := s.heap) (tl_v0 f0 : Int32) (fun y => F0 m 9 ls (.int y :: [])) (fun hj9 => ?_) (fun H locs hP hD hS => ?_)
  · refine lv_iload_n hx hb dL_fact_0 rfl (lv_at hl 1 rfl) ?_
    refine lv_if_ne (tgt := 8) hx hb dL_fact_1 (by decide) (fun c1_1 => ?_) (fun c1_1 => ?_)
    · refine lv_iconst (v := 0) hx hb dL_fact_8 (by decide) ?_
      exact hj9 _ (by unfold tl_v0; rw [if_neg c1_1]) _ _ hP hD hS
    · refine lv_iconst (v := 1) hx hb dL_fact_4 (by decide) ?_
      refine lv_goto (tgt := 9) hx hb dL_fact_5 (by decide) ?_
      exact hj9 _ (by unfold tl_v0; rw [if_pos c1_1]) _ _ hP hD hS
  refine lv_istore (lv' := [(6, .int (tl_v0 f0)), (0, .int (nI h)), (1, .int (nI f0)), (2, .int (nI m0)), (3, .ref (ad (3))), (4, .ref (ad (4))), (5, .ref (ad (2)))]) hx hb dL_fact_9 hl (by decide) rfl (fun ls hl => ?_)
  refine lv_iconst (v := (-1)) hx hb dL_fact_11 (by decide) ?_
  refine lv_istore (lv' := [(7, .int ((-1))), (6, .int (tl_v0 f0)), (0, .int (nI h)), (1, .int (nI f0)), (2, .int (nI m0)), (3, .ref (ad (3))), (4, .ref (ad (4))), (5, .ref (ad (2)))]) hx hb dL_fact_12 hl (by decide) rfl (fun ls hl => ?_)
  refine lv_iconst (v := 0) hx hb dL_fact_14 (by decide) ?_
  refine lv_istore (lv' := [(8, .int 0), (7, .int ((-1))), (6, .int (tl_v0 f0)), (0, .int (nI h)), (1, .int (nI f0)), (2, .int (nI m0)), (3, .ref (ad (3))), (4, .ref (ad (4))), (5, .ref (ad (2)))]) hx hb dL_fact_15 hl (by decide) rfl (fun ls hl => ?_)
  have hl : lv_has ls 11 [(8, .int (nI 0)), (7, .int ((tl_scan I h f0 m0 0).2)), (6, .int ((tl_scan I h f0 m0 0).1)), (0, .int (nI h)), (1, .int (nI f0)), (2, .int (nI m0)), (3, .ref (ad (3))), (4, .ref (ad (4))), (5, .ref (ad (2)))] := hl
  refine tp_for (nL := 11) c0 (fun _ => I) (fun t => [(8, .int (nI t)), (7, .int ((tl_scan I h f0 m0 t).2)), (6, .int ((tl_scan I h f0 m0 t).1)), (0, .int (nI h)), (1, .int (nI f0)), (2, .int (nI m0)), (3, .ref (ad (3))), (4, .ref (ad (4))), (5, .ref (ad (2)))]) (fun t ht ls H locs hl hP hD hS ih => ?_) (fun ls H locs hl hP hD hS => ?_) hl hP hD hS
  · refine lv_iload hx hb dL_fact_17 (lv_at hl 0 rfl) ?_
    refine lv_aload hx hb dL_fact_19 (lv_at hl 8 rfl) ?_
    refine lv_iconst (v := 2) hx hb dL_fact_21 (by decide) ?_
    refine tp_iald hx hb hK hP (2) 12 (2) (by omega) rfl (by decide) (by decide) (by decide) dL_fact_22 ?_
    refine tp_eqi (y := nI c0) hF.1.2.2 ?_
    refine lv_icmp_ge (tgt := 115) hx hb dL_fact_23 (by decide) (fun c23_2 => ?_) (fun c23_2 => ?_)
    · exact absurd c23_2 (nI_ge (by omega) (by omega))
    · refine lv_aload_n hx hb dL_fact_26 rfl (lv_at hl 6 rfl) ?_
      refine lv_iload hx hb dL_fact_27 (lv_at hl 0 rfl) ?_
      refine tp_iald hx hb hK hP (3) 64 (t) (by omega) rfl rfl (by omega) (by decide) dL_fact_29 ?_
      refine lv_bipush (v := 16) hx hb dL_fact_30 (by decide) ?_
      refine lv_idiv hx hb dL_fact_32 (by decide) ?_
      refine lv_istore (lv' := [(9, .int ((I 3 t) / 16)), (8, .int (nI t)), (7, .int ((tl_scan I h f0 m0 t).2)), (6, .int ((tl_scan I h f0 m0 t).1)), (0, .int (nI h)), (1, .int (nI f0)), (2, .int (nI m0)), (3, .ref (ad (3))), (4, .ref (ad (4))), (5, .ref (ad (2)))]) hx hb dL_fact_33 hl (by decide) rfl (fun ls hl => ?_)
      refine tp_meetH (D := D) (cy := cy) (n := n) (ad := ad) (I := I) (o := o) (A := A) (H0 := s.heap) (tl_its I h f0 m0 t : Int32) (fun y => F0 m 62 ls (.int y :: [])) (fun hj62 => ?_) (fun H locs hP hD hS => ?_)
      · refine lv_aload_n hx hb dL_fact_35 rfl (lv_at hl 7 rfl) ?_
        refine lv_iload hx hb dL_fact_36 (lv_at hl 1 rfl) ?_
        refine tp_iald hx hb hK hP (3) 64 (t) (by omega) rfl rfl (by omega) (by decide) dL_fact_38 ?_
        refine lv_bipush (v := 16) hx hb dL_fact_39 (by decide) ?_
        refine lv_irem hx hb dL_fact_41 (by decide) ?_
        refine lv_bipush (v := 8) hx hb dL_fact_42 (by decide) ?_
        refine lv_iload_n hx hb dL_fact_44 rfl (lv_at hl 4 rfl) ?_
        refine lv_imul hx hb dL_fact_45 ?_
        refine tp_eqi (y := nI (8 * h)) (pk_mul 8 h) ?_
        refine lv_iload_n hx hb dL_fact_46 rfl (lv_at hl 5 rfl) ?_
        refine lv_iadd hx hb dL_fact_47 ?_
        refine tp_eqi (y := nI ((8 * h) + f0)) (nI_add (8 * h) f0) ?_
        refine lv_icmp_ne (tgt := 61) hx hb dL_fact_48 (by decide) (fun c48_3 => ?_) (fun c48_3 => ?_)
        · refine lv_iconst (v := 0) hx hb dL_fact_61 (by decide) ?_
          exact hj62 _ (by unfold tl_its; rw [if_neg c48_3]) _ _ hP hD hS
        · refine lv_iload hx hb dL_fact_51 (lv_at hl 0 rfl) ?_
          refine lv_iload_n hx hb dL_fact_53 rfl (lv_at hl 6 rfl) ?_
          refine lv_icmp_gt (tgt := 61) hx hb dL_fact_54 (by decide) (fun c54_4 => ?_) (fun c54_4 => ?_)
          · refine lv_iconst (v := 0) hx hb dL_fact_61 (by decide) ?_
            exact hj62 _ (by unfold tl_its; rw [if_pos c48_3, if_pos c54_4]) _ _ hP hD hS
          · refine lv_iconst (v := 1) hx hb dL_fact_57 (by decide) ?_
            refine lv_goto (tgt := 62) hx hb dL_fact_58 (by decide) ?_
            exact hj62 _ (by unfold tl_its; rw [if_pos c48_3, if_neg c54_4]) _ _ hP hD hS
      refine lv_istore (lv' := [(10, .int (tl_its I h f0 m0 t)), (9, .int ((I 3 t) / 16)), (8, .int (nI t)), (7, .int ((tl_scan I h f0 m0 t).2)), (6, .int ((tl_scan I h f0 m0 t).1)), (0, .int (nI h)), (1, .int (nI f0)), (2, .int (nI m0)), (3, .ref (ad (3))), (4, .ref (ad (4))), (5, .ref (ad (2)))]) hx hb dL_fact_62 hl (by decide) rfl (fun ls hl => ?_)
      refine tp_meetH (D := D) (cy := cy) (n := n) (ad := ad) (I := I) (o := o) (A := A) (H0 := s.heap) (if tl_its I h f0 m0 t = 0 then (tl_scan I h f0 m0 t).1 else if I 3 t / 16 < (tl_scan I h f0 m0 t).2 then (tl_scan I h f0 m0 t).1 else I 4 t : Int32) (fun y => F0 m 86 ls (.int y :: [])) (fun hj86 => ?_) (fun H locs hP hD hS => ?_)
      · refine lv_iload hx hb dL_fact_64 (lv_at hl 0 rfl) ?_
        refine lv_if_eq (tgt := 84) hx hb dL_fact_66 (by decide) (fun c66_5 => ?_) (fun c66_5 => ?_)
        · refine lv_iload hx hb dL_fact_84 (lv_at hl 4 rfl) ?_
          exact hj86 _ (by rw [if_pos c66_5]) _ _ hP hD hS
        · refine lv_iload hx hb dL_fact_69 (lv_at hl 1 rfl) ?_
          refine lv_iload hx hb dL_fact_71 (lv_at hl 3 rfl) ?_
          refine lv_icmp_lt (tgt := 84) hx hb dL_fact_73 (by decide) (fun c73_6 => ?_) (fun c73_6 => ?_)
          · refine lv_iload hx hb dL_fact_84 (lv_at hl 4 rfl) ?_
            exact hj86 _ (by rw [if_neg c66_5, if_pos c73_6]) _ _ hP hD hS
          · refine lv_aload hx hb dL_fact_76 (lv_at hl 9 rfl) ?_
            refine lv_iload hx hb dL_fact_78 (lv_at hl 2 rfl) ?_
            refine tp_iald hx hb hK hP (4) 64 (t) (by omega) rfl rfl (by omega) (by decide) dL_fact_80 ?_
            refine lv_goto (tgt := 86) hx hb dL_fact_81 (by decide) ?_
            exact hj86 _ (by rw [if_neg c66_5, if_neg c73_6]) _ _ hP hD hS
      refine lv_istore (lv' := [(6, .int (if tl_its I h f0 m0 t = 0 then (tl_scan I h f0 m0 t).1 else if I 3 t / 16 < (tl_scan I h f0 m0 t).2 then (tl_scan I h f0 m0 t).1 else I 4 t)), (10, .int (tl_its I h f0 m0 t)), (9, .int ((I 3 t) / 16)), (8, .int (nI t)), (7, .int ((tl_scan I h f0 m0 t).2)), (0, .int (nI h)), (1, .int (nI f0)), (2, .int (nI m0)), (3, .ref (ad (3))), (4, .ref (ad (4))), (5, .ref (ad (2)))]) hx hb dL_fact_86 hl (by decide) rfl (fun ls hl => ?_)
      refine tp_meetH (D := D) (cy := cy) (n := n) (ad := ad) (I := I) (o := o) (A := A) (H0 := s.heap) (if tl_its I h f0 m0 t = 0 then (tl_scan I h f0 m0 t).2 else if I 3 t / 16 ≤ (tl_scan I h f0 m0 t).2 then (tl_scan I h f0 m0 t).2 else I 3 t / 16 : Int32) (fun y => F0 m 107 ls (.int y :: [])) (fun hj107 => ?_) (fun H locs hP hD hS => ?_)
      · refine lv_iload hx hb dL_fact_88 (lv_at hl 1 rfl) ?_
        refine lv_if_eq (tgt := 105) hx hb dL_fact_90 (by decide) (fun c90_7 => ?_) (fun c90_7 => ?_)
        · refine lv_iload hx hb dL_fact_105 (lv_at hl 4 rfl) ?_
          exact hj107 _ (by rw [if_pos c90_7]) _ _ hP hD hS
        · refine lv_iload hx hb dL_fact_93 (lv_at hl 2 rfl) ?_
          refine lv_iload hx hb dL_fact_95 (lv_at hl 4 rfl) ?_
          refine lv_icmp_le (tgt := 105) hx hb dL_fact_97 (by decide) (fun c97_8 => ?_) (fun c97_8 => ?_)
          · refine lv_iload hx hb dL_fact_105 (lv_at hl 4 rfl) ?_
            exact hj107 _ (by rw [if_neg c90_7, if_pos c97_8]) _ _ hP hD hS
          · refine lv_iload hx hb dL_fact_100 (lv_at hl 2 rfl) ?_
            refine lv_goto (tgt := 107) hx hb dL_fact_102 (by decide) ?_
            exact hj107 _ (by rw [if_neg c90_7, if_neg c97_8]) _ _ hP hD hS
      refine lv_istore (lv' := [(7, .int (if tl_its I h f0 m0 t = 0 then (tl_scan I h f0 m0 t).2 else if I 3 t / 16 ≤ (tl_scan I h f0 m0 t).2 then (tl_scan I h f0 m0 t).2 else I 3 t / 16)), (6, .int (if tl_its I h f0 m0 t = 0 then (tl_scan I h f0 m0 t).1 else if I 3 t / 16 < (tl_scan I h f0 m0 t).2 then (tl_scan I h f0 m0 t).1 else I 4 t)), (10, .int (tl_its I h f0 m0 t)), (9, .int ((I 3 t) / 16)), (8, .int (nI t)), (0, .int (nI h)), (1, .int (nI f0)), (2, .int (nI m0)), (3, .ref (ad (3))), (4, .ref (ad (4))), (5, .ref (ad (2)))]) hx hb dL_fact_107 hl (by decide) rfl (fun ls hl => ?_)
      refine lv_iinc (v := (nI (t + 1))) (lv' := [(8, .int (nI (t + 1))), (7, .int (if tl_its I h f0 m0 t = 0 then (tl_scan I h f0 m0 t).2 else if I 3 t / 16 ≤ (tl_scan I h f0 m0 t).2 then (tl_scan I h f0 m0 t).2 else I 3 t / 16)), (6, .int (if tl_its I h f0 m0 t = 0 then (tl_scan I h f0 m0 t).1 else if I 3 t / 16 < (tl_scan I h f0 m0 t).2 then (tl_scan I h f0 m0 t).1 else I 4 t)), (10, .int (tl_its I h f0 m0 t)), (9, .int ((I 3 t) / 16)), (0, .int (nI h)), (1, .int (nI f0)), (2, .int (nI m0)), (3, .ref (ad (3))), (4, .ref (ad (4))), (5, .ref (ad (2)))]) hx hb dL_fact_109 hl (k := 4) rfl (nI_1 _) (by decide) rfl (fun ls hl => ?_)
      refine lv_goto (tgt := 17) hx hb dL_fact_112 (by decide) ?_
      exact ih ls H locs (lv_sub hl [0, 1, 2, 5, 6, 7, 8, 9, 10] rfl) hP hD hS
  · refine lv_iload hx hb dL_fact_17 (lv_at hl 0 rfl) ?_
    refine lv_aload hx hb dL_fact_19 (lv_at hl 8 rfl) ?_
    refine lv_iconst (v := 2) hx hb dL_fact_21 (by decide) ?_
    refine tp_iald hx hb hK hP (2) 12 (2) (by omega) rfl (by decide) (by decide) (by decide) dL_fact_22 ?_
    refine tp_eqi (y := nI c0) hF.1.2.2 ?_
    refine lv_icmp_ge (tgt := 115) hx hb dL_fact_23 (by decide) (fun c23_9 => ?_) (fun c23_9 => ?_)
    · refine lv_iload hx hb dL_fact_115 (lv_at hl 2 rfl) ?_
      exact tp_reti hx hb hr hlocks hK hP hD hS rfl (hF.2.2 f0 hf m0 hm).1.symm rfl dL_fact_117
    · exact absurd (nI_le (by omega) (by omega)) c23_9
set_option maxHeartbeats 4000000 in
set_option maxRecDepth 100000 in
/-- need(home, month, f, v, q) -/
theorem lf_need (l : Launch) (D : va_G) (cy : Nat → ClassId) (n : Nat) (ad : Nat → Nat) (o : Int64) (I : Nat → Nat → Int32) (h c0 : Nat) (hF : tq_F I h c0) (m0 : Nat) (hm : m0 < 48) : tp_I l yL_need wsL_need (tp_rm 1 30) D cy n ad o [.int (nI h), .int (nI m0), .ref (ad (3)), .ref (ad (4)), .ref (ad (2))] I (tp_need I (9 + 15 * h) m0) (I) := by
  have hxx := tq_fx hF (m := m0) hm
  refine tp_ofI (lv := [(0, .int (nI h)), (1, .int (nI m0)), (2, .ref (ad (3))), (3, .ref (ad (4))), (4, .ref (ad (2)))]) (by decide) rfl (Nat.le_of_ble_eq_true rfl) rfl (fun p e s m args below meth c A ls S0 => ?_)
  obtain ⟨hx, hb, hr, hml, hown, hts, hlocks, hA, hK, hP, hD, hS, hl⟩ := S0
  refine lv_iload_n hx hb dL_need_0 rfl (lv_at hl 0 rfl) ?_
  refine lv_iconst (v := 2) hx hb dL_need_1 (by decide) ?_
  refine lv_iload_n hx hb dL_need_2 rfl (lv_at hl 1 rfl) ?_
  refine lv_aload_n hx hb dL_need_3 rfl (lv_at hl 2 rfl) ?_
  refine lv_aload_n hx hb dL_need_4 rfl (lv_at hl 3 rfl) ?_
  refine lv_aload hx hb dL_need_5 (lv_at hl 4 rfl) ?_
  refine tp_callS ⟨hx, hb, hml, hown, hts⟩ (lf_fact l D cy n ad o I h c0 hF 2 m0 (by decide) (by omega)) (va_cwS 6 hts gL_need_L_fact rfl rfl rfl (by decide +kernel) ⟨Nat.le_of_ble_eq_true rfl, Nat.le_of_ble_eq_true rfl⟩) hK hP hD hS hA rfl hl.1 rfl (Nat.le_of_ble_eq_true rfl) dL_need_7 ⟨Nat.zero_le _, Nat.zero_le _⟩ (fun I9 e9 H locs hP hD hS => ?_)
  subst e9
  refine lv_istore (lv' := [(5, .int (I (9 + 15 * h + 2 + 2) m0)), (0, .int (nI h)), (1, .int (nI m0)), (2, .ref (ad (3))), (3, .ref (ad (4))), (4, .ref (ad (2)))]) hx hb dL_need_10 hl (by decide) rfl (fun ls hl => ?_)
  refine lv_sipush (v := 18000) hx hb dL_need_12 (by decide) ?_
  refine lv_sipush (v := 12000) hx hb dL_need_15 (by decide) ?_
  refine lv_iload_n hx hb dL_need_18 rfl (lv_at hl 1 rfl) ?_
  refine lv_iconst (v := 0) hx hb dL_need_19 (by decide) ?_
  refine lv_iload_n hx hb dL_need_20 rfl (lv_at hl 2 rfl) ?_
  refine lv_aload_n hx hb dL_need_21 rfl (lv_at hl 3 rfl) ?_
  refine lv_aload_n hx hb dL_need_22 rfl (lv_at hl 4 rfl) ?_
  refine lv_aload hx hb dL_need_23 (lv_at hl 5 rfl) ?_
  refine tp_callS ⟨hx, hb, hml, hown, hts⟩ (lf_fact l D cy n ad o I h c0 hF 0 m0 (by decide) (by omega)) (va_cwS 6 hts gL_need_L_fact rfl rfl rfl (by decide +kernel) ⟨Nat.le_of_ble_eq_true rfl, Nat.le_of_ble_eq_true rfl⟩) hK hP hD hS hA rfl hl.1 rfl (Nat.le_of_ble_eq_true rfl) dL_need_25 ⟨Nat.zero_le _, Nat.zero_le _⟩ (fun I9 e9 H locs hP hD hS => ?_)
  subst e9
  refine lv_imul hx hb dL_need_28 ?_
  refine lv_iadd hx hb dL_need_29 ?_
  refine lv_sipush (v := 8000) hx hb dL_need_30 (by decide) ?_
  refine lv_iload_n hx hb dL_need_33 rfl (lv_at hl 1 rfl) ?_
  refine lv_iconst (v := 1) hx hb dL_need_34 (by decide) ?_
  refine lv_iload_n hx hb dL_need_35 rfl (lv_at hl 2 rfl) ?_
  refine lv_aload_n hx hb dL_need_36 rfl (lv_at hl 3 rfl) ?_
  refine lv_aload_n hx hb dL_need_37 rfl (lv_at hl 4 rfl) ?_
  refine lv_aload hx hb dL_need_38 (lv_at hl 5 rfl) ?_
  refine tp_callS ⟨hx, hb, hml, hown, hts⟩ (lf_fact l D cy n ad o I h c0 hF 1 m0 (by decide) (by omega)) (va_cwS 6 hts gL_need_L_fact rfl rfl rfl (by decide +kernel) ⟨Nat.le_of_ble_eq_true rfl, Nat.le_of_ble_eq_true rfl⟩) hK hP hD hS hA rfl hl.1 rfl (Nat.le_of_ble_eq_true rfl) dL_need_40 ⟨Nat.zero_le _, Nat.zero_le _⟩ (fun I9 e9 H locs hP hD hS => ?_)
  subst e9
  refine lv_imul hx hb dL_need_43 ?_
  refine lv_iadd hx hb dL_need_44 ?_
  refine lv_iload hx hb dL_need_45 (lv_at hl 0 rfl) ?_
  refine lv_ldc (v := 60000) hx hb hown (hts _ (List.mem_of_getElem? (i := 1) rfl)) dL_need_47 ?_
  refine lv_icmp_le (tgt := 57) hx hb dL_need_49 (by decide) (fun c49_1 => ?_) (fun c49_1 => ?_)
  · refine lv_iload hx hb dL_need_57 (lv_at hl 0 rfl) ?_
    refine lv_iadd hx hb dL_need_59 ?_
    exact tp_reti hx hb hr hlocks hK hP hD hS rfl (by rw [← (tn_need hxx).1, if_pos c49_1]) rfl dL_need_60
  · refine lv_ldc (v := 60000) hx hb hown (hts _ (List.mem_of_getElem? (i := 1) rfl)) dL_need_52 ?_
    refine lv_goto (tgt := 59) hx hb dL_need_54 (by decide) ?_
    refine lv_iadd hx hb dL_need_59 ?_
    exact tp_reti hx hb hr hlocks hK hP hD hS rfl (by rw [← (tn_need hxx).1, if_neg c49_1]) rfl dL_need_60
set_option maxHeartbeats 4000000 in
set_option maxRecDepth 100000 in
/-- taper(home, month, f, v, q) -/
theorem lf_taper (l : Launch) (D : va_G) (cy : Nat → ClassId) (n : Nat) (ad : Nat → Nat) (o : Int64) (I : Nat → Nat → Int32) (h c0 : Nat) (hF : tq_F I h c0) (m0 : Nat) (hm : m0 < 48) : tp_I l yL_taper wsL_taper (tp_rm 1 30) D cy n ad o [.int (nI h), .int (nI m0), .ref (ad (3)), .ref (ad (4)), .ref (ad (2))] I (tp_taper I (9 + 15 * h) m0) (I) := by
  have hxx := tq_fx hF (m := m0) hm
  refine tp_ofI (lv := [(0, .int (nI h)), (1, .int (nI m0)), (2, .ref (ad (3))), (3, .ref (ad (4))), (4, .ref (ad (2)))]) (by decide) rfl (Nat.le_of_ble_eq_true rfl) rfl (fun p e s m args below meth c A ls S0 => ?_)
  obtain ⟨hx, hb, hr, hml, hown, hts, hlocks, hA, hK, hP, hD, hS, hl⟩ := S0
  refine lv_iload_n hx hb dL_taper_0 rfl (lv_at hl 0 rfl) ?_
  refine lv_iconst (v := 3) hx hb dL_taper_1 (by decide) ?_
  refine lv_iload_n hx hb dL_taper_2 rfl (lv_at hl 1 rfl) ?_
  refine lv_aload_n hx hb dL_taper_3 rfl (lv_at hl 2 rfl) ?_
  refine lv_aload_n hx hb dL_taper_4 rfl (lv_at hl 3 rfl) ?_
  refine lv_aload hx hb dL_taper_5 (lv_at hl 4 rfl) ?_
  refine tp_callS ⟨hx, hb, hml, hown, hts⟩ (lf_fact l D cy n ad o I h c0 hF 3 m0 (by decide) (by omega)) (va_cwS 6 hts gL_taper_L_fact rfl rfl rfl (by decide +kernel) ⟨Nat.le_of_ble_eq_true rfl, Nat.le_of_ble_eq_true rfl⟩) hK hP hD hS hA rfl hl.1 rfl (Nat.le_of_ble_eq_true rfl) dL_taper_7 ⟨Nat.zero_le _, Nat.zero_le _⟩ (fun I9 e9 H locs hP hD hS => ?_)
  subst e9
  refine lv_istore (lv' := [(5, .int (I (9 + 15 * h + 2 + 3) m0)), (0, .int (nI h)), (1, .int (nI m0)), (2, .ref (ad (3))), (3, .ref (ad (4))), (4, .ref (ad (2)))]) hx hb dL_taper_10 hl (by decide) rfl (fun ls hl => ?_)
  refine lv_iload hx hb dL_taper_12 (lv_at hl 0 rfl) ?_
  refine lv_sipush (v := 20000) hx hb dL_taper_14 (by decide) ?_
  refine lv_icmp_ge (tgt := 24) hx hb dL_taper_17 (by decide) (fun c17_1 => ?_) (fun c17_1 => ?_)
  · refine lv_iload hx hb dL_taper_24 (lv_at hl 0 rfl) ?_
    refine lv_i2l hx hb dL_taper_26 rfl ?_
    refine lv_ldc2 (v := 20000) hx hb hown (hts _ (List.mem_of_getElem? (i := 1) rfl)) dL_taper_27 ?_
    refine lv_lsub hx hb dL_taper_30 ?_
    refine lv_ldc2 (v := 3) hx hb hown (hts _ (List.mem_of_getElem? (i := 2) rfl)) dL_taper_31 ?_
    refine lv_lmul hx hb dL_taper_34 ?_
    refine lv_ldc2 (v := 5) hx hb hown (hts _ (List.mem_of_getElem? (i := 3) rfl)) dL_taper_35 ?_
    refine lv_ldiv hx hb dL_taper_38 (by decide) ?_
    refine lv_l2i hx hb dL_taper_39 rfl ?_
    exact tp_reti hx hb hr hlocks hK hP hD hS rfl (tn_taper1 hxx c17_1) rfl dL_taper_40
  · refine lv_iconst (v := 0) hx hb dL_taper_20 (by decide) ?_
    refine lv_goto (tgt := 40) hx hb dL_taper_21 (by decide) ?_
    exact tp_reti hx hb hr hlocks hK hP hD hS rfl (tn_taper0 hxx c17_1) rfl dL_taper_40
theorem tl_t1 (t : Nat) : nI (500 * t) + Int32.ofInt 500 = nI (500 * (t + 1)) := by
  rw [show Int32.ofInt 500 = nI 500 by decide, nI_add]
  exact congrArg nI (by omega)
theorem tl_t2 (s t : Nat) : nI s - nI (600000 + 25000 * t) + Int32.ofInt (-25000) = nI s - nI (600000 + 25000 * (t + 1)) := by
  rw [show nI (600000 + 25000 * (t + 1)) = nI (600000 + 25000 * t) + nI 25000 by rw [nI_add]; exact congrArg nI (by omega), show Int32.ofInt (-25000) = -nI 25000 by decide, Int32.sub_eq_add_neg, Int32.sub_eq_add_neg, Int32.neg_add, Int32.sub_eq_add_neg, Int32.add_assoc]
theorem tl_t3 {a b : Nat} (ha : a < 2 ^ 30) (hb : b < 2 ^ 30) : nI a - nI b ≤ 0 ↔ a ≤ b := by
  have c0 : (0 : Int32).toInt = 0 := rfl
  rw [tm_le, pk_sub_toInt ha hb, c0]
  omega
set_option maxHeartbeats 4000000 in
set_option maxRecDepth 100000 in
/-- tariff(home, month, f, v, q) -/
theorem lf_tariff (l : Launch) (D : va_G) (cy : Nat → ClassId) (n : Nat) (ad : Nat → Nat) (o : Int64) (I : Nat → Nat → Int32) (h c0 : Nat) (hF : tq_F I h c0) (m0 : Nat) (hm : m0 < 48) : tp_I l yL_tariff wsL_tariff (tp_rm 1 30) D cy n ad o [.int (nI h), .int (nI m0), .ref (ad (3)), .ref (ad (4)), .ref (ad (2))] I (tp_tariff I (9 + 15 * h) m0) (I) := by
  obtain ⟨s0, hs0, es0, et0⟩ := tn_tariff (tq_fx hF (m := m0) hm)
  refine tp_ofI (lv := [(0, .int (nI h)), (1, .int (nI m0)), (2, .ref (ad (3))), (3, .ref (ad (4))), (4, .ref (ad (2)))]) (by decide) rfl (Nat.le_of_ble_eq_true rfl) rfl (fun p e s m args below meth c A ls S0 => ?_)
  obtain ⟨hx, hb, hr, hml, hown, hts, hlocks, hA, hK, hP, hD, hS, hl⟩ := S0
  refine lv_iconst (v := 0) hx hb dL_tariff_0 (by decide) ?_
  refine lv_istore (lv' := [(5, .int 0), (0, .int (nI h)), (1, .int (nI m0)), (2, .ref (ad (3))), (3, .ref (ad (4))), (4, .ref (ad (2)))]) hx hb dL_tariff_1 hl (by decide) rfl (fun ls hl => ?_)
  refine lv_iload_n hx hb dL_tariff_3 rfl (lv_at hl 1 rfl) ?_
  refine lv_iconst (v := 4) hx hb dL_tariff_4 (by decide) ?_
  refine lv_iload_n hx hb dL_tariff_5 rfl (lv_at hl 2 rfl) ?_
  refine lv_aload_n hx hb dL_tariff_6 rfl (lv_at hl 3 rfl) ?_
  refine lv_aload_n hx hb dL_tariff_7 rfl (lv_at hl 4 rfl) ?_
  refine lv_aload hx hb dL_tariff_8 (lv_at hl 5 rfl) ?_
  refine tp_callS ⟨hx, hb, hml, hown, hts⟩ (lf_fact l D cy n ad o I h c0 hF 4 m0 (by decide) (by omega)) (va_cwS 6 hts gL_tariff_L_fact rfl rfl rfl (by decide +kernel) ⟨Nat.le_of_ble_eq_true rfl, Nat.le_of_ble_eq_true rfl⟩) hK hP hD hS hA rfl hl.1 rfl (Nat.le_of_ble_eq_true rfl) dL_tariff_10 ⟨Nat.zero_le _, Nat.zero_le _⟩ (fun I9 e9 H locs hP hD hS => ?_)
  subst e9
  refine tp_eqi (y := (nI s0)) es0 ?_
  refine lv_ldc (v := 600000) hx hb hown (hts _ (List.mem_of_getElem? (i := 1) rfl)) dL_tariff_13 ?_
  refine lv_isub hx hb dL_tariff_15 ?_
  refine lv_istore (lv' := [(6, .int ((nI s0) - 600000)), (5, .int 0), (0, .int (nI h)), (1, .int (nI m0)), (2, .ref (ad (3))), (3, .ref (ad (4))), (4, .ref (ad (2)))]) hx hb dL_tariff_16 hl (by decide) rfl (fun ls hl => ?_)
  have hl : lv_has ls 7 [(6, .int (nI s0 - nI (600000 + 25000 * 0))), (5, .int (nI (500 * 0))), (0, .int (nI h)), (1, .int (nI m0)), (2, .ref (ad (3))), (3, .ref (ad (4))), (4, .ref (ad (2)))] := hl
  refine tp_for (nL := 7) ((s0 - 600000 + 24999) / 25000) (fun _ => I) (fun t => [(6, .int (nI s0 - nI (600000 + 25000 * t))), (5, .int (nI (500 * t))), (0, .int (nI h)), (1, .int (nI m0)), (2, .ref (ad (3))), (3, .ref (ad (4))), (4, .ref (ad (2)))]) (fun t ht ls H locs hl hP hD hS ih => ?_) (fun ls H locs hl hP hD hS => ?_) hl hP hD hS
  · refine lv_iload hx hb dL_tariff_18 (lv_at hl 0 rfl) ?_
    refine lv_if_le (tgt := 38) hx hb dL_tariff_20 (by decide) (fun c20_1 => ?_) (fun c20_1 => ?_)
    · exact absurd ((tl_t3 (by omega) (by omega)).mp c20_1) (by omega)
    · refine lv_iincW (v := (nI (500 * (t + 1)))) (lv' := [(5, .int (nI (500 * (t + 1)))), (6, .int (nI s0 - nI (600000 + 25000 * t))), (0, .int (nI h)), (1, .int (nI m0)), (2, .ref (ad (3))), (3, .ref (ad (4))), (4, .ref (ad (2)))]) hx hb dL_tariff_23 hl (k := 1) rfl (tl_t1 t) (by decide) rfl (fun ls hl => ?_)
      refine lv_iincW (v := (nI s0 - nI (600000 + 25000 * (t + 1)))) (lv' := [(6, .int (nI s0 - nI (600000 + 25000 * (t + 1)))), (5, .int (nI (500 * (t + 1)))), (0, .int (nI h)), (1, .int (nI m0)), (2, .ref (ad (3))), (3, .ref (ad (4))), (4, .ref (ad (2)))]) hx hb dL_tariff_29 hl (k := 1) rfl (tl_t2 s0 t) (by decide) rfl (fun ls hl => ?_)
      refine lv_goto (tgt := 18) hx hb dL_tariff_35 (by decide) ?_
      exact ih ls H locs (lv_sub hl [0, 1, 2, 3, 4, 5, 6] rfl) hP hD hS
  · refine lv_iload hx hb dL_tariff_18 (lv_at hl 0 rfl) ?_
    refine lv_if_le (tgt := 38) hx hb dL_tariff_20 (by decide) (fun c20_2 => ?_) (fun c20_2 => ?_)
    · refine lv_iload hx hb dL_tariff_38 (lv_at hl 1 rfl) ?_
      exact tp_reti hx hb hr hlocks hK hP hD hS rfl et0.symm rfl dL_tariff_40
    · exact absurd ((tl_t3 (by omega) (by omega)).mpr (by omega)) c20_2
set_option maxHeartbeats 4000000 in
set_option maxRecDepth 100000 in
/-- due(home, month, f, v, q) -/
theorem lf_due (l : Launch) (D : va_G) (cy : Nat → ClassId) (n : Nat) (ad : Nat → Nat) (o : Int64) (I : Nat → Nat → Int32) (h c0 : Nat) (hF : tq_F I h c0) (m0 : Nat) (hm : m0 < 48) : tp_I l yL_due wsL_due (tp_rm 2 56) D cy n ad o [.int (nI h), .int (nI m0), .ref (ad (3)), .ref (ad (4)), .ref (ad (2))] I (tp_due I (9 + 15 * h) m0) (I) := by
  refine tp_ofI (lv := [(0, .int (nI h)), (1, .int (nI m0)), (2, .ref (ad (3))), (3, .ref (ad (4))), (4, .ref (ad (2)))]) (by decide) rfl (Nat.le_of_ble_eq_true rfl) rfl (fun p e s m args below meth c A ls S0 => ?_)
  obtain ⟨hx, hb, hr, hml, hown, hts, hlocks, hA, hK, hP, hD, hS, hl⟩ := S0
  refine lv_iload_n hx hb dL_due_0 rfl (lv_at hl 0 rfl) ?_
  refine lv_iload_n hx hb dL_due_1 rfl (lv_at hl 1 rfl) ?_
  refine lv_aload_n hx hb dL_due_2 rfl (lv_at hl 2 rfl) ?_
  refine lv_aload_n hx hb dL_due_3 rfl (lv_at hl 3 rfl) ?_
  refine lv_aload hx hb dL_due_4 (lv_at hl 4 rfl) ?_
  refine tp_callS ⟨hx, hb, hml, hown, hts⟩ (lf_need l D cy n ad o I h c0 hF m0 (by omega)) (va_cwS 5 hts gL_due_L_need rfl rfl rfl (by decide +kernel) ⟨Nat.le_of_ble_eq_true rfl, Nat.le_of_ble_eq_true rfl⟩) hK hP hD hS hA rfl hl.1 rfl (Nat.le_of_ble_eq_true rfl) dL_due_6 ⟨Nat.zero_le _, Nat.zero_le _⟩ (fun I9 e9 H locs hP hD hS => ?_)
  subst e9
  refine lv_iload_n hx hb dL_due_9 rfl (lv_at hl 0 rfl) ?_
  refine lv_iload_n hx hb dL_due_10 rfl (lv_at hl 1 rfl) ?_
  refine lv_aload_n hx hb dL_due_11 rfl (lv_at hl 2 rfl) ?_
  refine lv_aload_n hx hb dL_due_12 rfl (lv_at hl 3 rfl) ?_
  refine lv_aload hx hb dL_due_13 (lv_at hl 4 rfl) ?_
  refine tp_callS ⟨hx, hb, hml, hown, hts⟩ (lf_taper l D cy n ad o I h c0 hF m0 (by omega)) (va_cwS 5 hts gL_due_L_taper rfl rfl rfl (by decide +kernel) ⟨Nat.le_of_ble_eq_true rfl, Nat.le_of_ble_eq_true rfl⟩) hK hP hD hS hA rfl hl.1 rfl (Nat.le_of_ble_eq_true rfl) dL_due_15 ⟨Nat.zero_le _, Nat.zero_le _⟩ (fun I9 e9 H locs hP hD hS => ?_)
  subst e9
  refine lv_isub hx hb dL_due_18 ?_
  refine lv_iload_n hx hb dL_due_19 rfl (lv_at hl 0 rfl) ?_
  refine lv_iload_n hx hb dL_due_20 rfl (lv_at hl 1 rfl) ?_
  refine lv_aload_n hx hb dL_due_21 rfl (lv_at hl 2 rfl) ?_
  refine lv_aload_n hx hb dL_due_22 rfl (lv_at hl 3 rfl) ?_
  refine lv_aload hx hb dL_due_23 (lv_at hl 4 rfl) ?_
  refine tp_callS ⟨hx, hb, hml, hown, hts⟩ (lf_tariff l D cy n ad o I h c0 hF m0 (by omega)) (va_cwS 5 hts gL_due_L_tariff rfl rfl rfl (by decide +kernel) ⟨Nat.le_of_ble_eq_true rfl, Nat.le_of_ble_eq_true rfl⟩) hK hP hD hS hA rfl hl.1 rfl (Nat.le_of_ble_eq_true rfl) dL_due_25 ⟨Nat.zero_le _, Nat.zero_le _⟩ (fun I9 e9 H locs hP hD hS => ?_)
  subst e9
  refine lv_isub hx hb dL_due_28 ?_
  refine lv_istore (lv' := [(5, .int (((tp_need I (9 + 15 * h) m0) - (tp_taper I (9 + 15 * h) m0)) - (tp_tariff I (9 + 15 * h) m0))), (0, .int (nI h)), (1, .int (nI m0)), (2, .ref (ad (3))), (3, .ref (ad (4))), (4, .ref (ad (2)))]) hx hb dL_due_29 hl (by decide) rfl (fun ls hl => ?_)
  refine lv_iload_n hx hb dL_due_31 rfl (lv_at hl 1 rfl) ?_
  refine lv_iconst (v := 4) hx hb dL_due_32 (by decide) ?_
  refine lv_iload_n hx hb dL_due_33 rfl (lv_at hl 2 rfl) ?_
  refine lv_aload_n hx hb dL_due_34 rfl (lv_at hl 3 rfl) ?_
  refine lv_aload_n hx hb dL_due_35 rfl (lv_at hl 4 rfl) ?_
  refine lv_aload hx hb dL_due_36 (lv_at hl 5 rfl) ?_
  refine tp_callS ⟨hx, hb, hml, hown, hts⟩ (lf_fact l D cy n ad o I h c0 hF 4 m0 (by decide) (by omega)) (va_cwS 6 hts gL_due_L_fact rfl rfl rfl (by decide +kernel) ⟨Nat.le_of_ble_eq_true rfl, Nat.le_of_ble_eq_true rfl⟩) hK hP hD hS hA rfl hl.1 rfl (Nat.le_of_ble_eq_true rfl) dL_due_38 ⟨Nat.zero_le _, Nat.zero_le _⟩ (fun I9 e9 H locs hP hD hS => ?_)
  subst e9
  refine lv_ldc (v := 1600000) hx hb hown (hts _ (List.mem_of_getElem? (i := 1) rfl)) dL_due_41 ?_
  refine lv_icmp_gt (tgt := 54) hx hb dL_due_43 (by decide) (fun c43_1 => ?_) (fun c43_1 => ?_)
  · refine lv_iconst (v := 0) hx hb dL_due_54 (by decide) ?_
    refine lv_goto (tgt := 60) hx hb dL_due_55 (by decide) ?_
    exact tp_reti hx hb hr hlocks hK hP hD hS rfl (by unfold tp_due; rw [if_neg (tm_nle c43_1)]) rfl dL_due_60
  · refine lv_iload hx hb dL_due_46 (lv_at hl 0 rfl) ?_
    refine lv_sipush (v := 500) hx hb dL_due_48 (by decide) ?_
    refine lv_icmp_ge (tgt := 58) hx hb dL_due_51 (by decide) (fun c51_2 => ?_) (fun c51_2 => ?_)
    · refine lv_iload hx hb dL_due_58 (lv_at hl 0 rfl) ?_
      exact tp_reti hx hb hr hlocks hK hP hD hS rfl (by unfold tp_due; rw [if_pos (tm_ge c43_1), if_pos c51_2]) rfl dL_due_60
    · refine lv_iconst (v := 0) hx hb dL_due_54 (by decide) ?_
      refine lv_goto (tgt := 60) hx hb dL_due_55 (by decide) ?_
      exact tp_reti hx hb hr hlocks hK hP hD hS rfl (by unfold tp_due; rw [if_pos (tm_ge c43_1), if_neg c51_2]) rfl dL_due_60
set_option maxHeartbeats 4000000 in
set_option maxRecDepth 100000 in
/-- open(home, f, v, a, q) -/
theorem lf_open (l : Launch) (D : va_G) (cy : Nat → ClassId) (n : Nat) (ad : Nat → Nat) (o : Int64) (I : Nat → Nat → Int32) (h c0 : Nat) (hF : tq_F I h c0) (e0 a0 : Nat) (hB : tq_B I h e0 a0) : tp_I l yL_open wsL_open (tp_rm 3 81) D cy n ad o [.int (nI h), .ref (ad (3)), .ref (ad (4)), .ref (ad (5 + h)), .ref (ad (2))] I (tp_open I (9 + 15 * h) a0 e0) (I) := by
  obtain ⟨⟨hh, ha8, he8, he, ha⟩, hA13, hd6, hd7, hd8, hd01, hd0, hdm⟩ := id hB
  refine tp_ofI (lv := [(0, .int (nI h)), (1, .ref (ad (3))), (2, .ref (ad (4))), (3, .ref (ad (5 + h))), (4, .ref (ad (2)))]) (by decide) rfl (Nat.le_of_ble_eq_true rfl) rfl (fun p e s m args below meth c A ls S0 => ?_)
  obtain ⟨hx, hb, hr, hml, hown, hts, hlocks, hA, hK, hP, hD, hS, hl⟩ := S0
  refine lv_iconst (v := 0) hx hb dL_open_0 (by decide) ?_
  refine lv_istore (lv' := [(5, .int 0), (0, .int (nI h)), (1, .ref (ad (3))), (2, .ref (ad (4))), (3, .ref (ad (5 + h))), (4, .ref (ad (2)))]) hx hb dL_open_1 hl (by decide) rfl (fun ls hl => ?_)
  refine lv_aload hx hb dL_open_3 (lv_at hl 5 rfl) ?_
  refine lv_iconst (v := 4) hx hb dL_open_5 (by decide) ?_
  refine lv_iload_n hx hb dL_open_6 rfl (lv_at hl 1 rfl) ?_
  refine lv_iadd hx hb dL_open_7 ?_
  refine tp_eqi (y := nI (4 + h)) (nI_add 4 h) ?_
  refine tp_iald hx hb hK hP (2) 12 ((4 + h)) (by omega) rfl rfl (by omega) (by decide) dL_open_8 ?_
  refine tp_eqi (y := nI a0) ha ?_
  refine lv_istore (lv' := [(6, .int (nI a0)), (5, .int 0), (0, .int (nI h)), (1, .ref (ad (3))), (2, .ref (ad (4))), (3, .ref (ad (5 + h))), (4, .ref (ad (2)))]) hx hb dL_open_9 hl (by decide) rfl (fun ls hl => ?_)
  have hl : lv_has ls 7 [(6, .int (nI (a0 + 0))), (5, .int (tp_sum (fun m => tp_due I (9 + 15 * h) m - I (9 + 15 * h + 13) m) a0 0)), (0, .int (nI h)), (1, .ref (ad (3))), (2, .ref (ad (4))), (3, .ref (ad (5 + h))), (4, .ref (ad (2)))] := hl
  refine tp_for (nL := 7) (e0 - a0) (fun _ => I) (fun t => [(6, .int (nI (a0 + t))), (5, .int (tp_sum (fun m => tp_due I (9 + 15 * h) m - I (9 + 15 * h + 13) m) a0 t)), (0, .int (nI h)), (1, .ref (ad (3))), (2, .ref (ad (4))), (3, .ref (ad (5 + h))), (4, .ref (ad (2)))]) (fun t ht ls H locs hl hP hD hS ih => ?_) (fun ls H locs hl hP hD hS => ?_) hl hP hD hS
  · refine lv_iload hx hb dL_open_11 (lv_at hl 0 rfl) ?_
    refine lv_aload hx hb dL_open_13 (lv_at hl 6 rfl) ?_
    refine lv_iconst (v := 0) hx hb dL_open_15 (by decide) ?_
    refine tp_iald hx hb hK hP (2) 12 (0) (by omega) rfl (by decide) (by decide) (by decide) dL_open_16 ?_
    refine tp_eqi (y := nI e0) he ?_
    refine lv_icmp_ge (tgt := 46) hx hb dL_open_17 (by decide) (fun c17_1 => ?_) (fun c17_1 => ?_)
    · exact absurd c17_1 (nI_ge (by omega) (by omega))
    · refine lv_iload hx hb dL_open_20 (lv_at hl 1 rfl) ?_
      refine lv_iload_n hx hb dL_open_22 rfl (lv_at hl 2 rfl) ?_
      refine lv_iload hx hb dL_open_23 (lv_at hl 0 rfl) ?_
      refine lv_aload_n hx hb dL_open_25 rfl (lv_at hl 3 rfl) ?_
      refine lv_aload_n hx hb dL_open_26 rfl (lv_at hl 4 rfl) ?_
      refine lv_aload hx hb dL_open_27 (lv_at hl 6 rfl) ?_
      refine tp_callS ⟨hx, hb, hml, hown, hts⟩ (lf_due l D cy n ad o I h c0 hF (a0 + t) (by omega)) (va_cwS 5 hts gL_open_L_due rfl rfl rfl (by decide +kernel) ⟨Nat.le_of_ble_eq_true rfl, Nat.le_of_ble_eq_true rfl⟩) hK hP hD hS hA rfl hl.1 rfl (Nat.le_of_ble_eq_true rfl) dL_open_29 ⟨Nat.zero_le _, Nat.zero_le _⟩ (fun I9 e9 H locs hP hD hS => ?_)
      subst e9
      refine lv_aload_n hx hb dL_open_32 rfl (lv_at hl 5 rfl) ?_
      refine lv_iload hx hb dL_open_33 (lv_at hl 0 rfl) ?_
      refine tp_iald hx hb hK hP (5 + h) 48 ((a0 + t)) (by omega) (tl_cA hh) rfl (by omega) (by decide) dL_open_35 ?_
      refine tp_eqi (y := (I (9 + 15 * h + 13) (a0 + t))) (hA13 (a0 + t) (by omega)).1.symm ?_
      refine lv_isub hx hb dL_open_36 ?_
      refine lv_iadd hx hb dL_open_37 ?_
      refine lv_istore (lv' := [(5, .int ((tp_sum (fun m => tp_due I (9 + 15 * h) m - I (9 + 15 * h + 13) m) a0 t) + ((tp_due I (9 + 15 * h) (a0 + t)) - (I (9 + 15 * h + 13) (a0 + t))))), (6, .int (nI (a0 + t))), (0, .int (nI h)), (1, .ref (ad (3))), (2, .ref (ad (4))), (3, .ref (ad (5 + h))), (4, .ref (ad (2)))]) hx hb dL_open_38 hl (by decide) rfl (fun ls hl => ?_)
      refine lv_iinc (v := (nI ((a0 + t) + 1))) (lv' := [(6, .int (nI ((a0 + t) + 1))), (5, .int ((tp_sum (fun m => tp_due I (9 + 15 * h) m - I (9 + 15 * h + 13) m) a0 t) + ((tp_due I (9 + 15 * h) (a0 + t)) - (I (9 + 15 * h + 13) (a0 + t))))), (0, .int (nI h)), (1, .ref (ad (3))), (2, .ref (ad (4))), (3, .ref (ad (5 + h))), (4, .ref (ad (2)))]) hx hb dL_open_40 hl (k := 1) rfl (nI_1 _) (by decide) rfl (fun ls hl => ?_)
      refine lv_goto (tgt := 11) hx hb dL_open_43 (by decide) ?_
      exact ih ls H locs (lv_sub hl [0, 1, 2, 3, 4, 5, 6] rfl) hP hD hS
  · refine lv_iload hx hb dL_open_11 (lv_at hl 0 rfl) ?_
    refine lv_aload hx hb dL_open_13 (lv_at hl 6 rfl) ?_
    refine lv_iconst (v := 0) hx hb dL_open_15 (by decide) ?_
    refine tp_iald hx hb hK hP (2) 12 (0) (by omega) rfl (by decide) (by decide) (by decide) dL_open_16 ?_
    refine tp_eqi (y := nI e0) he ?_
    refine lv_icmp_ge (tgt := 46) hx hb dL_open_17 (by decide) (fun c17_2 => ?_) (fun c17_2 => ?_)
    · refine lv_iload hx hb dL_open_46 (lv_at hl 1 rfl) ?_
      exact tp_reti hx hb hr hlocks hK hP hD hS rfl rfl rfl dL_open_48
    · exact absurd (nI_le (by omega) (by omega)) c17_2
set_option maxHeartbeats 4000000 in
set_option maxRecDepth 100000 in
/-- recovers(home, debt, award, f, v, q) -/
theorem lf_recovers (l : Launch) (D : va_G) (cy : Nat → ClassId) (n : Nat) (ad : Nat → Nat) (o : Int64) (I : Nat → Nat → Int32) (h c0 : Nat) (hF : tq_F I h c0) (e0 a0 : Nat) (hB : tq_B I h e0 a0) (he48 : e0 < 48) (x : Int32) (hx0 : 0 ≤ x.toInt) : tp_I l yL_recovers wsL_recovers (tp_rm 1 30) D cy n ad o [.int (nI h), .int x, .int (tp_due I (9 + 15 * h) e0), .ref (ad (3)), .ref (ad (4)), .ref (ad (2))] I (tp_rec I (9 + 15 * h) e0 x) (I) := by
  obtain ⟨⟨hh, ha8, he8, he, ha⟩, hA13, hd6, hd7, hd8, hd01, hd0, hdm⟩ := id hB
  obtain ⟨k0, hk0, ek0⟩ := tq_dueN hF (m := e0) he48
  have e15 : tp_due I (9 + 15 * h) e0 * 3 / 20 = tp_due I (9 + 15 * h) e0 * 15 / 100 := by rw [ek0]; exact (tn_15 hk0).1
  have h15 : 0 ≤ (tp_due I (9 + 15 * h) e0 * 15 / 100).toInt := by rw [ek0]; exact (tn_15 hk0).2
  refine tp_ofI (lv := [(0, .int (nI h)), (1, .int x), (2, .int (tp_due I (9 + 15 * h) e0)), (3, .ref (ad (3))), (4, .ref (ad (4))), (5, .ref (ad (2)))]) (by decide) rfl (Nat.le_of_ble_eq_true rfl) rfl (fun p e s m args below meth c A ls S0 => ?_)
  obtain ⟨hx, hb, hr, hml, hown, hts, hlocks, hA, hK, hP, hD, hS, hl⟩ := S0
  refine lv_iload_n hx hb dL_recovers_0 rfl (lv_at hl 2 rfl) ?_
  refine lv_iconst (v := 3) hx hb dL_recovers_1 (by decide) ?_
  refine lv_imul hx hb dL_recovers_2 ?_
  refine lv_bipush (v := 20) hx hb dL_recovers_3 (by decide) ?_
  refine lv_idiv hx hb dL_recovers_5 (by decide) ?_
  refine tp_eqi (y := (tp_due I (9 + 15 * h) e0 * 15 / 100)) e15 ?_
  refine lv_istore (lv' := [(6, .int (tp_due I (9 + 15 * h) e0 * 15 / 100)), (0, .int (nI h)), (1, .int x), (2, .int (tp_due I (9 + 15 * h) e0)), (3, .ref (ad (3))), (4, .ref (ad (4))), (5, .ref (ad (2)))]) hx hb dL_recovers_6 hl (by decide) rfl (fun ls hl => ?_)
  refine lv_iload_n hx hb dL_recovers_8 rfl (lv_at hl 3 rfl) ?_
  refine lv_iload_n hx hb dL_recovers_9 rfl (lv_at hl 1 rfl) ?_
  refine lv_iconst (v := 3) hx hb dL_recovers_10 (by decide) ?_
  refine lv_aload hx hb dL_recovers_11 (lv_at hl 6 rfl) ?_
  refine lv_iconst (v := 0) hx hb dL_recovers_13 (by decide) ?_
  refine tp_iald hx hb hK hP (2) 12 (0) (by omega) rfl (by decide) (by decide) (by decide) dL_recovers_14 ?_
  refine tp_eqi (y := nI e0) he ?_
  refine lv_aload_n hx hb dL_recovers_15 rfl (lv_at hl 4 rfl) ?_
  refine lv_aload hx hb dL_recovers_16 (lv_at hl 5 rfl) ?_
  refine lv_aload hx hb dL_recovers_18 (lv_at hl 6 rfl) ?_
  refine tp_callS ⟨hx, hb, hml, hown, hts⟩ (lf_fact l D cy n ad o I h c0 hF 3 e0 (by decide) (by omega)) (va_cwS 6 hts gL_recovers_L_fact rfl rfl rfl (by decide +kernel) ⟨Nat.le_of_ble_eq_true rfl, Nat.le_of_ble_eq_true rfl⟩) hK hP hD hS hA rfl hl.1 rfl (Nat.le_of_ble_eq_true rfl) dL_recovers_20 ⟨Nat.zero_le _, Nat.zero_le _⟩ (fun I9 e9 H locs hP hD hS => ?_)
  subst e9
  refine lv_iadd hx hb dL_recovers_23 ?_
  refine lv_sipush (v := 25000) hx hb dL_recovers_24 (by decide) ?_
  refine lv_isub hx hb dL_recovers_27 ?_
  refine lv_istore (lv' := [(7, .int (((tp_due I (9 + 15 * h) e0) + (I (9 + 15 * h + 2 + 3) e0)) - 25000)), (6, .int (tp_due I (9 + 15 * h) e0 * 15 / 100)), (0, .int (nI h)), (1, .int x), (2, .int (tp_due I (9 + 15 * h) e0)), (3, .ref (ad (3))), (4, .ref (ad (4))), (5, .ref (ad (2)))]) hx hb dL_recovers_28 hl (by decide) rfl (fun ls hl => ?_)
  refine tp_meetH (D := D) (cy := cy) (n := n) (ad := ad) (I := I) (o := o) (A := A) (H0 := s.heap) (tl_s1 x (tp_due I (9 + 15 * h) e0 * 15 / 100) : Int32) (fun y => F0 m 42 ls (.int y :: [])) (fun hj42 => ?_) (fun H locs hP hD hS => ?_)
  · refine lv_iload_n hx hb dL_recovers_30 rfl (lv_at hl 3 rfl) ?_
    refine lv_iload hx hb dL_recovers_31 (lv_at hl 1 rfl) ?_
    refine lv_icmp_ge (tgt := 40) hx hb dL_recovers_33 (by decide) (fun c33_1 => ?_) (fun c33_1 => ?_)
    · refine lv_iload hx hb dL_recovers_40 (lv_at hl 1 rfl) ?_
      exact hj42 _ (by unfold tl_s1; rw [if_pos c33_1]) _ _ hP hD hS
    · refine lv_iload_n hx hb dL_recovers_36 rfl (lv_at hl 3 rfl) ?_
      refine lv_goto (tgt := 42) hx hb dL_recovers_37 (by decide) ?_
      exact hj42 _ (by unfold tl_s1; rw [if_neg c33_1]) _ _ hP hD hS
  refine lv_istore (lv' := [(8, .int (tl_s1 x (tp_due I (9 + 15 * h) e0 * 15 / 100))), (7, .int (((tp_due I (9 + 15 * h) e0) + (I (9 + 15 * h + 2 + 3) e0)) - 25000)), (6, .int (tp_due I (9 + 15 * h) e0 * 15 / 100)), (0, .int (nI h)), (1, .int x), (2, .int (tp_due I (9 + 15 * h) e0)), (3, .ref (ad (3))), (4, .ref (ad (4))), (5, .ref (ad (2)))]) hx hb dL_recovers_42 hl (by decide) rfl (fun ls hl => ?_)
  refine tp_meetH (D := D) (cy := cy) (n := n) (ad := ad) (I := I) (o := o) (A := A) (H0 := s.heap) (tl_s2 x (tp_due I (9 + 15 * h) e0 * 15 / 100) (tp_due I (9 + 15 * h) e0 + I (9 + 15 * h + 2 + 3) e0 - 25000) : Int32) (fun y => F0 m 58 ls (.int y :: [])) (fun hj58 => ?_) (fun H locs hP hD hS => ?_)
  · refine lv_iload hx hb dL_recovers_44 (lv_at hl 1 rfl) ?_
    refine lv_iload hx hb dL_recovers_46 (lv_at hl 0 rfl) ?_
    refine lv_icmp_ge (tgt := 56) hx hb dL_recovers_48 (by decide) (fun c48_2 => ?_) (fun c48_2 => ?_)
    · refine lv_iload hx hb dL_recovers_56 (lv_at hl 0 rfl) ?_
      exact hj58 _ (by unfold tl_s2; rw [if_pos c48_2]) _ _ hP hD hS
    · refine lv_iload hx hb dL_recovers_51 (lv_at hl 1 rfl) ?_
      refine lv_goto (tgt := 58) hx hb dL_recovers_53 (by decide) ?_
      exact hj58 _ (by unfold tl_s2; rw [if_neg c48_2]) _ _ hP hD hS
  refine lv_istore (lv' := [(8, .int (tl_s2 x (tp_due I (9 + 15 * h) e0 * 15 / 100) (tp_due I (9 + 15 * h) e0 + I (9 + 15 * h + 2 + 3) e0 - 25000))), (7, .int (((tp_due I (9 + 15 * h) e0) + (I (9 + 15 * h + 2 + 3) e0)) - 25000)), (6, .int (tp_due I (9 + 15 * h) e0 * 15 / 100)), (0, .int (nI h)), (1, .int x), (2, .int (tp_due I (9 + 15 * h) e0)), (3, .ref (ad (3))), (4, .ref (ad (4))), (5, .ref (ad (2)))]) hx hb dL_recovers_58 hl (by decide) rfl (fun ls hl => ?_)
  refine lv_aload hx hb dL_recovers_60 (lv_at hl 8 rfl) ?_
  refine lv_bipush (v := 10) hx hb dL_recovers_62 (by decide) ?_
  refine lv_iload_n hx hb dL_recovers_64 rfl (lv_at hl 3 rfl) ?_
  refine lv_iadd hx hb dL_recovers_65 ?_
  refine tp_eqi (y := nI (10 + h)) (nI_add 10 h) ?_
  refine tp_iald hx hb hK hP (2) 12 ((10 + h)) (by omega) rfl rfl (by omega) (by decide) dL_recovers_66 ?_
  refine lv_iconst (v := 1) hx hb dL_recovers_67 (by decide) ?_
  refine lv_icmp_eq (tgt := 76) hx hb dL_recovers_68 (by decide) (fun c68_3 => ?_) (fun c68_3 => ?_)
  · refine lv_iconst (v := 0) hx hb dL_recovers_76 (by decide) ?_
    refine lv_goto (tgt := 82) hx hb dL_recovers_77 (by decide) ?_
    exact tp_reti hx hb hr hlocks hK hP hD hS rfl (by unfold tp_rec; rw [hd8, if_neg (by rw [c68_3]; decide)]) rfl dL_recovers_82
  · refine lv_iload hx hb dL_recovers_71 (lv_at hl 0 rfl) ?_
    refine lv_if_ge (tgt := 80) hx hb dL_recovers_73 (by decide) (fun c73_4 => ?_) (fun c73_4 => ?_)
    · refine lv_iload hx hb dL_recovers_80 (lv_at hl 0 rfl) ?_
      exact tp_reti hx hb hr hlocks hK hP hD hS rfl (by unfold tp_rec; rw [hd8, if_pos (hd01.resolve_right c68_3)]; exact (tn_rec hx0 h15).1 c73_4) rfl dL_recovers_82
    · refine lv_iconst (v := 0) hx hb dL_recovers_76 (by decide) ?_
      refine lv_goto (tgt := 82) hx hb dL_recovers_77 (by decide) ?_
      exact tp_reti hx hb hr hlocks hK hP hD hS rfl (by unfold tp_rec; rw [hd8, if_pos (hd01.resolve_right c68_3)]; exact (tn_rec hx0 h15).2.1 c73_4) rfl dL_recovers_82
set_option maxHeartbeats 4000000 in
set_option maxRecDepth 100000 in
/-- debtThen(home, d, q) -/
theorem lf_debtThen (l : Launch) (D : va_G) (cy : Nat → ClassId) (n : Nat) (ad : Nat → Nat) (o : Int64) (I : Nat → Nat → Int32) (h e0 a0 : Nat) (hB : tq_B I h e0 a0) (x : Int32) (hx3 : -8352000 ≤ x.toInt) (hx4 : x.toInt ≤ 8352000) : tp_I l yL_debtThen wsL_debtThen (tp_rm 0 0) D cy n ad o [.int (nI h), .int x, .ref (ad (2))] I (tp_owed I (9 + 15 * h) x) (I) := by
  obtain ⟨⟨hh, ha8, he8, he, ha⟩, hA13, hd6, hd7, hd8, hd01, hd0, hdm⟩ := id hB
  have hT := tn_owed (D := I 2 (6 + h)) (X := x) hd0 (by omega) hx3 hx4
  refine tp_ofI (lv := [(0, .int (nI h)), (1, .int x), (2, .ref (ad (2)))]) (by decide) rfl (Nat.le_of_ble_eq_true rfl) rfl (fun p e s m args below meth c A ls S0 => ?_)
  obtain ⟨hx, hb, hr, hml, hown, hts, hlocks, hA, hK, hP, hD, hS, hl⟩ := S0
  refine lv_aload_n hx hb dL_debtThen_0 rfl (lv_at hl 2 rfl) ?_
  refine lv_bipush (v := 6) hx hb dL_debtThen_1 (by decide) ?_
  refine lv_iload_n hx hb dL_debtThen_3 rfl (lv_at hl 0 rfl) ?_
  refine lv_iadd hx hb dL_debtThen_4 ?_
  refine tp_eqi (y := nI (6 + h)) (nI_add 6 h) ?_
  refine tp_iald hx hb hK hP (2) 12 ((6 + h)) (by omega) rfl rfl (by omega) (by decide) dL_debtThen_5 ?_
  refine lv_iload_n hx hb dL_debtThen_6 rfl (lv_at hl 1 rfl) ?_
  refine lv_isub hx hb dL_debtThen_7 ?_
  refine lv_istore_n (lv' := [(3, .int ((I 2 (6 + h)) - x)), (0, .int (nI h)), (1, .int x), (2, .ref (ad (2)))]) hx hb dL_debtThen_8 rfl hl (by decide) rfl (fun ls hl => ?_)
  refine lv_iload_n hx hb dL_debtThen_9 rfl (lv_at hl 2 rfl) ?_
  refine lv_if_le (tgt := 21) hx hb dL_debtThen_10 (by decide) (fun c10_1 => ?_) (fun c10_1 => ?_)
  · refine lv_iload_n hx hb dL_debtThen_21 rfl (lv_at hl 0 rfl) ?_
    exact tp_reti hx hb hr hlocks hK hP hD hS rfl (by unfold tp_owed; rw [hd6]; exact hT.1 c10_1) rfl dL_debtThen_22
  · refine lv_iload_n hx hb dL_debtThen_13 rfl (lv_at hl 0 rfl) ?_
    refine lv_if_ge (tgt := 21) hx hb dL_debtThen_14 (by decide) (fun c14_2 => ?_) (fun c14_2 => ?_)
    · refine lv_iload_n hx hb dL_debtThen_21 rfl (lv_at hl 0 rfl) ?_
      exact tp_reti hx hb hr hlocks hK hP hD hS rfl (by unfold tp_owed; rw [hd6]; exact hT.2.1 c14_2) rfl dL_debtThen_22
    · refine lv_iconst (v := 0) hx hb dL_debtThen_17 (by decide) ?_
      refine lv_goto (tgt := 22) hx hb dL_debtThen_18 (by decide) ?_
      exact tp_reti hx hb hr hlocks hK hP hD hS rfl (by unfold tp_owed; rw [hd6]; exact hT.2.2.1 c14_2) rfl dL_debtThen_22
set_option maxHeartbeats 4000000 in
set_option maxRecDepth 100000 in
/-- pays(home, f, v, a, q) -/
theorem lf_pays (l : Launch) (D : va_G) (cy : Nat → ClassId) (n : Nat) (ad : Nat → Nat) (o : Int64) (I : Nat → Nat → Int32) (h c0 : Nat) (hF : tq_F I h c0) (e0 a0 : Nat) (hB : tq_B I h e0 a0) (he48 : e0 < 48) : tp_I l yL_pays wsL_pays (tp_rm 4 107) D cy n ad o [.int (nI h), .ref (ad (3)), .ref (ad (4)), .ref (ad (5 + h)), .ref (ad (2))] I (tp_paym I (9 + 15 * h) a0 e0) (I) := by
  obtain ⟨⟨hh, ha8, he8, he, ha⟩, hA13, hd6, hd7, hd8, hd01, hd0, hdm⟩ := id hB
  obtain ⟨hO3, hO4⟩ := tq_open hF hB
  have hOw : 0 ≤ (tp_owed I (9 + 15 * h) (tp_open I (9 + 15 * h) a0 e0)).toInt := by unfold tp_owed; rw [hd6]; exact (tn_owed hd0 (by omega) hO3 hO4).2.2.2.1
  have hT := tn_arr (D := I 2 (6 + h)) (X := tp_open I (9 + 15 * h) a0 e0) hd0 (by omega) hO3 hO4
  refine tp_ofI (lv := [(0, .int (nI h)), (1, .ref (ad (3))), (2, .ref (ad (4))), (3, .ref (ad (5 + h))), (4, .ref (ad (2)))]) (by decide) rfl (Nat.le_of_ble_eq_true rfl) rfl (fun p e s m args below meth c A ls S0 => ?_)
  obtain ⟨hx, hb, hr, hml, hown, hts, hlocks, hA, hK, hP, hD, hS, hl⟩ := S0
  refine lv_iload_n hx hb dL_pays_0 rfl (lv_at hl 0 rfl) ?_
  refine lv_aload_n hx hb dL_pays_1 rfl (lv_at hl 1 rfl) ?_
  refine lv_aload_n hx hb dL_pays_2 rfl (lv_at hl 2 rfl) ?_
  refine lv_aload_n hx hb dL_pays_3 rfl (lv_at hl 3 rfl) ?_
  refine lv_aload hx hb dL_pays_4 (lv_at hl 4 rfl) ?_
  refine tp_callS ⟨hx, hb, hml, hown, hts⟩ (lf_open l D cy n ad o I h c0 hF e0 a0 hB) (va_cwS 5 hts gL_pays_L_open rfl rfl rfl (by decide +kernel) ⟨Nat.le_of_ble_eq_true rfl, Nat.le_of_ble_eq_true rfl⟩) hK hP hD hS hA rfl hl.1 rfl (Nat.le_of_ble_eq_true rfl) dL_pays_6 ⟨Nat.zero_le _, Nat.zero_le _⟩ (fun I9 e9 H locs hP hD hS => ?_)
  subst e9
  refine lv_istore (lv' := [(5, .int (tp_open I (9 + 15 * h) a0 e0)), (0, .int (nI h)), (1, .ref (ad (3))), (2, .ref (ad (4))), (3, .ref (ad (5 + h))), (4, .ref (ad (2)))]) hx hb dL_pays_9 hl (by decide) rfl (fun ls hl => ?_)
  refine lv_iload_n hx hb dL_pays_11 rfl (lv_at hl 1 rfl) ?_
  refine lv_iload hx hb dL_pays_12 (lv_at hl 0 rfl) ?_
  refine lv_aload hx hb dL_pays_14 (lv_at hl 5 rfl) ?_
  refine tp_callS ⟨hx, hb, hml, hown, hts⟩ (lf_debtThen l D cy n ad o I h e0 a0 hB (tp_open I (9 + 15 * h) a0 e0) hO3 hO4) (va_cwS 3 hts gL_pays_L_debtThen rfl rfl rfl (by decide +kernel) ⟨Nat.le_of_ble_eq_true rfl, Nat.le_of_ble_eq_true rfl⟩) hK hP hD hS hA rfl hl.1 rfl (Nat.le_of_ble_eq_true rfl) dL_pays_16 ⟨Nat.zero_le _, Nat.zero_le _⟩ (fun I9 e9 H locs hP hD hS => ?_)
  subst e9
  refine lv_istore (lv' := [(6, .int (tp_owed I (9 + 15 * h) (tp_open I (9 + 15 * h) a0 e0))), (5, .int (tp_open I (9 + 15 * h) a0 e0)), (0, .int (nI h)), (1, .ref (ad (3))), (2, .ref (ad (4))), (3, .ref (ad (5 + h))), (4, .ref (ad (2)))]) hx hb dL_pays_19 hl (by decide) rfl (fun ls hl => ?_)
  refine lv_iload_n hx hb dL_pays_21 rfl (lv_at hl 2 rfl) ?_
  refine lv_aload hx hb dL_pays_22 (lv_at hl 6 rfl) ?_
  refine lv_iconst (v := 0) hx hb dL_pays_24 (by decide) ?_
  refine tp_iald hx hb hK hP (2) 12 (0) (by omega) rfl (by decide) (by decide) (by decide) dL_pays_25 ?_
  refine tp_eqi (y := nI e0) he ?_
  refine lv_aload_n hx hb dL_pays_26 rfl (lv_at hl 3 rfl) ?_
  refine lv_aload_n hx hb dL_pays_27 rfl (lv_at hl 4 rfl) ?_
  refine lv_aload hx hb dL_pays_28 (lv_at hl 6 rfl) ?_
  refine tp_callS ⟨hx, hb, hml, hown, hts⟩ (lf_due l D cy n ad o I h c0 hF e0 (by omega)) (va_cwS 5 hts gL_pays_L_due rfl rfl rfl (by decide +kernel) ⟨Nat.le_of_ble_eq_true rfl, Nat.le_of_ble_eq_true rfl⟩) hK hP hD hS hA rfl hl.1 rfl (Nat.le_of_ble_eq_true rfl) dL_pays_30 ⟨Nat.zero_le _, Nat.zero_le _⟩ (fun I9 e9 H locs hP hD hS => ?_)
  subst e9
  refine lv_istore (lv' := [(7, .int (tp_due I (9 + 15 * h) e0)), (6, .int (tp_owed I (9 + 15 * h) (tp_open I (9 + 15 * h) a0 e0))), (5, .int (tp_open I (9 + 15 * h) a0 e0)), (0, .int (nI h)), (1, .ref (ad (3))), (2, .ref (ad (4))), (3, .ref (ad (5 + h))), (4, .ref (ad (2)))]) hx hb dL_pays_33 hl (by decide) rfl (fun ls hl => ?_)
  refine tp_meetH (D := D) (cy := cy) (n := n) (ad := ad) (I := I) (o := o) (A := A) (H0 := s.heap) (tp_arr I (9 + 15 * h) (tp_open I (9 + 15 * h) a0 e0) : Int32) (fun y => F0 m 66 ls (.int y :: [])) (fun hj66 => ?_) (fun H locs hP hD hS => ?_)
  · refine lv_iload hx hb dL_pays_35 (lv_at hl 2 rfl) ?_
    refine lv_aload hx hb dL_pays_37 (lv_at hl 7 rfl) ?_
    refine lv_bipush (v := 6) hx hb dL_pays_39 (by decide) ?_
    refine lv_iload_n hx hb dL_pays_41 rfl (lv_at hl 3 rfl) ?_
    refine lv_iadd hx hb dL_pays_42 ?_
    refine tp_eqi (y := nI (6 + h)) (nI_add 6 h) ?_
    refine tp_iald hx hb hK hP (2) 12 ((6 + h)) (by omega) rfl rfl (by omega) (by decide) dL_pays_43 ?_
    refine lv_icmp_le (tgt := 65) hx hb dL_pays_44 (by decide) (fun c44_1 => ?_) (fun c44_1 => ?_)
    · refine lv_iconst (v := 0) hx hb dL_pays_65 (by decide) ?_
      exact hj66 _ (by unfold tp_arr; rw [hd6]; exact hT.1 c44_1) _ _ hP hD hS
    · refine lv_iload hx hb dL_pays_47 (lv_at hl 2 rfl) ?_
      refine lv_if_le (tgt := 65) hx hb dL_pays_49 (by decide) (fun c49_2 => ?_) (fun c49_2 => ?_)
      · refine lv_iconst (v := 0) hx hb dL_pays_65 (by decide) ?_
        exact hj66 _ (by unfold tp_arr; rw [hd6]; exact hT.2.1 c49_2) _ _ hP hD hS
      · refine lv_iload hx hb dL_pays_52 (lv_at hl 2 rfl) ?_
        refine lv_aload hx hb dL_pays_54 (lv_at hl 7 rfl) ?_
        refine lv_bipush (v := 6) hx hb dL_pays_56 (by decide) ?_
        refine lv_iload_n hx hb dL_pays_58 rfl (lv_at hl 3 rfl) ?_
        refine lv_iadd hx hb dL_pays_59 ?_
        refine tp_eqi (y := nI (6 + h)) (nI_add 6 h) ?_
        refine tp_iald hx hb hK hP (2) 12 ((6 + h)) (by omega) rfl rfl (by omega) (by decide) dL_pays_60 ?_
        refine lv_isub hx hb dL_pays_61 ?_
        refine lv_goto (tgt := 66) hx hb dL_pays_62 (by decide) ?_
        exact hj66 _ (by unfold tp_arr; rw [hd6]; exact hT.2.2 c44_1) _ _ hP hD hS
  refine lv_istore (lv' := [(8, .int (tp_arr I (9 + 15 * h) (tp_open I (9 + 15 * h) a0 e0))), (7, .int (tp_due I (9 + 15 * h) e0)), (6, .int (tp_owed I (9 + 15 * h) (tp_open I (9 + 15 * h) a0 e0))), (5, .int (tp_open I (9 + 15 * h) a0 e0)), (0, .int (nI h)), (1, .ref (ad (3))), (2, .ref (ad (4))), (3, .ref (ad (5 + h))), (4, .ref (ad (2)))]) hx hb dL_pays_66 hl (by decide) rfl (fun ls hl => ?_)
  refine lv_iload hx hb dL_pays_68 (lv_at hl 1 rfl) ?_
  refine lv_iload hx hb dL_pays_70 (lv_at hl 0 rfl) ?_
  refine lv_iadd hx hb dL_pays_72 ?_
  refine lv_iload_n hx hb dL_pays_73 rfl (lv_at hl 4 rfl) ?_
  refine lv_iload hx hb dL_pays_74 (lv_at hl 2 rfl) ?_
  refine lv_iload hx hb dL_pays_76 (lv_at hl 1 rfl) ?_
  refine lv_aload_n hx hb dL_pays_78 rfl (lv_at hl 5 rfl) ?_
  refine lv_aload_n hx hb dL_pays_79 rfl (lv_at hl 6 rfl) ?_
  refine lv_aload hx hb dL_pays_80 (lv_at hl 8 rfl) ?_
  refine tp_callS ⟨hx, hb, hml, hown, hts⟩ (lf_recovers l D cy n ad o I h c0 hF e0 a0 hB he48 (tp_owed I (9 + 15 * h) (tp_open I (9 + 15 * h) a0 e0)) hOw) (va_cwS 6 hts gL_pays_L_recovers rfl rfl rfl (by decide +kernel) ⟨Nat.le_of_ble_eq_true rfl, Nat.le_of_ble_eq_true rfl⟩) hK hP hD hS hA rfl hl.1 rfl (Nat.le_of_ble_eq_true rfl) dL_pays_82 ⟨Nat.zero_le _, Nat.zero_le _⟩ (fun I9 e9 H locs hP hD hS => ?_)
  subst e9
  refine lv_isub hx hb dL_pays_85 ?_
  exact tp_reti hx hb hr hlocks hK hP hD hS rfl (tm_abc _ _ _) rfl dL_pays_86
/-- a household closed, in the law's arrays -/
def tl_J2 (I : Nat → Nat → Int32) (h a e : Nat) : Nat → Nat → Int32 := tp_u (tp_u I 2 (6 + h) (tp_owed I (9 + 15 * h) (tp_open I (9 + 15 * h) a e) - tp_rec I (9 + 15 * h) e (tp_owed I (9 + 15 * h) (tp_open I (9 + 15 * h) a e)))) 2 (8 + h) (I 2 (8 + h) + tp_rec I (9 + 15 * h) e (tp_owed I (9 + 15 * h) (tp_open I (9 + 15 * h) a e)))
def tl_J3 (I : Nat → Nat → Int32) (h a e : Nat) : Nat → Nat → Int32 := tp_u (tl_J2 I h a e) (7 + h) e (tp_paym I (9 + 15 * h) a e)
def tl_cls (I : Nat → Nat → Int32) (h a e : Nat) : Nat → Nat → Int32 := tp_fill (tl_J3 I h a e) (5 + h) a (fun s => tp_due I (9 + 15 * h) (a + s)) (e + 1 - a)
theorem tl_J2_oth {I : Nat → Nat → Int32} {h a e c : Nat} (q : c ≠ 2) : tl_J2 I h a e c = I c := by
  unfold tl_J2
  rw [tp_u_oth q, tp_u_oth q]
theorem tl_J2_n {I : Nat → Nat → Int32} {h a e j : Nat} (q : j ≠ 6 + h) (q2 : j ≠ 8 + h) : tl_J2 I h a e 2 j = I 2 j := by
  unfold tl_J2
  rw [tp_u_n q2, tp_u_n q]
theorem tl_J3_oth {I : Nat → Nat → Int32} {h a e c : Nat} (q : c ≠ 2) (q2 : c ≠ 7 + h) : tl_J3 I h a e c = I c := by
  unfold tl_J3
  rw [tp_u_oth q2, tl_J2_oth q]
theorem tl_J3_n {I : Nat → Nat → Int32} {h a e j : Nat} (q : j ≠ 6 + h) (q2 : j ≠ 8 + h) : tl_J3 I h a e 2 j = I 2 j := by
  unfold tl_J3
  rw [tp_u_oth (by omega), tl_J2_n q q2]
theorem tl_Jt_oth {I : Nat → Nat → Int32} {h a e c s : Nat} {g : Nat → Int32} (q : c ≠ 2) (q2 : c ≠ 7 + h) (q3 : c ≠ 5 + h) : tp_fill (tl_J3 I h a e) (5 + h) a g s c = I c := by rw [tp_fill_oth q3, tl_J3_oth q q2]
theorem tl_Jt_n {I : Nat → Nat → Int32} {h a e j s : Nat} {g : Nat → Int32} (q : j ≠ 6 + h) (q2 : j ≠ 8 + h) : tp_fill (tl_J3 I h a e) (5 + h) a g s 2 j = I 2 j := by rw [tp_fill_oth (by omega), tl_J3_n q q2]
theorem tl_scan_cong {I J : Nat → Nat → Int32} {h f m : Nat} : ∀ t : Nat, (∀ j, j < t → I 3 j = J 3 j ∧ I 4 j = J 4 j) → tl_scan I h f m t = tl_scan J h f m t
  | 0, _ => rfl
  | t + 1, q => by
    have ih := tl_scan_cong (h := h) (f := f) (m := m) t (fun j z => q j (by omega))
    obtain ⟨q3, q4⟩ := q t (by omega)
    unfold tl_scan tl_its
    rw [ih, q3, q4]
theorem tq_F_cong {I J : Nat → Nat → Int32} {h c : Nat} (R : tq_F I h c) (h22 : J 2 2 = I 2 2) (h3 : J 3 = I 3) (h4 : J 4 = I 4) (hc : ∀ j, 0 < j → j < 13 → J (9 + 15 * h + j) = I (9 + 15 * h + j)) : tq_F J h c := by
  refine ⟨⟨R.1.1, R.1.2.1, h22.trans R.1.2.2⟩, fun j hj => ?_, fun f hf m hm => ?_⟩
  · obtain ⟨g, f, r, q⟩ := R.2.1 j hj
    refine ⟨g, f, r, ?_⟩
    unfold tq_row at q ⊢
    rw [h3, h4]
    exact q
  · rw [tl_scan_cong (I := J) (J := I) c (fun j _ => ⟨by rw [h3], by rw [h4]⟩), Nat.add_assoc (9 + 15 * h) 2 f, Nat.add_assoc (9 + 15 * h) 8 f, hc (2 + f) (by omega) (by omega), hc (8 + f) (by omega) (by omega), ← Nat.add_assoc, ← Nat.add_assoc]
    exact R.2.2 f hf m hm
set_option maxHeartbeats 4000000 in
set_option maxRecDepth 100000 in
/-- closes(home, f, v, a, p, q) -/
theorem lf_closes (l : Launch) (D : va_G) (cy : Nat → ClassId) (n : Nat) (ad : Nat → Nat) (o : Int64) (I : Nat → Nat → Int32) (h c0 : Nat) (hF : tq_F I h c0) (e0 a0 : Nat) (hB : tq_B I h e0 a0) (he48 : e0 < 48) : tp_I l yL_closes wsL_closes (tp_rm 5 135) D cy n ad o [.int (nI h), .ref (ad (3)), .ref (ad (4)), .ref (ad (5 + h)), .ref (ad (7 + h)), .ref (ad (2))] I (tp_paym I (9 + 15 * h) a0 e0) (tl_cls I h a0 e0) := by
  obtain ⟨⟨hh, ha8, he8, he, ha⟩, hA13, hd6, hd7, hd8, hd01, hd0, hdm⟩ := id hB
  obtain ⟨hO3, hO4⟩ := tq_open hF hB
  have hOw : 0 ≤ (tp_owed I (9 + 15 * h) (tp_open I (9 + 15 * h) a0 e0)).toInt := by unfold tp_owed; rw [hd6]; exact (tn_owed hd0 (by omega) hO3 hO4).2.2.2.1
  refine tp_ofI (lv := [(0, .int (nI h)), (1, .ref (ad (3))), (2, .ref (ad (4))), (3, .ref (ad (5 + h))), (4, .ref (ad (7 + h))), (5, .ref (ad (2)))]) (by decide) rfl (Nat.le_of_ble_eq_true rfl) rfl (fun p e s m args below meth c A ls S0 => ?_)
  obtain ⟨hx, hb, hr, hml, hown, hts, hlocks, hA, hK, hP, hD, hS, hl⟩ := S0
  refine lv_iload_n hx hb dL_closes_0 rfl (lv_at hl 0 rfl) ?_
  refine lv_aload_n hx hb dL_closes_1 rfl (lv_at hl 1 rfl) ?_
  refine lv_aload_n hx hb dL_closes_2 rfl (lv_at hl 2 rfl) ?_
  refine lv_aload_n hx hb dL_closes_3 rfl (lv_at hl 3 rfl) ?_
  refine lv_aload hx hb dL_closes_4 (lv_at hl 5 rfl) ?_
  refine tp_callS ⟨hx, hb, hml, hown, hts⟩ (lf_pays l D cy n ad o I h c0 hF e0 a0 hB he48) (va_cwS 5 hts gL_closes_L_pays rfl rfl rfl (by decide +kernel) ⟨Nat.le_of_ble_eq_true rfl, Nat.le_of_ble_eq_true rfl⟩) hK hP hD hS hA rfl hl.1 rfl (Nat.le_of_ble_eq_true rfl) dL_closes_6 ⟨Nat.zero_le _, Nat.zero_le _⟩ (fun I9 e9 H locs hP hD hS => ?_)
  subst e9
  refine lv_istore (lv' := [(6, .int (tp_paym I (9 + 15 * h) a0 e0)), (0, .int (nI h)), (1, .ref (ad (3))), (2, .ref (ad (4))), (3, .ref (ad (5 + h))), (4, .ref (ad (7 + h))), (5, .ref (ad (2)))]) hx hb dL_closes_9 hl (by decide) rfl (fun ls hl => ?_)
  refine lv_iload_n hx hb dL_closes_11 rfl (lv_at hl 1 rfl) ?_
  refine lv_iload_n hx hb dL_closes_12 rfl (lv_at hl 1 rfl) ?_
  refine lv_aload_n hx hb dL_closes_13 rfl (lv_at hl 2 rfl) ?_
  refine lv_aload_n hx hb dL_closes_14 rfl (lv_at hl 3 rfl) ?_
  refine lv_aload_n hx hb dL_closes_15 rfl (lv_at hl 4 rfl) ?_
  refine lv_aload hx hb dL_closes_16 (lv_at hl 6 rfl) ?_
  refine tp_callS ⟨hx, hb, hml, hown, hts⟩ (lf_open l D cy n ad o I h c0 hF e0 a0 hB) (va_cwS 5 hts gL_closes_L_open rfl rfl rfl (by decide +kernel) ⟨Nat.le_of_ble_eq_true rfl, Nat.le_of_ble_eq_true rfl⟩) hK hP hD hS hA rfl hl.1 rfl (Nat.le_of_ble_eq_true rfl) dL_closes_18 ⟨Nat.zero_le _, Nat.zero_le _⟩ (fun I9 e9 H locs hP hD hS => ?_)
  subst e9
  refine lv_aload hx hb dL_closes_21 (lv_at hl 6 rfl) ?_
  refine tp_callS ⟨hx, hb, hml, hown, hts⟩ (lf_debtThen l D cy n ad o I h e0 a0 hB (tp_open I (9 + 15 * h) a0 e0) hO3 hO4) (va_cwS 3 hts gL_closes_L_debtThen rfl rfl rfl (by decide +kernel) ⟨Nat.le_of_ble_eq_true rfl, Nat.le_of_ble_eq_true rfl⟩) hK hP hD hS hA rfl hl.1 rfl (Nat.le_of_ble_eq_true rfl) dL_closes_23 ⟨Nat.zero_le _, Nat.zero_le _⟩ (fun I9 e9 H locs hP hD hS => ?_)
  subst e9
  refine lv_istore (lv' := [(7, .int (tp_owed I (9 + 15 * h) (tp_open I (9 + 15 * h) a0 e0))), (6, .int (tp_paym I (9 + 15 * h) a0 e0)), (0, .int (nI h)), (1, .ref (ad (3))), (2, .ref (ad (4))), (3, .ref (ad (5 + h))), (4, .ref (ad (7 + h))), (5, .ref (ad (2)))]) hx hb dL_closes_26 hl (by decide) rfl (fun ls hl => ?_)
  refine lv_iload_n hx hb dL_closes_28 rfl (lv_at hl 2 rfl) ?_
  refine lv_iload hx hb dL_closes_29 (lv_at hl 0 rfl) ?_
  refine lv_iload_n hx hb dL_closes_31 rfl (lv_at hl 2 rfl) ?_
  refine lv_aload hx hb dL_closes_32 (lv_at hl 7 rfl) ?_
  refine lv_iconst (v := 0) hx hb dL_closes_34 (by decide) ?_
  refine tp_iald hx hb hK hP (2) 12 (0) (by omega) rfl (by decide) (by decide) (by decide) dL_closes_35 ?_
  refine tp_eqi (y := nI e0) he ?_
  refine lv_aload_n hx hb dL_closes_36 rfl (lv_at hl 3 rfl) ?_
  refine lv_aload_n hx hb dL_closes_37 rfl (lv_at hl 4 rfl) ?_
  refine lv_aload hx hb dL_closes_38 (lv_at hl 7 rfl) ?_
  refine tp_callS ⟨hx, hb, hml, hown, hts⟩ (lf_due l D cy n ad o I h c0 hF e0 (by omega)) (va_cwS 5 hts gL_closes_L_due rfl rfl rfl (by decide +kernel) ⟨Nat.le_of_ble_eq_true rfl, Nat.le_of_ble_eq_true rfl⟩) hK hP hD hS hA rfl hl.1 rfl (Nat.le_of_ble_eq_true rfl) dL_closes_40 ⟨Nat.zero_le _, Nat.zero_le _⟩ (fun I9 e9 H locs hP hD hS => ?_)
  subst e9
  refine lv_aload_n hx hb dL_closes_43 rfl (lv_at hl 3 rfl) ?_
  refine lv_aload_n hx hb dL_closes_44 rfl (lv_at hl 4 rfl) ?_
  refine lv_aload hx hb dL_closes_45 (lv_at hl 7 rfl) ?_
  refine tp_callS ⟨hx, hb, hml, hown, hts⟩ (lf_recovers l D cy n ad o I h c0 hF e0 a0 hB he48 (tp_owed I (9 + 15 * h) (tp_open I (9 + 15 * h) a0 e0)) hOw) (va_cwS 6 hts gL_closes_L_recovers rfl rfl rfl (by decide +kernel) ⟨Nat.le_of_ble_eq_true rfl, Nat.le_of_ble_eq_true rfl⟩) hK hP hD hS hA rfl hl.1 rfl (Nat.le_of_ble_eq_true rfl) dL_closes_47 ⟨Nat.zero_le _, Nat.zero_le _⟩ (fun I9 e9 H locs hP hD hS => ?_)
  subst e9
  refine lv_istore (lv' := [(8, .int (tp_rec I (9 + 15 * h) e0 (tp_owed I (9 + 15 * h) (tp_open I (9 + 15 * h) a0 e0)))), (7, .int (tp_owed I (9 + 15 * h) (tp_open I (9 + 15 * h) a0 e0))), (6, .int (tp_paym I (9 + 15 * h) a0 e0)), (0, .int (nI h)), (1, .ref (ad (3))), (2, .ref (ad (4))), (3, .ref (ad (5 + h))), (4, .ref (ad (7 + h))), (5, .ref (ad (2)))]) hx hb dL_closes_50 hl (by decide) rfl (fun ls hl => ?_)
  refine lv_aload hx hb dL_closes_52 (lv_at hl 8 rfl) ?_
  refine lv_bipush (v := 6) hx hb dL_closes_54 (by decide) ?_
  refine lv_iload_n hx hb dL_closes_56 rfl (lv_at hl 3 rfl) ?_
  refine lv_iadd hx hb dL_closes_57 ?_
  refine tp_eqi (y := nI (6 + h)) (nI_add 6 h) ?_
  refine lv_iload hx hb dL_closes_58 (lv_at hl 1 rfl) ?_
  refine lv_iload hx hb dL_closes_60 (lv_at hl 0 rfl) ?_
  refine lv_isub hx hb dL_closes_62 ?_
  refine tp_iast hx hb hK hP hD hS (2) 12 ((6 + h)) (by omega) (fun _ => rfl) rfl (by omega) (by decide) dL_closes_63 (fun H locs hP hD hS => ?_)
  refine lv_aload hx hb dL_closes_64 (lv_at hl 8 rfl) ?_
  refine lv_bipush (v := 8) hx hb dL_closes_66 (by decide) ?_
  refine lv_iload_n hx hb dL_closes_68 rfl (lv_at hl 3 rfl) ?_
  refine lv_iadd hx hb dL_closes_69 ?_
  refine tp_eqi (y := nI (8 + h)) (nI_add 8 h) ?_
  refine lv_dup2_11 hx hb dL_closes_70 rfl rfl ?_
  refine tp_iald hx hb hK hP (2) 12 ((8 + h)) (by omega) rfl rfl (by omega) (by decide) dL_closes_71 ?_
  refine tp_eqi (y := (I 2 (8 + h))) (tp_u_n (by omega)) ?_
  refine lv_iload hx hb dL_closes_72 (lv_at hl 0 rfl) ?_
  refine lv_iadd hx hb dL_closes_74 ?_
  refine tp_iast hx hb hK hP hD hS (2) 12 ((8 + h)) (by omega) (fun _ => rfl) rfl (by omega) (by decide) dL_closes_75 (fun H locs hP hD hS => ?_)
  have hP : va_P D vwCl (tp_w cy n ad (tl_J2 I h a0 e0) o) H := hP
  have hD : va_D A (tp_w cy n ad (tl_J2 I h a0 e0) o) := hD
  refine lv_aload hx hb dL_closes_76 (lv_at hl 7 rfl) ?_
  refine lv_aload hx hb dL_closes_78 (lv_at hl 8 rfl) ?_
  refine lv_iconst (v := 0) hx hb dL_closes_80 (by decide) ?_
  refine tp_iald hx hb hK hP (2) 12 (0) (by omega) rfl (by decide) (by decide) (by decide) dL_closes_81 ?_
  refine tp_eqi (y := (nI e0)) (by rw [tl_J2_n (by omega) (by omega), he]) ?_
  refine lv_iload hx hb dL_closes_82 (lv_at hl 2 rfl) ?_
  refine tp_iast hx hb hK hP hD hS (7 + h) 48 (e0) (by omega) (fun I => tl_cP (I := I) hh) rfl (by omega) (by decide) dL_closes_84 (fun H locs hP hD hS => ?_)
  have hP : va_P D vwCl (tp_w cy n ad (tl_J3 I h a0 e0) o) H := hP
  have hD : va_D A (tp_w cy n ad (tl_J3 I h a0 e0) o) := hD
  refine lv_aload hx hb dL_closes_85 (lv_at hl 8 rfl) ?_
  refine lv_iconst (v := 4) hx hb dL_closes_87 (by decide) ?_
  refine lv_iload_n hx hb dL_closes_88 rfl (lv_at hl 3 rfl) ?_
  refine lv_iadd hx hb dL_closes_89 ?_
  refine tp_eqi (y := nI (4 + h)) (nI_add 4 h) ?_
  refine tp_iald hx hb hK hP (2) 12 ((4 + h)) (by omega) rfl rfl (by omega) (by decide) dL_closes_90 ?_
  refine tp_eqi (y := (nI a0)) (by rw [tl_J3_n (by omega) (by omega), ha]) ?_
  refine lv_istore (lv' := [(9, .int (nI a0)), (8, .int (tp_rec I (9 + 15 * h) e0 (tp_owed I (9 + 15 * h) (tp_open I (9 + 15 * h) a0 e0)))), (7, .int (tp_owed I (9 + 15 * h) (tp_open I (9 + 15 * h) a0 e0))), (6, .int (tp_paym I (9 + 15 * h) a0 e0)), (0, .int (nI h)), (1, .ref (ad (3))), (2, .ref (ad (4))), (3, .ref (ad (5 + h))), (4, .ref (ad (7 + h))), (5, .ref (ad (2)))]) hx hb dL_closes_91 hl (by decide) rfl (fun ls hl => ?_)
  have hl : lv_has ls 10 [(9, .int (nI (a0 + 0))), (6, .int (tp_paym I (9 + 15 * h) a0 e0)), (0, .int (nI h)), (1, .ref (ad (3))), (2, .ref (ad (4))), (3, .ref (ad (5 + h))), (4, .ref (ad (7 + h))), (5, .ref (ad (2)))] := lv_sub hl [0, 3, 4, 5, 6, 7, 8, 9] rfl
  rw [← tp_fill_0 (I := tl_J3 I h a0 e0) (c := 5 + h) (lo := a0) (g := (fun s => tp_due I (9 + 15 * h) (a0 + s)))] at hP hD
  refine tp_for (nL := 10) (e0 + 1 - a0) (fun t => tp_fill (tl_J3 I h a0 e0) (5 + h) a0 (fun s => tp_due I (9 + 15 * h) (a0 + s)) t) (fun t => [(9, .int (nI (a0 + t))), (6, .int (tp_paym I (9 + 15 * h) a0 e0)), (0, .int (nI h)), (1, .ref (ad (3))), (2, .ref (ad (4))), (3, .ref (ad (5 + h))), (4, .ref (ad (7 + h))), (5, .ref (ad (2)))]) (fun t ht ls H locs hl hP hD hS ih => ?_) (fun ls H locs hl hP hD hS => ?_) hl hP hD hS
  · refine lv_iload hx hb dL_closes_93 (lv_at hl 0 rfl) ?_
    refine lv_aload hx hb dL_closes_95 (lv_at hl 7 rfl) ?_
    refine lv_iconst (v := 0) hx hb dL_closes_97 (by decide) ?_
    refine tp_iald hx hb hK hP (2) 12 (0) (by omega) rfl (by decide) (by decide) (by decide) dL_closes_98 ?_
    refine tp_eqi (y := (nI e0)) (by rw [tl_Jt_n (by omega) (by omega), he]) ?_
    refine lv_icmp_gt (tgt := 122) hx hb dL_closes_99 (by decide) (fun c99_1 => ?_) (fun c99_1 => ?_)
    · exact absurd c99_1 (nI_nlt (by omega) (by omega))
    · have hFt : tq_F (tp_fill (tl_J3 I h a0 e0) (5 + h) a0 (fun s => tp_due I (9 + 15 * h) (a0 + s)) t) h c0 := tq_F_cong hF (tl_Jt_n (by omega) (by omega)) (tl_Jt_oth (by omega) (by omega) (by omega)) (tl_Jt_oth (by omega) (by omega) (by omega)) (fun j _ _ => tl_Jt_oth (by omega) (by omega) (by omega))
      refine lv_aload_n hx hb dL_closes_102 rfl (lv_at hl 5 rfl) ?_
      refine lv_iload hx hb dL_closes_103 (lv_at hl 0 rfl) ?_
      refine lv_iload_n hx hb dL_closes_105 rfl (lv_at hl 2 rfl) ?_
      refine lv_iload hx hb dL_closes_106 (lv_at hl 0 rfl) ?_
      refine lv_aload_n hx hb dL_closes_108 rfl (lv_at hl 3 rfl) ?_
      refine lv_aload_n hx hb dL_closes_109 rfl (lv_at hl 4 rfl) ?_
      refine lv_aload hx hb dL_closes_110 (lv_at hl 7 rfl) ?_
      refine tp_callS ⟨hx, hb, hml, hown, hts⟩ (lf_due l D cy n ad o (tp_fill (tl_J3 I h a0 e0) (5 + h) a0 (fun s => tp_due I (9 + 15 * h) (a0 + s)) t) h c0 hFt (a0 + t) (by omega)) (va_cwS 5 hts gL_closes_L_due rfl rfl rfl (by decide +kernel) ⟨Nat.le_of_ble_eq_true rfl, Nat.le_of_ble_eq_true rfl⟩) hK hP hD hS hA rfl hl.1 rfl (Nat.le_of_ble_eq_true rfl) dL_closes_112 ⟨Nat.zero_le _, Nat.zero_le _⟩ (fun I9 e9 H locs hP hD hS => ?_)
      subst e9
      refine tp_eqi (y := (tp_due I (9 + 15 * h) (a0 + t))) (tp_due_cong (fun f _ => tl_Jt_oth (by omega) (by omega) (by omega))) ?_
      refine tp_iast hx hb hK hP hD hS (5 + h) 48 ((a0 + t)) (by omega) (fun I => tl_cA (I := I) hh) rfl (by omega) (by decide) dL_closes_115 (fun H locs hP hD hS => ?_)
      rw [tp_fill_s rfl] at hP hD
      refine lv_iinc (v := (nI ((a0 + t) + 1))) (lv' := [(9, .int (nI ((a0 + t) + 1))), (6, .int (tp_paym I (9 + 15 * h) a0 e0)), (0, .int (nI h)), (1, .ref (ad (3))), (2, .ref (ad (4))), (3, .ref (ad (5 + h))), (4, .ref (ad (7 + h))), (5, .ref (ad (2)))]) hx hb dL_closes_116 hl (k := 0) rfl (nI_1 _) (by decide) rfl (fun ls hl => ?_)
      refine lv_goto (tgt := 93) hx hb dL_closes_119 (by decide) ?_
      exact ih ls H locs (lv_sub hl [0, 1, 2, 3, 4, 5, 6, 7] rfl) hP hD hS
  · refine lv_iload hx hb dL_closes_93 (lv_at hl 0 rfl) ?_
    refine lv_aload hx hb dL_closes_95 (lv_at hl 7 rfl) ?_
    refine lv_iconst (v := 0) hx hb dL_closes_97 (by decide) ?_
    refine tp_iald hx hb hK hP (2) 12 (0) (by omega) rfl (by decide) (by decide) (by decide) dL_closes_98 ?_
    refine tp_eqi (y := (nI e0)) (by rw [tl_Jt_n (by omega) (by omega), he]) ?_
    refine lv_icmp_gt (tgt := 122) hx hb dL_closes_99 (by decide) (fun c99_2 => ?_) (fun c99_2 => ?_)
    · refine lv_iload hx hb dL_closes_122 (lv_at hl 1 rfl) ?_
      exact tp_reti hx hb hr hlocks hK hP hD hS rfl rfl rfl dL_closes_124
    · exact absurd (nI_lt (by omega) (by omega)) c99_2
end
section
/-! THE LAW'S OWN METHODS: each calls the office and catches what it throws -/
def tp_L (l : Launch) (y : MethodName) (ws : List Cond) (fr lo mc ms : Nat) (D : va_G) (cy : Nat → ClassId) (n : Nat) (ad : Nat → Nat) (sa : Nat → Nat) (tL tM : Nat) (as : List Value) (I : Nat → Nat → Int32) (o : Int64) (r : Int32) (I' : Nat → Nat → Int32) (o' : Int64) : Prop :=
  ∀ sz : Nat, Met l y ws { frames := fr, cells := mc, slots := ms, locals := lo } (va_Pc as (tp_PE D cy n ad I o sa tL tM sz)) (va_Qi (fun x u => x = r ∧ u = I') (tp_B D cy n ad o' (va_A (tp_w cy n ad I o) sz)) (va_A (tp_w cy n ad I o) sz)) mc ms (va_A (tp_w cy n ad I o) sz)
section TPL
variable {D : va_G} {cy : Nat → ClassId} {n : Nat} {ad : Nat → Nat} {I : Nat → Nat → Int32} {o : Int64} {sa : Nat → Nat} {tL tM : Nat}
theorem tp_ofL {l : Launch} {y : MethodName} {ws ws' : List Cond} {fr lo mc ms : Nat} {I' : Nat → Nat → Int32} {o' : Int64} {as : List Value} {r : Int32} {cc : ByteArray} {maxL : Nat} {ret : Option FieldType} {hh : List (Nat × Nat × Nat × Nat)} {lv : List (Nat × Value)}
    (hy : plainName y.cls = true) (hw : ws = Cond.codeWith y cc maxL ret hh :: ws') (hlen : (lg_sl as).length ≤ maxL) (hlv : lv_args 0 as = lv)
    (body : ∀ (p : Program) (e : Env) (s : State) (m : MethodId) (args : Array Value) (below : List Frame) (meth : Method) (c : Code) (A : Nat → Prop) (ls : Array Slot), tp_S p s m args meth c y ws cc maxL ret D cy n ad o I A ls lv → tp_EV sa tL tM A s s.heap → c.exceptionTable.toList = tableOf hh →
      W p l e { frames := fr, cells := mc, slots := ms, locals := lo } s m args below meth c s.heap [] 0 0 (MQ below (va_Qi (fun x u => x = r ∧ u = I') (tp_B D cy n ad o' A) A) args s mc ms A) (F0 m 0 ls [])) :
    tp_L l y ws fr lo mc ms D cy n ad sa tL tM as I o r I' o' := by
  intro sz
  refine va_MetW (cc := cc) (maxL := maxL) (ret := ret) (hh := hh) hy hw ?_
  intro p e s m args below meth c s₁ B hml hv
  obtain ⟨rfl, ⟨hsz, hP, hK, hD0⟩, hE⟩ := hv
  subst hsz
  have hown : s.vm.findClass y.cls = some m.cls := findClass_of_methodNamed B.named
  have hD := hD0.self (sz := s.heap.size)
  generalize hAe : va_A (tp_w cy n ad I o) s.heap.size = A at hD hE ⊢
  have hA : ∀ q : Nat, s.heap.size ≤ q → A q := fun q h => by rw [← hAe]; exact Or.inr h
  have hl := lv_entry as (n := maxL) hlen
  rw [hlv] at hl
  rw [lg_entry_eq]
  have hts := atoms_spec (ws := ws) B.pre
  exact body p e s m _ below meth c A _ ⟨B.exec, B.bytes, B.returns, hml, hown, hts, B.notSynchronized, hA, hK, hP, hD, va_S.rf, hl⟩ hE (vx_table (x := y) B (hts _ (by rw [hw]; exact List.mem_cons_self)))
section TPLR
variable {p : Program} {l : Launch} {e : Env} {R : Room} {s : State} {m : MethodId} {args : Array Value} {below : List Frame} {meth : Method} {c : Code} {H : Heap} {locs : List Loc} {cells slots : Nat} {Q : State → Prop}
variable {cc : ByteArray} {pc : Nat} {ls : Array Slot} {rest : List Value} {A : Nat → Prop} {H0 : Heap}
theorem tp_retL {I1 I' : Nat → Nat → Int32} {o' : Int64} {v r : Int32} {ty : FieldType} (hx : p.tables.exec = Jvm.exec) (hb : c.code = cc) (hr : meth.sig.returnType = some ty) (hlocks : meth.locks = false) (hK : va_K D vwCl (tp_ty cy) s) (hP : va_P D vwCl (tp_w cy n ad I1 o') H) (hD : va_D A (tp_w cy n ad I1 o')) (hS : va_S A s.heap H locs) (hn : narrow ty (.int v) = .int v) (ev : v = r) (eI : I1 = I') (hdg : decode cc pc = .ok (.ireturn, 1)) :
    W p l e R s m args below meth c H locs cells slots (MQ below (va_Qi (fun x u => x = r ∧ u = I') (tp_B D cy n ad o' A) A) args s cells slots A) (F0 m pc ls [.int v]) := by
  subst ev
  subst eI
  exact W.zret (v := v) hx hb hr hn (fun t ht hW => ⟨⟨v, I1, rfl, ⟨rfl, rfl⟩, by rw [ht]; exact hP, va_K.moved hW.alike hK, hD⟩, hS.F ht⟩) hS.2.2 hdg
theorem tp_callE {own C : String} {index nA nL maxL fr lo : Nat} {y : MethodName} {bytes : ByteArray} {ret : Option FieldType} {ws Ts : List Cond} {b : Nat} {As st fs : List Value} {r : Int32} {I' : Nat → Nat → Int32} {q : vw_C}
    (S : CallFix p m c cc nL s args Ts own) (hM : tp_IE l y ws (tp_rm fr lo) D cy n ad o sa tL tM (.ref b :: As) I r I') (cw : CallW R s args own C index y bytes maxL ret ws (tp_rm fr lo) 0 0 nA) (hE : tp_EV sa tL tM A s s.heap) (hK : va_K D vwCl (tp_ty cy) s) (hP : va_P D vwCl (tp_w cy n ad I o) H) (hD : va_D A (tp_w cy n ad I o)) (hS : va_S A s.heap H locs) (hA : ∀ q : Nat, s.heap.size ≤ q → A q)
    (k0 ci : Nat) (he : (tp_w cy n ad I o)[k0]? = some (b, .inr (ci, fs))) (hci : vwCl[ci]? = some q) (hqC : q.1 = C) (hn : As.length = nA) (hls : ls.size = nL) (hst : st = As.reverse ++ .ref b :: rest) (hroom : (rest.map fun v => v.category).sum ≤ 8) (hdg : decode cc pc = .ok (.invokevirtual index, 3)) (hcs : cells ≤ R.cells ∧ slots ≤ R.slots)
    (kk : ∀ I1 : Nat → Nat → Int32, I' = I1 → ∀ (H1 : Heap) (locs1 : List Loc), va_P D vwCl (tp_w cy n ad I1 o) H1 → va_D A (tp_w cy n ad I1 o) → va_S A s.heap H1 locs1 → W p l e R s m args below meth c H1 locs1 cells slots Q (F0 m (pc + 3) ls (.int r :: rest))) : W p l e R s m args below meth c H locs cells slots Q (F0 m pc ls st) := by
  subst hst
  subst hqC
  have hF := tp_fr hD hS hA
  refine va_calli (va_runV (As := As) (rest := rest) S (hM H.size) cw ⟨tp_blindE, va_recv hK hP hci he, fun U hU hW => ⟨rfl, ⟨by rw [hU], by rw [hU]; exact hP, va_K.moved hW.alike hK, hD.weaken (fun _ _ _ _ => trivial)⟩, tp_EV.go hE hW hU hS hF⟩⟩ rfl hn hls rfl (lv_room hroom) hdg hcs) hS (fun q _ h => hF q h) hF (fun r1 u t H1 locs1 ht hvm hw hB hz1 hk1 hS1 => ?_)
  obtain ⟨rfl, rfl⟩ := hw
  obtain ⟨hP1, hK1, hD1⟩ := hB
  rw [ht] at hP1
  exact kk _ rfl H1 locs1 hP1 (hD1.weaken (fun _ _ _ h => hF _ h)) hS1
theorem tp_callL {own : String} {index nA nL maxL fr lo mc ms : Nat} {y : MethodName} {bytes : ByteArray} {ret : Option FieldType} {hh : List (Nat × Nat × Nat × Nat)} {ws Ts : List Cond} {As st : List Value} {r : Int32} {I' : Nat → Nat → Int32} {o' : Int64}
    (S : CallFix p m c cc nL s args Ts own) (hM : tp_L l y ws fr lo mc ms D cy n ad sa tL tM As I o r I' o') (cw : vx_CSW R s args own index y bytes maxL ret hh ws { frames := fr, cells := mc, slots := ms, locals := lo } mc ms nA) (hE : tp_EV sa tL tM A s s.heap) (hK : va_K D vwCl (tp_ty cy) s) (hP : va_P D vwCl (tp_w cy n ad I o) H) (hD : va_D A (tp_w cy n ad I o)) (hS : va_S A s.heap H locs) (hA : ∀ q : Nat, s.heap.size ≤ q → A q)
    (hn : As.length = nA) (hls : ls.size = nL) (hst : st = As.reverse ++ rest) (hroom : (rest.map fun v => v.category).sum ≤ 8) (hdg : decode cc pc = .ok (.invokestatic index, 3)) (hcs : cells + mc ≤ R.cells ∧ slots + ms ≤ R.slots)
    (kk : ∀ (H1 : Heap) (locs1 : List Loc), va_P D vwCl (tp_w cy n ad I' o') H1 → va_D A (tp_w cy n ad I' o') → va_S A s.heap H1 locs1 → W p l e R s m args below meth c H1 locs1 (cells + mc) (slots + ms) Q (F0 m (pc + 3) ls (.int r :: rest))) : W p l e R s m args below meth c H locs cells slots Q (F0 m pc ls st) := by
  subst hst
  have hF := tp_fr hD hS hA
  refine va_calli (vx_runSW (As := As) (rest := rest) S (hM H.size) cw ⟨tp_blindE, fun U hU hW => ⟨rfl, ⟨by rw [hU], by rw [hU]; exact hP, va_K.moved hW.alike hK, hD.weaken (fun _ _ _ _ => trivial)⟩, tp_EV.go hE hW hU hS hF⟩⟩ rfl hn hls rfl (lv_room hroom) hdg hcs) hS (fun q _ h => hF q h) hF (fun r1 u t H1 locs1 ht hvm hw hB hz1 hk1 hS1 => ?_)
  obtain ⟨rfl, rfl⟩ := hw
  obtain ⟨hP1, hK1, hD1⟩ := hB
  rw [ht] at hP1
  exact kk H1 locs1 hP1 (hD1.weaken (fun _ _ _ h => hF _ h)) hS1
theorem tp_callSE {own : String} {index nA nL maxL fr lo : Nat} {y : MethodName} {bytes : ByteArray} {ret : Option FieldType} {ws Ts : List Cond} {As st : List Value} {r : Int32} {I' : Nat → Nat → Int32}
    (S : CallFix p m c cc nL s args Ts own) (hM : tp_IE l y ws (tp_rm fr lo) D cy n ad o sa tL tM As I r I') (cw : CallB R s args own index y bytes maxL ret ws (tp_rm fr lo) 0 0 nA ∧ (Cond.static y).before args s = true) (hE : tp_EV sa tL tM A s s.heap) (hK : va_K D vwCl (tp_ty cy) s) (hP : va_P D vwCl (tp_w cy n ad I o) H) (hD : va_D A (tp_w cy n ad I o)) (hS : va_S A s.heap H locs) (hA : ∀ q : Nat, s.heap.size ≤ q → A q)
    (hn : As.length = nA) (hls : ls.size = nL) (hst : st = As.reverse ++ rest) (hroom : (rest.map fun v => v.category).sum ≤ 8) (hdg : decode cc pc = .ok (.invokestatic index, 3)) (hcs : cells ≤ R.cells ∧ slots ≤ R.slots)
    (kk : ∀ I1 : Nat → Nat → Int32, I' = I1 → ∀ (H1 : Heap) (locs1 : List Loc), va_P D vwCl (tp_w cy n ad I1 o) H1 → va_D A (tp_w cy n ad I1 o) → va_S A s.heap H1 locs1 → W p l e R s m args below meth c H1 locs1 cells slots Q (F0 m (pc + 3) ls (.int r :: rest))) : W p l e R s m args below meth c H locs cells slots Q (F0 m pc ls st) := by
  subst hst
  have hF := tp_fr hD hS hA
  refine va_calli (va_runS (As := As) (rest := rest) S (hM H.size) cw ⟨tp_blindE, fun U hU hW => ⟨rfl, ⟨by rw [hU], by rw [hU]; exact hP, va_K.moved hW.alike hK, hD.weaken (fun _ _ _ _ => trivial)⟩, tp_EV.go hE hW hU hS hF⟩⟩ rfl hn hls rfl (lv_room hroom) hdg hcs) hS (fun q _ h => hF q h) hF (fun r1 u t H1 locs1 ht hvm hw hB hz1 hk1 hS1 => ?_)
  obtain ⟨rfl, rfl⟩ := hw
  obtain ⟨hP1, hK1, hD1⟩ := hB
  rw [ht] at hP1
  exact kk _ rfl H1 locs1 hP1 (hD1.weaken (fun _ _ _ h => hF _ h)) hS1
end TPLR
end TPL
set_option maxHeartbeats 4000000 in
set_option maxRecDepth 100000 in
/-- calls: add, end -/
theorem lk_add_end (l : Launch) (D : va_G) (cy : Nat → ClassId) (n : Nat) (ad : Nat → Nat) (o : Int64) (I : Nat → Nat → Int32) (sa : Nat → Nat) (tL tM : Nat) (hlt : l.stackTraces = false) (w1 w2 w3 w4 : Int32) (hf : I 0 1 < 6) (hf0 : ¬ I 0 1 < 0) (he : ¬ I 0 2 < 48) : tp_L l yL_calls wsL_calls 7 111 1 6 D cy n ad sa tL tM [.ref (ad 0), .int 0, .int w1, .int w2, .int w3, .int w4] I o (-3) (I) o := by
  refine tp_ofL (lv := [(0, .ref (ad 0)), (1, .int 0), (2, .int w1), (3, .int w2), (4, .int w3), (5, .int w4)]) (by decide) rfl (Nat.le_of_ble_eq_true rfl) rfl (fun p e s m args below meth c A ls S0 hE htb => ?_)
  obtain ⟨hx, hb, hr, hml, hown, hts, hlocks, hA, hK, hP, hD, hS, hl⟩ := S0
  obtain ⟨-, -, -, hEw, hEc, -, -⟩ := id hE
  refine lv_iload_n hx hb dL_calls_0 rfl (lv_at hl 1 rfl) ?_
  refine lv_if_ne (tgt := 11) hx hb dL_calls_1 (by decide) (fun c0 => absurd rfl c0) (fun _ => ?_)
  refine lv_aload_n hx hb dL_calls_4 rfl (lv_at hl 0 rfl) ?_
  refine tp_callVT ⟨hx, hb, hml, hown, hts⟩ (op_add_end l D cy n ad o I sa tL tM hlt hf hf0 he) (cwV 0 hts gL_calls_X1_add rfl rfl rfl (by decide +kernel) ⟨(Nat.le_of_ble_eq_true rfl), (Nat.le_of_ble_eq_true rfl)⟩) hE hK hP hD hS hA 0 1 tp_e0 rfl rfl rfl hl.1 rfl (Nat.le_of_ble_eq_true rfl) dL_calls_5 ⟨(Nat.le_of_ble_eq_true rfl), (Nat.le_of_ble_eq_true rfl)⟩ (fun ce q9 H locs hce hcv hcl hP hD hS => ?_)
  refine vx_catch (own := RL) (E := "java/lang/IllegalStateException") (name := "java/lang/IllegalStateException") hown [] ⟨0, 47, 48, 27⟩ [] htb (fun z hz => nomatch hz) (by decide) (by decide) (hts _ (List.mem_of_getElem? (i := 1) rfl)) (va_Nw.use rfl (hEw _ (List.mem_of_getElem? (i := 17) rfl))) hce hcv hcl ?_
  refine lv_astore (lv' := [(6, .ref q9), (0, .ref (ad 0)), (1, .int 0), (2, .int w1), (3, .int w2), (4, .int w3), (5, .int w4)]) hx hb dL_calls_48 hl (by decide) rfl (fun ls hl => ?_)
  refine lv_bipush (v := -3) hx hb dL_calls_50 (by decide) ?_
  exact tp_retL hx hb hr hlocks hK hP hD hS rfl rfl rfl dL_calls_52
set_option maxHeartbeats 4000000 in
set_option maxRecDepth 100000 in
/-- calls: tell, ok -/
theorem lk_tell_ok (l : Launch) (D : va_G) (cy : Nat → ClassId) (n : Nat) (ad : Nat → Nat) (o : Int64) (I : Nat → Nat → Int32) (sa : Nat → Nat) (tL tM : Nat) (hlt : l.stackTraces = false) (i : Nat) (hi : i < n) (hn6 : n ≤ 6) (f0 d0 : Nat) (hf5 : f0 < 5) (hd0 : d0 < 1440) (v : Int32) (hv1 : ¬ v < tp_vl f0) (hv2 : v ≤ tp_vm f0) (h100 : I (9 + 15 * i) 2 < 100) (z0 : Nat) (hz1 : tp_r0 d0 ≤ z0) (hz2 : z0 ≤ 48) (hz3 : ∀ m, tp_r0 d0 ≤ m → m < z0 → I (9 + 15 * i + 8 + f0) m ≤ nI (tp_r0 d0)) (hz4 : z0 = 48 ∨ ¬ I (9 + 15 * i + 8 + f0) z0 ≤ nI (tp_r0 d0)) : tp_L l yL_calls wsL_calls 2 50 0 0 D cy n ad sa tL tM [.ref (ad 0), .int 1, .int (nI i), .int (nI f0), .int (nI d0), .int v] I o (nI (tp_r0 d0)) (tp_chg I (9 + 15 * i) f0 (tp_r0 d0) v (z0 - tp_r0 d0)) o := by
  refine tp_ofL (lv := [(0, .ref (ad 0)), (1, .int 1), (2, .int (nI i)), (3, .int (nI f0)), (4, .int (nI d0)), (5, .int v)]) (by decide) rfl (Nat.le_of_ble_eq_true rfl) rfl (fun p e s m args below meth c A ls S0 hE htb => ?_)
  obtain ⟨hx, hb, hr, hml, hown, hts, hlocks, hA, hK, hP, hD, hS, hl⟩ := S0
  obtain ⟨-, -, -, hEw, hEc, -, -⟩ := id hE
  refine lv_iload_n hx hb dL_calls_0 rfl (lv_at hl 1 rfl) ?_
  refine lv_if_ne (tgt := 11) hx hb dL_calls_1 (by decide) (fun _ => ?_) (fun c0 => absurd c0 (by decide))
  refine lv_iload_n hx hb dL_calls_11 rfl (lv_at hl 1 rfl) ?_
  refine lv_iconst (v := 1) hx hb dL_calls_12 (by decide) ?_
  refine lv_icmp_ne (tgt := 29) hx hb dL_calls_13 (by decide) (fun c0 => absurd rfl c0) (fun _ => ?_)
  refine lv_aload_n hx hb dL_calls_16 rfl (lv_at hl 0 rfl) ?_
  refine lv_iload_n hx hb dL_calls_17 rfl (lv_at hl 2 rfl) ?_
  refine lv_iload_n hx hb dL_calls_18 rfl (lv_at hl 3 rfl) ?_
  refine lv_iload hx hb dL_calls_19 (lv_at hl 4 rfl) ?_
  refine lv_iload hx hb dL_calls_21 (lv_at hl 5 rfl) ?_
  refine tp_callE ⟨hx, hb, hml, hown, hts⟩ (op_tell_ok l D cy n ad o I sa tL tM i hi hn6 f0 d0 hf5 hd0 v hv1 hv2 h100 z0 hz1 hz2 hz3 hz4) (cwV 4 hts gL_calls_X1_tell rfl rfl rfl (by decide +kernel) ⟨(Nat.le_of_ble_eq_true rfl), (Nat.le_of_ble_eq_true rfl)⟩) hE hK hP hD hS hA 0 1 tp_e0 rfl rfl rfl hl.1 rfl (Nat.le_of_ble_eq_true rfl) dL_calls_23 ⟨Nat.zero_le _, Nat.zero_le _⟩ (fun I9 e9 H locs hP hD hS => ?_)
  subst e9
  refine lv_goto (tgt := 47) hx hb dL_calls_26 (by decide) ?_
  exact tp_retL hx hb hr hlocks hK hP hD hS rfl rfl rfl dL_calls_47
set_option maxHeartbeats 4000000 in
set_option maxRecDepth 100000 in
/-- calls: payBack, less -/
theorem lk_payBack_less (l : Launch) (D : va_G) (cy : Nat → ClassId) (n : Nat) (ad : Nat → Nat) (o : Int64) (I : Nat → Nat → Int32) (sa : Nat → Nat) (tL tM : Nat) (hlt : l.stackTraces = false) (i : Nat) (hi : i < n) (hn6 : n ≤ 6) (x w3 w4 : Int32) (hx1 : ¬ x < 1) (hx2 : x ≤ 1000000) (hx3 : ¬ x ≤ I (9 + 15 * i) 6) : tp_L l yL_calls wsL_calls 7 113 1 6 D cy n ad sa tL tM [.ref (ad 0), .int 2, .int (nI i), .int x, .int w3, .int w4] I o (-3) (I) o := by
  refine tp_ofL (lv := [(0, .ref (ad 0)), (1, .int 2), (2, .int (nI i)), (3, .int x), (4, .int w3), (5, .int w4)]) (by decide) rfl (Nat.le_of_ble_eq_true rfl) rfl (fun p e s m args below meth c A ls S0 hE htb => ?_)
  obtain ⟨hx, hb, hr, hml, hown, hts, hlocks, hA, hK, hP, hD, hS, hl⟩ := S0
  obtain ⟨-, -, -, hEw, hEc, -, -⟩ := id hE
  refine lv_iload_n hx hb dL_calls_0 rfl (lv_at hl 1 rfl) ?_
  refine lv_if_ne (tgt := 11) hx hb dL_calls_1 (by decide) (fun _ => ?_) (fun c0 => absurd c0 (by decide))
  refine lv_iload_n hx hb dL_calls_11 rfl (lv_at hl 1 rfl) ?_
  refine lv_iconst (v := 1) hx hb dL_calls_12 (by decide) ?_
  refine lv_icmp_ne (tgt := 29) hx hb dL_calls_13 (by decide) (fun _ => ?_) (fun c0 => absurd c0 (by decide))
  refine lv_iload_n hx hb dL_calls_29 rfl (lv_at hl 1 rfl) ?_
  refine lv_iconst (v := 2) hx hb dL_calls_30 (by decide) ?_
  refine lv_icmp_ne (tgt := 43) hx hb dL_calls_31 (by decide) (fun c0 => absurd rfl c0) (fun _ => ?_)
  refine lv_aload_n hx hb dL_calls_34 rfl (lv_at hl 0 rfl) ?_
  refine lv_iload_n hx hb dL_calls_35 rfl (lv_at hl 2 rfl) ?_
  refine lv_iload_n hx hb dL_calls_36 rfl (lv_at hl 3 rfl) ?_
  refine tp_callVT ⟨hx, hb, hml, hown, hts⟩ (op_payBack_less l D cy n ad o I sa tL tM hlt i hi hn6 x hx1 hx2 hx3) (cwV 2 hts gL_calls_X1_payBack rfl rfl rfl (by decide +kernel) ⟨(Nat.le_of_ble_eq_true rfl), (Nat.le_of_ble_eq_true rfl)⟩) hE hK hP hD hS hA 0 1 tp_e0 rfl rfl rfl hl.1 rfl (Nat.le_of_ble_eq_true rfl) dL_calls_37 ⟨(Nat.le_of_ble_eq_true rfl), (Nat.le_of_ble_eq_true rfl)⟩ (fun ce q9 H locs hce hcv hcl hP hD hS => ?_)
  refine vx_catch (own := RL) (E := "java/lang/IllegalStateException") (name := "java/lang/IllegalStateException") hown [] ⟨0, 47, 48, 27⟩ [] htb (fun z hz => nomatch hz) (by decide) (by decide) (hts _ (List.mem_of_getElem? (i := 1) rfl)) (va_Nw.use rfl (hEw _ (List.mem_of_getElem? (i := 17) rfl))) hce hcv hcl ?_
  refine lv_astore (lv' := [(6, .ref q9), (0, .ref (ad 0)), (1, .int 2), (2, .int (nI i)), (3, .int x), (4, .int w3), (5, .int w4)]) hx hb dL_calls_48 hl (by decide) rfl (fun ls hl => ?_)
  refine lv_bipush (v := -3) hx hb dL_calls_50 (by decide) ?_
  exact tp_retL hx hb hr hlocks hK hP hD hS rfl rfl rfl dL_calls_52
set_option maxHeartbeats 4000000 in
set_option maxRecDepth 100000 in
/-- calls: payBack, ok -/
theorem lk_payBack_ok (l : Launch) (D : va_G) (cy : Nat → ClassId) (n : Nat) (ad : Nat → Nat) (o : Int64) (I : Nat → Nat → Int32) (sa : Nat → Nat) (tL tM : Nat) (hlt : l.stackTraces = false) (i : Nat) (hi : i < n) (hn6 : n ≤ 6) (x w3 w4 : Int32) (hx1 : ¬ x < 1) (hx2 : x ≤ 1000000) (hx3 : x ≤ I (9 + 15 * i) 6) : tp_L l yL_calls wsL_calls 2 45 0 0 D cy n ad sa tL tM [.ref (ad 0), .int 2, .int (nI i), .int x, .int w3, .int w4] I o (I (9 + 15 * i) 6 - x) (tp_u (tp_u I (9 + 15 * i) 6 (I (9 + 15 * i) 6 - x)) (9 + 15 * i) 7 (I (9 + 15 * i) 7 + x)) o := by
  refine tp_ofL (lv := [(0, .ref (ad 0)), (1, .int 2), (2, .int (nI i)), (3, .int x), (4, .int w3), (5, .int w4)]) (by decide) rfl (Nat.le_of_ble_eq_true rfl) rfl (fun p e s m args below meth c A ls S0 hE htb => ?_)
  obtain ⟨hx, hb, hr, hml, hown, hts, hlocks, hA, hK, hP, hD, hS, hl⟩ := S0
  obtain ⟨-, -, -, hEw, hEc, -, -⟩ := id hE
  refine lv_iload_n hx hb dL_calls_0 rfl (lv_at hl 1 rfl) ?_
  refine lv_if_ne (tgt := 11) hx hb dL_calls_1 (by decide) (fun _ => ?_) (fun c0 => absurd c0 (by decide))
  refine lv_iload_n hx hb dL_calls_11 rfl (lv_at hl 1 rfl) ?_
  refine lv_iconst (v := 1) hx hb dL_calls_12 (by decide) ?_
  refine lv_icmp_ne (tgt := 29) hx hb dL_calls_13 (by decide) (fun _ => ?_) (fun c0 => absurd c0 (by decide))
  refine lv_iload_n hx hb dL_calls_29 rfl (lv_at hl 1 rfl) ?_
  refine lv_iconst (v := 2) hx hb dL_calls_30 (by decide) ?_
  refine lv_icmp_ne (tgt := 43) hx hb dL_calls_31 (by decide) (fun c0 => absurd rfl c0) (fun _ => ?_)
  refine lv_aload_n hx hb dL_calls_34 rfl (lv_at hl 0 rfl) ?_
  refine lv_iload_n hx hb dL_calls_35 rfl (lv_at hl 2 rfl) ?_
  refine lv_iload_n hx hb dL_calls_36 rfl (lv_at hl 3 rfl) ?_
  refine tp_callE ⟨hx, hb, hml, hown, hts⟩ (op_payBack_ok l D cy n ad o I sa tL tM i hi hn6 x hx1 hx2 hx3) (cwV 2 hts gL_calls_X1_payBack rfl rfl rfl (by decide +kernel) ⟨(Nat.le_of_ble_eq_true rfl), (Nat.le_of_ble_eq_true rfl)⟩) hE hK hP hD hS hA 0 1 tp_e0 rfl rfl rfl hl.1 rfl (Nat.le_of_ble_eq_true rfl) dL_calls_37 ⟨Nat.zero_le _, Nat.zero_le _⟩ (fun I9 e9 H locs hP hD hS => ?_)
  subst e9
  refine lv_goto (tgt := 47) hx hb dL_calls_40 (by decide) ?_
  exact tp_retL hx hb hr hlocks hK hP hD hS rfl rfl rfl dL_calls_47
set_option maxHeartbeats 4000000 in
set_option maxRecDepth 100000 in
/-- calls: close, end -/
theorem lk_close_end (l : Launch) (D : va_G) (cy : Nat → ClassId) (n : Nat) (ad : Nat → Nat) (o : Int64) (I : Nat → Nat → Int32) (sa : Nat → Nat) (tL tM : Nat) (hlt : l.stackTraces = false) (w1 w2 w3 w4 : Int32) (he : ¬ I 0 2 < 48) : tp_L l yL_calls wsL_calls 7 115 1 6 D cy n ad sa tL tM [.ref (ad 0), .int 3, .int w1, .int w2, .int w3, .int w4] I o (-3) (I) o := by
  refine tp_ofL (lv := [(0, .ref (ad 0)), (1, .int 3), (2, .int w1), (3, .int w2), (4, .int w3), (5, .int w4)]) (by decide) rfl (Nat.le_of_ble_eq_true rfl) rfl (fun p e s m args below meth c A ls S0 hE htb => ?_)
  obtain ⟨hx, hb, hr, hml, hown, hts, hlocks, hA, hK, hP, hD, hS, hl⟩ := S0
  obtain ⟨-, -, -, hEw, hEc, -, -⟩ := id hE
  refine lv_iload_n hx hb dL_calls_0 rfl (lv_at hl 1 rfl) ?_
  refine lv_if_ne (tgt := 11) hx hb dL_calls_1 (by decide) (fun _ => ?_) (fun c0 => absurd c0 (by decide))
  refine lv_iload_n hx hb dL_calls_11 rfl (lv_at hl 1 rfl) ?_
  refine lv_iconst (v := 1) hx hb dL_calls_12 (by decide) ?_
  refine lv_icmp_ne (tgt := 29) hx hb dL_calls_13 (by decide) (fun _ => ?_) (fun c0 => absurd c0 (by decide))
  refine lv_iload_n hx hb dL_calls_29 rfl (lv_at hl 1 rfl) ?_
  refine lv_iconst (v := 2) hx hb dL_calls_30 (by decide) ?_
  refine lv_icmp_ne (tgt := 43) hx hb dL_calls_31 (by decide) (fun _ => ?_) (fun c0 => absurd c0 (by decide))
  refine lv_aload_n hx hb dL_calls_43 rfl (lv_at hl 0 rfl) ?_
  refine tp_callVT ⟨hx, hb, hml, hown, hts⟩ (op_close_end l D cy n ad o I sa tL tM hlt he) (cwV 0 hts gL_calls_X1_close rfl rfl rfl (by decide +kernel) ⟨(Nat.le_of_ble_eq_true rfl), (Nat.le_of_ble_eq_true rfl)⟩) hE hK hP hD hS hA 0 1 tp_e0 rfl rfl rfl hl.1 rfl (Nat.le_of_ble_eq_true rfl) dL_calls_44 ⟨(Nat.le_of_ble_eq_true rfl), (Nat.le_of_ble_eq_true rfl)⟩ (fun ce q9 H locs hce hcv hcl hP hD hS => ?_)
  refine vx_catch (own := RL) (E := "java/lang/IllegalStateException") (name := "java/lang/IllegalStateException") hown [] ⟨0, 47, 48, 27⟩ [] htb (fun z hz => nomatch hz) (by decide) (by decide) (hts _ (List.mem_of_getElem? (i := 1) rfl)) (va_Nw.use rfl (hEw _ (List.mem_of_getElem? (i := 17) rfl))) hce hcv hcl ?_
  refine lv_astore (lv' := [(6, .ref q9), (0, .ref (ad 0)), (1, .int 3), (2, .int w1), (3, .int w2), (4, .int w3), (5, .int w4)]) hx hb dL_calls_48 hl (by decide) rfl (fun ls hl => ?_)
  refine lv_bipush (v := -3) hx hb dL_calls_50 (by decide) ?_
  exact tp_retL hx hb hr hlocks hK hP hD hS rfl rfl rfl dL_calls_52
set_option maxHeartbeats 4000000 in
set_option maxRecDepth 100000 in
/-- calls: close, ok -/
theorem lk_close_ok (l : Launch) (D : va_G) (cy : Nat → ClassId) (n : Nat) (ad : Nat → Nat) (o : Int64) (I : Nat → Nat → Int32) (sa : Nat → Nat) (tL tM : Nat) (hlt : l.stackTraces = false) (w1 w2 w3 w4 : Int32) (aF : Nat → Nat) (e0 : Nat) (hn6 : n ≤ 6) (he : I 0 2 = nI e0) (he8 : e0 < 48) (ha : ∀ h, h < n → I (9 + 15 * h) 3 = nI (aF h)) (ha8 : ∀ h, h < n → aF h ≤ e0) : tp_L l yL_calls wsL_calls 7 162 0 0 D cy n ad sa tL tM [.ref (ad 0), .int 3, .int w1, .int w2, .int w3, .int w4] I o (tp_osum I aF e0 n) (tp_u (tp_ost I aF e0 n) 0 2 (nI (e0 + 1))) o := by
  refine tp_ofL (lv := [(0, .ref (ad 0)), (1, .int 3), (2, .int w1), (3, .int w2), (4, .int w3), (5, .int w4)]) (by decide) rfl (Nat.le_of_ble_eq_true rfl) rfl (fun p e s m args below meth c A ls S0 hE htb => ?_)
  obtain ⟨hx, hb, hr, hml, hown, hts, hlocks, hA, hK, hP, hD, hS, hl⟩ := S0
  obtain ⟨-, -, -, hEw, hEc, -, -⟩ := id hE
  refine lv_iload_n hx hb dL_calls_0 rfl (lv_at hl 1 rfl) ?_
  refine lv_if_ne (tgt := 11) hx hb dL_calls_1 (by decide) (fun _ => ?_) (fun c0 => absurd c0 (by decide))
  refine lv_iload_n hx hb dL_calls_11 rfl (lv_at hl 1 rfl) ?_
  refine lv_iconst (v := 1) hx hb dL_calls_12 (by decide) ?_
  refine lv_icmp_ne (tgt := 29) hx hb dL_calls_13 (by decide) (fun _ => ?_) (fun c0 => absurd c0 (by decide))
  refine lv_iload_n hx hb dL_calls_29 rfl (lv_at hl 1 rfl) ?_
  refine lv_iconst (v := 2) hx hb dL_calls_30 (by decide) ?_
  refine lv_icmp_ne (tgt := 43) hx hb dL_calls_31 (by decide) (fun _ => ?_) (fun c0 => absurd c0 (by decide))
  refine lv_aload_n hx hb dL_calls_43 rfl (lv_at hl 0 rfl) ?_
  refine tp_callE ⟨hx, hb, hml, hown, hts⟩ (op_close_ok l D cy n ad o I sa tL tM aF e0 hn6 he he8 ha ha8) (cwV 0 hts gL_calls_X1_close rfl rfl rfl (by decide +kernel) ⟨(Nat.le_of_ble_eq_true rfl), (Nat.le_of_ble_eq_true rfl)⟩) hE hK hP hD hS hA 0 1 tp_e0 rfl rfl rfl hl.1 rfl (Nat.le_of_ble_eq_true rfl) dL_calls_44 ⟨Nat.zero_le _, Nat.zero_le _⟩ (fun I9 e9 H locs hP hD hS => ?_)
  subst e9
  exact tp_retL hx hb hr hlocks hK hP hD hS rfl rfl rfl dL_calls_47
/-- calls: add; the world grows -/
def tp_LA (l : Launch) (D : va_G) (cy : Nat → ClassId) (n : Nat) (ad : Nat → Nat) (sa : Nat → Nat) (tL tM : Nat) (I : Nat → Nat → Int32) (o : Int64) (e0 : Nat) (w1 w2 w3 w4 : Int32) : Prop :=
  ∀ sz : Nat, Met l yL_calls wsL_calls { frames := 3, cells := 15, slots := 595, locals := 63 } (va_Pc [.ref (ad 0), .int 0, .int w1, .int w2, .int w3, .int w4] (tp_PE D cy n ad I o sa tL tM sz)) (va_Qi (fun x (u : Nat → Nat) => x = nI n ∧ ∀ k, k < 9 + 15 * n → u k = ad k) (fun u t => va_P D vwCl (tp_w cy (n + 1) u (tp_u (tp_gI n I (nI e0)) 0 1 (nI (n + 1))) o) t.heap ∧ va_K D vwCl (tp_ty cy) t ∧ va_D (va_A (tp_w cy n ad I o) sz) (tp_w cy (n + 1) u (tp_u (tp_gI n I (nI e0)) 0 1 (nI (n + 1))) o)) (va_A (tp_w cy n ad I o) sz)) 15 595 (va_A (tp_w cy n ad I o) sz)
set_option maxHeartbeats 4000000 in
set_option maxRecDepth 100000 in
theorem lk_add_ok (l : Launch) (D : va_G) (cy : Nat → ClassId) (n : Nat) (ad : Nat → Nat) (o : Int64) (I : Nat → Nat → Int32) (sa : Nat → Nat) (tL tM : Nat) (e0 : Nat) (w1 w2 w3 w4 : Int32) (hn6 : n < 6) (hna : I 0 1 = nI n) (he : I 0 2 = nI e0) (he8 : e0 < 48) : tp_LA l D cy n ad sa tL tM I o e0 w1 w2 w3 w4 := by
  intro sz
  refine va_MetW (cc := cL_calls) (maxL := 7) (ret := some .int) (hh := [(0, 47, 48, 27)]) (by decide) rfl ?_
  intro p e s m args below meth cc9 s₁ B hml hv
  obtain ⟨rfl, ⟨hsz, hP, hK, hD0⟩, hE⟩ := hv
  subst hsz
  have hx := B.exec
  have hb := B.bytes
  have hr := B.returns
  have hts := atoms_spec (ws := wsL_calls) B.pre
  have hlocks := B.notSynchronized
  have hown : s.vm.findClass RL = some m.cls := findClass_of_methodNamed B.named
  have hD := hD0.self (sz := s.heap.size)
  generalize hAe : va_A (tp_w cy n ad I o) s.heap.size = A at hD hE ⊢
  have hA : ∀ q : Nat, s.heap.size ≤ q → A q := fun q h => by rw [← hAe]; exact Or.inr h
  have hS : va_S A s.heap s.heap [] := va_S.rf
  have hl := lv_entry ([.ref (ad 0), .int 0, .int w1, .int w2, .int w3, .int w4]) (n := 7) (Nat.le_of_ble_eq_true rfl)
  rw [lg_entry_eq]
  generalize (lg_sl ([.ref (ad 0), .int 0, .int w1, .int w2, .int w3, .int w4]) ++ List.replicate (7 - (lg_sl ([.ref (ad 0), .int 0, .int w1, .int w2, .int w3, .int w4])).length) Slot.unset).toArray = ls at hl ⊢
  have hl : lv_has ls 7 [(0, .ref (ad 0)), (1, .int 0), (2, .int w1), (3, .int w2), (4, .int w3), (5, .int w4)] := hl
  have hF := tp_fr hD hS hA
  refine lv_iload_n hx hb dL_calls_0 rfl (lv_at hl 1 rfl) ?_
  refine lv_if_ne (tgt := 11) hx hb dL_calls_1 (by decide) (fun c0 => absurd rfl c0) (fun _ => ?_)
  refine lv_aload_n hx hb dL_calls_4 rfl (lv_at hl 0 rfl) ?_
  refine va_calli (va_runV (As := []) (rest := []) ⟨hx, hb, hml, hown, hts⟩ (op_add_ok l D cy n ad o I sa tL tM e0 hn6 hna he he8 s.heap.size) (cwV 0 hts gL_calls_X1_add rfl rfl rfl (by decide +kernel) ⟨(Nat.le_of_ble_eq_true rfl), (Nat.le_of_ble_eq_true rfl)⟩) ⟨tp_blindE, va_recv (ci := 1) (q0 := 0) hK hP rfl tp_e0, fun U hU hW => ⟨rfl, ⟨by rw [hU], by rw [hU]; exact hP, va_K.moved hW.alike hK, hD.weaken (fun _ _ _ _ => trivial)⟩, tp_EV.go hE hW hU hS hF⟩⟩ rfl rfl hl.1 rfl (lv_room (Nat.le_of_ble_eq_true rfl)) dL_calls_5 ⟨(Nat.le_of_ble_eq_true rfl), (Nat.le_of_ble_eq_true rfl)⟩) hS (fun q _ h => hF q h) hF (fun r1 u t H locs ht hvm hw hB hz1 hk1 hS => ?_)
  obtain ⟨rfl, hu⟩ := hw
  obtain ⟨hP1, hK1, hD1⟩ := hB
  rw [ht] at hP1
  have hD1 := hD1.weaken (B := A) (fun _ _ _ h => hF _ h)
  refine lv_goto (tgt := 47) hx hb dL_calls_8 (by decide) ?_
  exact W.zret (v := nI n) (ty := .int) hx hb hr rfl (fun t ht hW => ⟨⟨nI n, u, rfl, ⟨rfl, hu⟩, by rw [ht]; exact hP1, va_K.moved hW.alike hK, hD1⟩, hS.F ht⟩) hS.2.2 dL_calls_47
end
section
/-! THE LAW HOLDS A HOUSEHOLD AGAINST ITS OWN RECKONING -/
def tl_mo (z : Int32) (e t : Nat) : Nat := if t = 0 then e % 48 else tl_low (tl_shr z (nI (3 * t))) 48
theorem tl_mo_lt (z : Int32) (e t : Nat) : tl_mo z e t < 48 := by
  unfold tl_mo
  by_cases q : t = 0
  · rw [if_pos q]
    exact Nat.mod_lt _ (by decide)
  · rw [if_neg q]
    exact tl_low_lt (by decide)
theorem tl_mo0 {z : Int32} {e t : Nat} (ht : t < 4) (c : nI t = 0) : nI (e % 48) = nI (tl_mo z e t) := by
  have q : t = 0 := tp_nIj (b := 0) c (by omega) (by decide)
  unfold tl_mo
  rw [if_pos q]
theorem tl_mo1 {z : Int32} {e t : Nat} (c : ¬ nI t = 0) : nI (tl_low (tl_shr z (nI (3 * t))) 48) = nI (tl_mo z e t) := by
  unfold tl_mo
  rw [if_neg (fun q => c (by subst q; decide))]
set_option maxHeartbeats 4000000 in
set_option maxRecDepth 100000 in
/-- isHome, a month is current -/
theorem lf_isHome_a (l : Launch) (D : va_G) (cy : Nat → ClassId) (n : Nat) (ad : Nat → Nat) (o : Int64) (I : Nat → Nat → Int32) (sa : Nat → Nat) (tL tM : Nat) (h c0 : Nat) (hF : tq_F I h c0) (e0 a0 : Nat) (hB : tq_B I h e0 a0) (hi : h < n) (hn6 : n ≤ 6) (hc3 : I (9 + 15 * h) 3 = nI a0) (hc0 : I 0 2 = nI e0) (z : Int32) (he48 : e0 < 48) : tp_IE l yL_isHome wsL_isHome (tp_rm 6 136) D cy n ad o sa tL tM [.ref (ad (0)), .int (nI h), .int z, .ref (ad (3)), .ref (ad (4)), .ref (ad (5 + h)), .ref (ad (7 + h)), .ref (ad (2))] I (1) (I) := by
  obtain ⟨⟨hh, ha8, he8, he, ha⟩, hA13, hd6, hd7, hd8, hd01, hd0, hdm⟩ := id hB
  refine tp_ofIE (lv := [(0, .ref (ad (0))), (1, .int (nI h)), (2, .int z), (3, .ref (ad (3))), (4, .ref (ad (4))), (5, .ref (ad (5 + h))), (6, .ref (ad (7 + h))), (7, .ref (ad (2)))]) (by decide) rfl (Nat.le_of_ble_eq_true rfl) rfl (fun p e s m args below meth c A ls S0 hE => ?_)
  obtain ⟨hx, hb, hr, hml, hown, hts, hlocks, hA, hK, hP, hD, hS, hl⟩ := S0
  obtain ⟨-, ⟨hEL, hEM⟩, -, hEw, -, hEa, hEo⟩ := id hE
  refine lv_aload_n hx hb dL_isHome_0 rfl (lv_at hl 0 rfl) ?_
  refine lv_iload_n hx hb dL_isHome_1 rfl (lv_at hl 1 rfl) ?_
  refine tp_callE ⟨hx, hb, hml, hown, hts⟩ (op_debt_ok l D cy n ad o I sa tL tM h hi hn6) (cwV 1 hts gL_isHome_X1_debt rfl rfl rfl (by decide +kernel) ⟨Nat.le_of_ble_eq_true rfl, Nat.le_of_ble_eq_true rfl⟩) hE hK hP hD hS hA 0 1 tp_e0 rfl rfl rfl hl.1 rfl (Nat.le_of_ble_eq_true rfl) dL_isHome_2 ⟨Nat.zero_le _, Nat.zero_le _⟩ (fun I9 e9 H locs hP hD hS => ?_)
  subst e9
  refine lv_aload hx hb dL_isHome_5 (lv_at hl 7 rfl) ?_
  refine lv_bipush (v := 6) hx hb dL_isHome_7 (by decide) ?_
  refine lv_iload_n hx hb dL_isHome_9 rfl (lv_at hl 1 rfl) ?_
  refine lv_iadd hx hb dL_isHome_10 ?_
  refine tp_eqi (y := nI (6 + h)) (nI_add 6 h) ?_
  refine tp_iald hx hb hK hP (2) 12 ((6 + h)) (by omega) rfl rfl (by omega) (by decide) dL_isHome_11 ?_
  refine lv_icmp_ne (tgt := 85) hx hb dL_isHome_12 (by decide) (fun c => absurd hd6 c) (fun _ => ?_)
  refine lv_aload_n hx hb dL_isHome_15 rfl (lv_at hl 0 rfl) ?_
  refine lv_iload_n hx hb dL_isHome_16 rfl (lv_at hl 1 rfl) ?_
  refine tp_callE ⟨hx, hb, hml, hown, hts⟩ (op_recovered_ok l D cy n ad o I sa tL tM h hi hn6) (cwV 1 hts gL_isHome_X1_recovered rfl rfl rfl (by decide +kernel) ⟨Nat.le_of_ble_eq_true rfl, Nat.le_of_ble_eq_true rfl⟩) hE hK hP hD hS hA 0 1 tp_e0 rfl rfl rfl hl.1 rfl (Nat.le_of_ble_eq_true rfl) dL_isHome_17 ⟨Nat.zero_le _, Nat.zero_le _⟩ (fun I9 e9 H locs hP hD hS => ?_)
  subst e9
  refine lv_aload hx hb dL_isHome_20 (lv_at hl 7 rfl) ?_
  refine lv_bipush (v := 8) hx hb dL_isHome_22 (by decide) ?_
  refine lv_iload_n hx hb dL_isHome_24 rfl (lv_at hl 1 rfl) ?_
  refine lv_iadd hx hb dL_isHome_25 ?_
  refine tp_eqi (y := nI (8 + h)) (nI_add 8 h) ?_
  refine tp_iald hx hb hK hP (2) 12 ((8 + h)) (by omega) rfl rfl (by omega) (by decide) dL_isHome_26 ?_
  refine lv_icmp_ne (tgt := 85) hx hb dL_isHome_27 (by decide) (fun c => absurd hd7 c) (fun _ => ?_)
  refine lv_aload_n hx hb dL_isHome_30 rfl (lv_at hl 0 rfl) ?_
  refine lv_iload_n hx hb dL_isHome_31 rfl (lv_at hl 1 rfl) ?_
  refine tp_callE ⟨hx, hb, hml, hown, hts⟩ (op_unassessed_ok l D cy n ad o I sa tL tM h hi hn6 a0 e0 hc3 hc0 (by omega) he8) (cwV 1 hts gL_isHome_X1_unassessed rfl rfl rfl (by decide +kernel) ⟨Nat.le_of_ble_eq_true rfl, Nat.le_of_ble_eq_true rfl⟩) hE hK hP hD hS hA 0 1 tp_e0 rfl rfl rfl hl.1 rfl (Nat.le_of_ble_eq_true rfl) dL_isHome_32 ⟨Nat.zero_le _, Nat.zero_le _⟩ (fun I9 e9 H locs hP hD hS => ?_)
  subst e9
  refine lv_iload_n hx hb dL_isHome_35 rfl (lv_at hl 1 rfl) ?_
  refine lv_aload_n hx hb dL_isHome_36 rfl (lv_at hl 3 rfl) ?_
  refine lv_aload hx hb dL_isHome_37 (lv_at hl 4 rfl) ?_
  refine lv_aload hx hb dL_isHome_39 (lv_at hl 5 rfl) ?_
  refine lv_aload hx hb dL_isHome_41 (lv_at hl 7 rfl) ?_
  refine tp_callS ⟨hx, hb, hml, hown, hts⟩ (lf_open l D cy n ad o I h c0 hF e0 a0 hB) (va_cwS 5 hts gL_isHome_L_open rfl rfl rfl (by decide +kernel) ⟨Nat.le_of_ble_eq_true rfl, Nat.le_of_ble_eq_true rfl⟩) hK hP hD hS hA rfl hl.1 rfl (Nat.le_of_ble_eq_true rfl) dL_isHome_43 ⟨Nat.zero_le _, Nat.zero_le _⟩ (fun I9 e9 H locs hP hD hS => ?_)
  subst e9
  refine lv_icmp_ne (tgt := 85) hx hb dL_isHome_46 (by decide) (fun c => absurd rfl c) (fun _ => ?_)
  refine lv_aload_n hx hb dL_isHome_49 rfl (lv_at hl 0 rfl) ?_
  refine lv_iload_n hx hb dL_isHome_50 rfl (lv_at hl 1 rfl) ?_
  refine tp_callE ⟨hx, hb, hml, hown, hts⟩ (op_wouldPay_ok l D cy n ad o I sa tL tM h hi hn6 a0 e0 hc3 hc0 (by omega) he48) (cwV 1 hts gL_isHome_X1_wouldPay rfl rfl rfl (by decide +kernel) ⟨Nat.le_of_ble_eq_true rfl, Nat.le_of_ble_eq_true rfl⟩) hE hK hP hD hS hA 0 1 tp_e0 rfl rfl rfl hl.1 rfl (Nat.le_of_ble_eq_true rfl) dL_isHome_51 ⟨Nat.zero_le _, Nat.zero_le _⟩ (fun I9 e9 H locs hP hD hS => ?_)
  subst e9
  refine lv_aload hx hb dL_isHome_54 (lv_at hl 7 rfl) ?_
  refine lv_iconst (v := 0) hx hb dL_isHome_56 (by decide) ?_
  refine tp_iald hx hb hK hP (2) 12 (0) (by omega) rfl (by decide) (by decide) (by decide) dL_isHome_57 ?_
  refine tp_eqi (y := nI e0) he ?_
  refine lv_bipush (v := 48) hx hb dL_isHome_58 (by decide) ?_
  refine lv_icmp_ne (tgt := 67) hx hb dL_isHome_60 (by decide) (fun _ => ?_) (fun c => absurd c (fun q => absurd (tp_nIj (b := 48) q (by omega) (by decide)) (by omega)))
  refine lv_iload_n hx hb dL_isHome_67 rfl (lv_at hl 1 rfl) ?_
  refine lv_aload_n hx hb dL_isHome_68 rfl (lv_at hl 3 rfl) ?_
  refine lv_aload hx hb dL_isHome_69 (lv_at hl 4 rfl) ?_
  refine lv_aload hx hb dL_isHome_71 (lv_at hl 5 rfl) ?_
  refine lv_aload hx hb dL_isHome_73 (lv_at hl 7 rfl) ?_
  refine tp_callS ⟨hx, hb, hml, hown, hts⟩ (lf_pays l D cy n ad o I h c0 hF e0 a0 hB he48) (va_cwS 5 hts gL_isHome_L_pays rfl rfl rfl (by decide +kernel) ⟨Nat.le_of_ble_eq_true rfl, Nat.le_of_ble_eq_true rfl⟩) hK hP hD hS hA rfl hl.1 rfl (Nat.le_of_ble_eq_true rfl) dL_isHome_75 ⟨Nat.zero_le _, Nat.zero_le _⟩ (fun I9 e9 H locs hP hD hS => ?_)
  subst e9
  refine lv_icmp_ne (tgt := 85) hx hb dL_isHome_78 (by decide) (fun c => absurd rfl c) (fun _ => ?_)
  refine lv_iconst (v := 1) hx hb dL_isHome_81 (by decide) ?_
  refine lv_goto (tgt := 86) hx hb dL_isHome_82 (by decide) ?_
  refine lv_istore (lv' := [(8, .int 1), (0, .ref (ad (0))), (1, .int (nI h)), (2, .int z), (3, .ref (ad (3))), (4, .ref (ad (4))), (5, .ref (ad (5 + h))), (6, .ref (ad (7 + h))), (7, .ref (ad (2)))]) hx hb dL_isHome_86 hl (by decide) rfl (fun ls hl => ?_)
  refine lv_iconst (v := 0) hx hb dL_isHome_88 (by decide) ?_
  refine lv_istore (lv' := [(9, .int 0), (8, .int 1), (0, .ref (ad (0))), (1, .int (nI h)), (2, .int z), (3, .ref (ad (3))), (4, .ref (ad (4))), (5, .ref (ad (5 + h))), (6, .ref (ad (7 + h))), (7, .ref (ad (2)))]) hx hb dL_isHome_89 hl (by decide) rfl (fun ls hl => ?_)
  have hl : lv_has ls 12 [(9, .int (nI 0)), (8, .int 1), (0, .ref (ad (0))), (1, .int (nI h)), (2, .int z), (3, .ref (ad (3))), (4, .ref (ad (4))), (5, .ref (ad (5 + h))), (6, .ref (ad (7 + h))), (7, .ref (ad (2)))] := lv_sub hl [0, 1, 2, 3, 4, 5, 6, 7, 8, 9] rfl
  refine tp_for (nL := 12) 48 (fun _ => I) (fun t => [(9, .int (nI t)), (8, .int 1), (0, .ref (ad (0))), (1, .int (nI h)), (2, .int z), (3, .ref (ad (3))), (4, .ref (ad (4))), (5, .ref (ad (5 + h))), (6, .ref (ad (7 + h))), (7, .ref (ad (2)))]) (fun t htt ls H locs hl hP hD hS iht => ?_) (fun ls H locs hl hP hD hS => ?_) hl hP hD hS
  · refine lv_iload hx hb dL_isHome_91 (lv_at hl 0 rfl) ?_
    refine lv_bipush (v := 48) hx hb dL_isHome_93 (by decide) ?_
    refine lv_icmp_ge (tgt := 146) hx hb dL_isHome_95 (by decide) (fun c => absurd c (nI_ge (a := t) (b := 48) (by omega) (by decide))) (fun _ => ?_)
    refine lv_iload hx hb dL_isHome_98 (lv_at hl 1 rfl) ?_
    refine lv_if_eq (tgt := 146) hx hb dL_isHome_100 (by decide) (fun c => absurd c (by decide)) (fun _ => ?_)
    refine lv_aload_n hx hb dL_isHome_103 rfl (lv_at hl 2 rfl) ?_
    refine lv_iload_n hx hb dL_isHome_104 rfl (lv_at hl 3 rfl) ?_
    refine lv_iload hx hb dL_isHome_105 (lv_at hl 0 rfl) ?_
    refine tp_callE ⟨hx, hb, hml, hown, hts⟩ (op_assessed_ok l D cy n ad o I sa tL tM h hi hn6 t (by omega)) (cwV 2 hts gL_isHome_X1_assessed rfl rfl rfl (by decide +kernel) ⟨Nat.le_of_ble_eq_true rfl, Nat.le_of_ble_eq_true rfl⟩) hE hK hP hD hS hA 0 1 tp_e0 rfl rfl rfl hl.1 rfl (Nat.le_of_ble_eq_true rfl) dL_isHome_107 ⟨Nat.zero_le _, Nat.zero_le _⟩ (fun I9 e9 H locs hP hD hS => ?_)
    subst e9
    refine lv_aload hx hb dL_isHome_110 (lv_at hl 7 rfl) ?_
    refine lv_iload hx hb dL_isHome_112 (lv_at hl 0 rfl) ?_
    refine tp_iald hx hb hK hP (5 + h) 48 (t) (by omega) (tl_cA hh) rfl (by omega) (by decide) dL_isHome_114 ?_
    refine lv_icmp_ne (tgt := 137) hx hb dL_isHome_115 (by decide) (fun c => absurd (hA13 t htt).1 c) (fun _ => ?_)
    refine lv_aload_n hx hb dL_isHome_118 rfl (lv_at hl 2 rfl) ?_
    refine lv_iload_n hx hb dL_isHome_119 rfl (lv_at hl 3 rfl) ?_
    refine lv_iload hx hb dL_isHome_120 (lv_at hl 0 rfl) ?_
    refine tp_callE ⟨hx, hb, hml, hown, hts⟩ (op_paid_ok l D cy n ad o I sa tL tM h hi hn6 t (by omega)) (cwV 2 hts gL_isHome_X1_paid rfl rfl rfl (by decide +kernel) ⟨Nat.le_of_ble_eq_true rfl, Nat.le_of_ble_eq_true rfl⟩) hE hK hP hD hS hA 0 1 tp_e0 rfl rfl rfl hl.1 rfl (Nat.le_of_ble_eq_true rfl) dL_isHome_122 ⟨Nat.zero_le _, Nat.zero_le _⟩ (fun I9 e9 H locs hP hD hS => ?_)
    subst e9
    refine lv_aload hx hb dL_isHome_125 (lv_at hl 8 rfl) ?_
    refine lv_iload hx hb dL_isHome_127 (lv_at hl 0 rfl) ?_
    refine tp_iald hx hb hK hP (7 + h) 48 (t) (by omega) (tl_cP hh) rfl (by omega) (by decide) dL_isHome_129 ?_
    refine lv_icmp_ne (tgt := 137) hx hb dL_isHome_130 (by decide) (fun c => absurd (hA13 t htt).2.1 c) (fun _ => ?_)
    refine lv_iconst (v := 1) hx hb dL_isHome_133 (by decide) ?_
    refine lv_goto (tgt := 138) hx hb dL_isHome_134 (by decide) ?_
    refine lv_istore (lv' := [(8, .int 1), (9, .int (nI t)), (0, .ref (ad (0))), (1, .int (nI h)), (2, .int z), (3, .ref (ad (3))), (4, .ref (ad (4))), (5, .ref (ad (5 + h))), (6, .ref (ad (7 + h))), (7, .ref (ad (2)))]) hx hb dL_isHome_138 hl (by decide) rfl (fun ls hl => ?_)
    refine lv_iinc (v := (nI (t + 1))) (lv' := [(9, .int (nI (t + 1))), (8, .int 1), (0, .ref (ad (0))), (1, .int (nI h)), (2, .int z), (3, .ref (ad (3))), (4, .ref (ad (4))), (5, .ref (ad (5 + h))), (6, .ref (ad (7 + h))), (7, .ref (ad (2)))]) hx hb dL_isHome_140 hl (k := 1) rfl (nI_1 _) (by decide) rfl (fun ls hl => ?_)
    refine lv_goto (tgt := 91) hx hb dL_isHome_143 (by decide) ?_
    exact iht ls H locs (lv_sub hl [0, 1, 2, 3, 4, 5, 6, 7, 8, 9] rfl) hP hD hS
  refine lv_iload hx hb dL_isHome_91 (lv_at hl 0 rfl) ?_
  refine lv_bipush (v := 48) hx hb dL_isHome_93 (by decide) ?_
  refine lv_icmp_ge (tgt := 146) hx hb dL_isHome_95 (by decide) (fun _ => ?_) (fun c => absurd (nI_le (a := 48) (b := 48) (by decide) (by decide)) c)
  refine lv_iconst (v := 0) hx hb dL_isHome_146 (by decide) ?_
  refine lv_istore (lv' := [(9, .int 0), (8, .int 1), (0, .ref (ad (0))), (1, .int (nI h)), (2, .int z), (3, .ref (ad (3))), (4, .ref (ad (4))), (5, .ref (ad (5 + h))), (6, .ref (ad (7 + h))), (7, .ref (ad (2)))]) hx hb dL_isHome_147 hl (by decide) rfl (fun ls hl => ?_)
  have hl : lv_has ls 12 [(9, .int (nI 0)), (8, .int 1), (0, .ref (ad (0))), (1, .int (nI h)), (2, .int z), (3, .ref (ad (3))), (4, .ref (ad (4))), (5, .ref (ad (5 + h))), (6, .ref (ad (7 + h))), (7, .ref (ad (2)))] := lv_sub hl [0, 1, 2, 3, 4, 5, 6, 7, 8, 9] rfl
  refine tp_for (nL := 12) 4 (fun _ => I) (fun t => [(9, .int (nI t)), (8, .int 1), (0, .ref (ad (0))), (1, .int (nI h)), (2, .int z), (3, .ref (ad (3))), (4, .ref (ad (4))), (5, .ref (ad (5 + h))), (6, .ref (ad (7 + h))), (7, .ref (ad (2)))]) (fun t htt ls H locs hl hP hD hS iht => ?_) (fun ls H locs hl hP hD hS => ?_) hl hP hD hS
  · refine lv_iload hx hb dL_isHome_149 (lv_at hl 0 rfl) ?_
    refine lv_iconst (v := 4) hx hb dL_isHome_151 (by decide) ?_
    refine lv_icmp_ge (tgt := 337) hx hb dL_isHome_152 (by decide) (fun c => absurd c (nI_ge (a := t) (b := 4) (by omega) (by decide))) (fun _ => ?_)
    refine lv_iload hx hb dL_isHome_155 (lv_at hl 1 rfl) ?_
    refine lv_if_eq (tgt := 337) hx hb dL_isHome_157 (by decide) (fun c => absurd c (by decide)) (fun _ => ?_)
    refine tp_meetH (D := D) (cy := cy) (n := n) (ad := ad) (I := I) (o := o) (A := A) (H0 := s.heap) (nI (tl_mo z e0 t) : Int32) (fun y => F0 m 186 ls (.int y :: [])) (fun hj186 => ?_) (fun H locs hP hD hS => ?_)
    · refine lv_iload hx hb dL_isHome_160 (lv_at hl 0 rfl) ?_
      refine lv_if_ne (tgt := 175) hx hb dL_isHome_162 (by decide) (fun c162_1 => ?_) (fun c162_1 => ?_)
      · refine lv_iload_n hx hb dL_isHome_175 rfl (lv_at hl 4 rfl) ?_
        refine lv_iconst (v := 3) hx hb dL_isHome_176 (by decide) ?_
        refine lv_iload hx hb dL_isHome_177 (lv_at hl 0 rfl) ?_
        refine lv_imul hx hb dL_isHome_179 ?_
        refine tp_eqi (y := nI (3 * t)) (pk_mul 3 t) ?_
        refine lv_ishr hx hb dL_isHome_180 ?_
        refine tp_eqi (y := tl_shr z (nI (3 * t))) rfl ?_
        refine lv_bipush (v := 48) hx hb dL_isHome_181 (by decide) ?_
        refine tp_callS ⟨hx, hb, hml, hown, hts⟩ (lf_low l D cy n ad o I (tl_shr z (nI (3 * t))) 48 (by decide) (by decide)) (va_cwS 2 hts gL_isHome_L_low rfl rfl rfl (by decide +kernel) ⟨Nat.le_of_ble_eq_true rfl, Nat.le_of_ble_eq_true rfl⟩) hK hP hD hS hA rfl hl.1 rfl (Nat.le_of_ble_eq_true rfl) dL_isHome_183 ⟨Nat.zero_le _, Nat.zero_le _⟩ (fun I9 e9 H locs hP hD hS => ?_)
        subst e9
        exact hj186 _ (tl_mo1 c162_1) _ _ hP hD hS
      · refine lv_aload hx hb dL_isHome_165 (lv_at hl 9 rfl) ?_
        refine lv_iconst (v := 0) hx hb dL_isHome_167 (by decide) ?_
        refine tp_iald hx hb hK hP (2) 12 (0) (by omega) rfl (by decide) (by decide) (by decide) dL_isHome_168 ?_
        refine tp_eqi (y := nI e0) he ?_
        refine lv_bipush (v := 48) hx hb dL_isHome_169 (by decide) ?_
        refine lv_irem hx hb dL_isHome_171 (by decide) ?_
        refine tp_eqi (y := nI (e0 % 48)) (pk_rem (d := 48) (by omega) (by decide) (by decide)) ?_
        refine lv_goto (tgt := 186) hx hb dL_isHome_172 (by decide) ?_
        exact hj186 _ (tl_mo0 (by omega) c162_1) _ _ hP hD hS
    have hmo := tl_mo_lt z e0 t
    refine lv_istore (lv' := [(10, .int (nI (tl_mo z e0 t))), (9, .int (nI t)), (8, .int 1), (0, .ref (ad (0))), (1, .int (nI h)), (2, .int z), (3, .ref (ad (3))), (4, .ref (ad (4))), (5, .ref (ad (5 + h))), (6, .ref (ad (7 + h))), (7, .ref (ad (2)))]) hx hb dL_isHome_186 hl (by decide) rfl (fun ls hl => ?_)
    refine lv_aload_n hx hb dL_isHome_188 rfl (lv_at hl 3 rfl) ?_
    refine lv_iload_n hx hb dL_isHome_189 rfl (lv_at hl 4 rfl) ?_
    refine lv_iload hx hb dL_isHome_190 (lv_at hl 0 rfl) ?_
    refine tp_callE ⟨hx, hb, hml, hown, hts⟩ (op_need_ok l D cy n ad o I sa tL tM h hi hn6 (tl_mo z e0 t) (by omega)) (cwV 2 hts gL_isHome_X1_need rfl rfl rfl (by decide +kernel) ⟨Nat.le_of_ble_eq_true rfl, Nat.le_of_ble_eq_true rfl⟩) hE hK hP hD hS hA 0 1 tp_e0 rfl rfl rfl hl.1 rfl (Nat.le_of_ble_eq_true rfl) dL_isHome_192 ⟨Nat.zero_le _, Nat.zero_le _⟩ (fun I9 e9 H locs hP hD hS => ?_)
    subst e9
    refine lv_iload_n hx hb dL_isHome_195 rfl (lv_at hl 4 rfl) ?_
    refine lv_iload hx hb dL_isHome_196 (lv_at hl 0 rfl) ?_
    refine lv_aload_n hx hb dL_isHome_198 rfl (lv_at hl 6 rfl) ?_
    refine lv_aload hx hb dL_isHome_199 (lv_at hl 7 rfl) ?_
    refine lv_aload hx hb dL_isHome_201 (lv_at hl 10 rfl) ?_
    refine tp_callS ⟨hx, hb, hml, hown, hts⟩ (lf_need l D cy n ad o I h c0 hF (tl_mo z e0 t) (by omega)) (va_cwS 5 hts gL_isHome_L_need rfl rfl rfl (by decide +kernel) ⟨Nat.le_of_ble_eq_true rfl, Nat.le_of_ble_eq_true rfl⟩) hK hP hD hS hA rfl hl.1 rfl (Nat.le_of_ble_eq_true rfl) dL_isHome_203 ⟨Nat.zero_le _, Nat.zero_le _⟩ (fun I9 e9 H locs hP hD hS => ?_)
    subst e9
    refine lv_icmp_ne (tgt := 276) hx hb dL_isHome_206 (by decide) (fun c => absurd rfl c) (fun _ => ?_)
    refine lv_aload_n hx hb dL_isHome_209 rfl (lv_at hl 3 rfl) ?_
    refine lv_iload_n hx hb dL_isHome_210 rfl (lv_at hl 4 rfl) ?_
    refine lv_iload hx hb dL_isHome_211 (lv_at hl 0 rfl) ?_
    refine tp_callE ⟨hx, hb, hml, hown, hts⟩ (op_taper_ok l D cy n ad o I sa tL tM h hi hn6 (tl_mo z e0 t) (by omega)) (cwV 2 hts gL_isHome_X1_taper rfl rfl rfl (by decide +kernel) ⟨Nat.le_of_ble_eq_true rfl, Nat.le_of_ble_eq_true rfl⟩) hE hK hP hD hS hA 0 1 tp_e0 rfl rfl rfl hl.1 rfl (Nat.le_of_ble_eq_true rfl) dL_isHome_213 ⟨Nat.zero_le _, Nat.zero_le _⟩ (fun I9 e9 H locs hP hD hS => ?_)
    subst e9
    refine lv_iload_n hx hb dL_isHome_216 rfl (lv_at hl 4 rfl) ?_
    refine lv_iload hx hb dL_isHome_217 (lv_at hl 0 rfl) ?_
    refine lv_aload_n hx hb dL_isHome_219 rfl (lv_at hl 6 rfl) ?_
    refine lv_aload hx hb dL_isHome_220 (lv_at hl 7 rfl) ?_
    refine lv_aload hx hb dL_isHome_222 (lv_at hl 10 rfl) ?_
    refine tp_callS ⟨hx, hb, hml, hown, hts⟩ (lf_taper l D cy n ad o I h c0 hF (tl_mo z e0 t) (by omega)) (va_cwS 5 hts gL_isHome_L_taper rfl rfl rfl (by decide +kernel) ⟨Nat.le_of_ble_eq_true rfl, Nat.le_of_ble_eq_true rfl⟩) hK hP hD hS hA rfl hl.1 rfl (Nat.le_of_ble_eq_true rfl) dL_isHome_224 ⟨Nat.zero_le _, Nat.zero_le _⟩ (fun I9 e9 H locs hP hD hS => ?_)
    subst e9
    refine lv_icmp_ne (tgt := 276) hx hb dL_isHome_227 (by decide) (fun c => absurd rfl c) (fun _ => ?_)
    refine lv_aload_n hx hb dL_isHome_230 rfl (lv_at hl 3 rfl) ?_
    refine lv_iload_n hx hb dL_isHome_231 rfl (lv_at hl 4 rfl) ?_
    refine lv_iload hx hb dL_isHome_232 (lv_at hl 0 rfl) ?_
    refine tp_callE ⟨hx, hb, hml, hown, hts⟩ (op_tariff_ok l D cy n ad o I sa tL tM h hi hn6 (tl_mo z e0 t) (by omega)) (cwV 2 hts gL_isHome_X1_tariff rfl rfl rfl (by decide +kernel) ⟨Nat.le_of_ble_eq_true rfl, Nat.le_of_ble_eq_true rfl⟩) hE hK hP hD hS hA 0 1 tp_e0 rfl rfl rfl hl.1 rfl (Nat.le_of_ble_eq_true rfl) dL_isHome_234 ⟨Nat.zero_le _, Nat.zero_le _⟩ (fun I9 e9 H locs hP hD hS => ?_)
    subst e9
    refine lv_iload_n hx hb dL_isHome_237 rfl (lv_at hl 4 rfl) ?_
    refine lv_iload hx hb dL_isHome_238 (lv_at hl 0 rfl) ?_
    refine lv_aload_n hx hb dL_isHome_240 rfl (lv_at hl 6 rfl) ?_
    refine lv_aload hx hb dL_isHome_241 (lv_at hl 7 rfl) ?_
    refine lv_aload hx hb dL_isHome_243 (lv_at hl 10 rfl) ?_
    refine tp_callS ⟨hx, hb, hml, hown, hts⟩ (lf_tariff l D cy n ad o I h c0 hF (tl_mo z e0 t) (by omega)) (va_cwS 5 hts gL_isHome_L_tariff rfl rfl rfl (by decide +kernel) ⟨Nat.le_of_ble_eq_true rfl, Nat.le_of_ble_eq_true rfl⟩) hK hP hD hS hA rfl hl.1 rfl (Nat.le_of_ble_eq_true rfl) dL_isHome_245 ⟨Nat.zero_le _, Nat.zero_le _⟩ (fun I9 e9 H locs hP hD hS => ?_)
    subst e9
    refine lv_icmp_ne (tgt := 276) hx hb dL_isHome_248 (by decide) (fun c => absurd rfl c) (fun _ => ?_)
    refine lv_aload_n hx hb dL_isHome_251 rfl (lv_at hl 3 rfl) ?_
    refine lv_iload_n hx hb dL_isHome_252 rfl (lv_at hl 4 rfl) ?_
    refine lv_iload hx hb dL_isHome_253 (lv_at hl 0 rfl) ?_
    refine tp_callE ⟨hx, hb, hml, hown, hts⟩ (op_due_ok l D cy n ad o I sa tL tM h hi hn6 (tl_mo z e0 t) (by omega)) (cwV 2 hts gL_isHome_X1_due rfl rfl rfl (by decide +kernel) ⟨Nat.le_of_ble_eq_true rfl, Nat.le_of_ble_eq_true rfl⟩) hE hK hP hD hS hA 0 1 tp_e0 rfl rfl rfl hl.1 rfl (Nat.le_of_ble_eq_true rfl) dL_isHome_255 ⟨Nat.zero_le _, Nat.zero_le _⟩ (fun I9 e9 H locs hP hD hS => ?_)
    subst e9
    refine lv_iload_n hx hb dL_isHome_258 rfl (lv_at hl 4 rfl) ?_
    refine lv_iload hx hb dL_isHome_259 (lv_at hl 0 rfl) ?_
    refine lv_aload_n hx hb dL_isHome_261 rfl (lv_at hl 6 rfl) ?_
    refine lv_aload hx hb dL_isHome_262 (lv_at hl 7 rfl) ?_
    refine lv_aload hx hb dL_isHome_264 (lv_at hl 10 rfl) ?_
    refine tp_callS ⟨hx, hb, hml, hown, hts⟩ (lf_due l D cy n ad o I h c0 hF (tl_mo z e0 t) (by omega)) (va_cwS 5 hts gL_isHome_L_due rfl rfl rfl (by decide +kernel) ⟨Nat.le_of_ble_eq_true rfl, Nat.le_of_ble_eq_true rfl⟩) hK hP hD hS hA rfl hl.1 rfl (Nat.le_of_ble_eq_true rfl) dL_isHome_266 ⟨Nat.zero_le _, Nat.zero_le _⟩ (fun I9 e9 H locs hP hD hS => ?_)
    subst e9
    refine lv_icmp_ne (tgt := 276) hx hb dL_isHome_269 (by decide) (fun c => absurd rfl c) (fun _ => ?_)
    refine lv_iconst (v := 1) hx hb dL_isHome_272 (by decide) ?_
    refine lv_goto (tgt := 277) hx hb dL_isHome_273 (by decide) ?_
    refine lv_istore (lv' := [(8, .int 1), (10, .int (nI (tl_mo z e0 t))), (9, .int (nI t)), (0, .ref (ad (0))), (1, .int (nI h)), (2, .int z), (3, .ref (ad (3))), (4, .ref (ad (4))), (5, .ref (ad (5 + h))), (6, .ref (ad (7 + h))), (7, .ref (ad (2)))]) hx hb dL_isHome_277 hl (by decide) rfl (fun ls hl => ?_)
    refine lv_iconst (v := 0) hx hb dL_isHome_279 (by decide) ?_
    refine lv_istore (lv' := [(11, .int 0), (8, .int 1), (10, .int (nI (tl_mo z e0 t))), (9, .int (nI t)), (0, .ref (ad (0))), (1, .int (nI h)), (2, .int z), (3, .ref (ad (3))), (4, .ref (ad (4))), (5, .ref (ad (5 + h))), (6, .ref (ad (7 + h))), (7, .ref (ad (2)))]) hx hb dL_isHome_280 hl (by decide) rfl (fun ls hl => ?_)
    have hl : lv_has ls 12 [(11, .int (nI 0)), (8, .int 1), (10, .int (nI (tl_mo z e0 t))), (9, .int (nI t)), (0, .ref (ad (0))), (1, .int (nI h)), (2, .int z), (3, .ref (ad (3))), (4, .ref (ad (4))), (5, .ref (ad (5 + h))), (6, .ref (ad (7 + h))), (7, .ref (ad (2)))] := lv_sub hl [0, 1, 2, 3, 4, 5, 6, 7, 8, 9, 10, 11] rfl
    refine tp_for (nL := 12) 5 (fun _ => I) (fun u => [(11, .int (nI u)), (8, .int 1), (10, .int (nI (tl_mo z e0 t))), (9, .int (nI t)), (0, .ref (ad (0))), (1, .int (nI h)), (2, .int z), (3, .ref (ad (3))), (4, .ref (ad (4))), (5, .ref (ad (5 + h))), (6, .ref (ad (7 + h))), (7, .ref (ad (2)))]) (fun u htu ls H locs hl hP hD hS ihu => ?_) (fun ls H locs hl hP hD hS => ?_) hl hP hD hS
    · refine lv_iload hx hb dL_isHome_282 (lv_at hl 0 rfl) ?_
      refine lv_iconst (v := 5) hx hb dL_isHome_284 (by decide) ?_
      refine lv_icmp_ge (tgt := 331) hx hb dL_isHome_285 (by decide) (fun c => absurd c (nI_ge (a := u) (b := 5) (by omega) (by decide))) (fun _ => ?_)
      refine lv_iload hx hb dL_isHome_288 (lv_at hl 1 rfl) ?_
      refine lv_if_eq (tgt := 331) hx hb dL_isHome_290 (by decide) (fun c => absurd c (by decide)) (fun _ => ?_)
      refine lv_aload_n hx hb dL_isHome_293 rfl (lv_at hl 4 rfl) ?_
      refine lv_iload_n hx hb dL_isHome_294 rfl (lv_at hl 5 rfl) ?_
      refine lv_iload hx hb dL_isHome_295 (lv_at hl 0 rfl) ?_
      refine lv_iload hx hb dL_isHome_297 (lv_at hl 2 rfl) ?_
      refine tp_callE ⟨hx, hb, hml, hown, hts⟩ (op_fact_ok l D cy n ad o I sa tL tM h hi hn6 u (tl_mo z e0 t) (by omega) (by omega)) (cwV 3 hts gL_isHome_X1_fact rfl rfl rfl (by decide +kernel) ⟨Nat.le_of_ble_eq_true rfl, Nat.le_of_ble_eq_true rfl⟩) hE hK hP hD hS hA 0 1 tp_e0 rfl rfl rfl hl.1 rfl (Nat.le_of_ble_eq_true rfl) dL_isHome_299 ⟨Nat.zero_le _, Nat.zero_le _⟩ (fun I9 e9 H locs hP hD hS => ?_)
      subst e9
      refine lv_iload_n hx hb dL_isHome_302 rfl (lv_at hl 5 rfl) ?_
      refine lv_iload hx hb dL_isHome_303 (lv_at hl 0 rfl) ?_
      refine lv_iload hx hb dL_isHome_305 (lv_at hl 2 rfl) ?_
      refine lv_aload_n hx hb dL_isHome_307 rfl (lv_at hl 7 rfl) ?_
      refine lv_aload hx hb dL_isHome_308 (lv_at hl 8 rfl) ?_
      refine lv_aload hx hb dL_isHome_310 (lv_at hl 11 rfl) ?_
      refine tp_callS ⟨hx, hb, hml, hown, hts⟩ (lf_fact l D cy n ad o I h c0 hF u (tl_mo z e0 t) (by omega) (by omega)) (va_cwS 6 hts gL_isHome_L_fact rfl rfl rfl (by decide +kernel) ⟨Nat.le_of_ble_eq_true rfl, Nat.le_of_ble_eq_true rfl⟩) hK hP hD hS hA rfl hl.1 rfl (Nat.le_of_ble_eq_true rfl) dL_isHome_312 ⟨Nat.zero_le _, Nat.zero_le _⟩ (fun I9 e9 H locs hP hD hS => ?_)
      subst e9
      refine lv_icmp_ne (tgt := 322) hx hb dL_isHome_315 (by decide) (fun c => absurd rfl c) (fun _ => ?_)
      refine lv_iconst (v := 1) hx hb dL_isHome_318 (by decide) ?_
      refine lv_goto (tgt := 323) hx hb dL_isHome_319 (by decide) ?_
      refine lv_istore (lv' := [(8, .int 1), (11, .int (nI u)), (10, .int (nI (tl_mo z e0 t))), (9, .int (nI t)), (0, .ref (ad (0))), (1, .int (nI h)), (2, .int z), (3, .ref (ad (3))), (4, .ref (ad (4))), (5, .ref (ad (5 + h))), (6, .ref (ad (7 + h))), (7, .ref (ad (2)))]) hx hb dL_isHome_323 hl (by decide) rfl (fun ls hl => ?_)
      refine lv_iinc (v := (nI (u + 1))) (lv' := [(11, .int (nI (u + 1))), (8, .int 1), (10, .int (nI (tl_mo z e0 t))), (9, .int (nI t)), (0, .ref (ad (0))), (1, .int (nI h)), (2, .int z), (3, .ref (ad (3))), (4, .ref (ad (4))), (5, .ref (ad (5 + h))), (6, .ref (ad (7 + h))), (7, .ref (ad (2)))]) hx hb dL_isHome_325 hl (k := 1) rfl (nI_1 _) (by decide) rfl (fun ls hl => ?_)
      refine lv_goto (tgt := 282) hx hb dL_isHome_328 (by decide) ?_
      exact ihu ls H locs (lv_sub hl [0, 1, 2, 3, 4, 5, 6, 7, 8, 9, 10, 11] rfl) hP hD hS
    refine lv_iload hx hb dL_isHome_282 (lv_at hl 0 rfl) ?_
    refine lv_iconst (v := 5) hx hb dL_isHome_284 (by decide) ?_
    refine lv_icmp_ge (tgt := 331) hx hb dL_isHome_285 (by decide) (fun _ => ?_) (fun c => absurd (nI_le (a := 5) (b := 5) (by decide) (by decide)) c)
    refine lv_iinc (v := (nI (t + 1))) (lv' := [(9, .int (nI (t + 1))), (11, .int (nI 5)), (8, .int 1), (10, .int (nI (tl_mo z e0 t))), (0, .ref (ad (0))), (1, .int (nI h)), (2, .int z), (3, .ref (ad (3))), (4, .ref (ad (4))), (5, .ref (ad (5 + h))), (6, .ref (ad (7 + h))), (7, .ref (ad (2)))]) hx hb dL_isHome_331 hl (k := 3) rfl (nI_1 _) (by decide) rfl (fun ls hl => ?_)
    refine lv_goto (tgt := 149) hx hb dL_isHome_334 (by decide) ?_
    exact iht ls H locs (lv_sub hl [0, 2, 4, 5, 6, 7, 8, 9, 10, 11] rfl) hP hD hS
  · refine lv_iload hx hb dL_isHome_149 (lv_at hl 0 rfl) ?_
    refine lv_iconst (v := 4) hx hb dL_isHome_151 (by decide) ?_
    refine lv_icmp_ge (tgt := 337) hx hb dL_isHome_152 (by decide) (fun _ => ?_) (fun c => absurd (nI_le (a := 4) (b := 4) (by decide) (by decide)) c)
    refine lv_iload hx hb dL_isHome_337 (lv_at hl 1 rfl) ?_
    exact tp_reti hx hb hr hlocks hK hP hD hS rfl rfl rfl dL_isHome_339
set_option maxHeartbeats 4000000 in
set_option maxRecDepth 100000 in
/-- isHome, no month is current -/
theorem lf_isHome_b (l : Launch) (D : va_G) (cy : Nat → ClassId) (n : Nat) (ad : Nat → Nat) (o : Int64) (I : Nat → Nat → Int32) (sa : Nat → Nat) (tL tM : Nat) (h c0 : Nat) (hF : tq_F I h c0) (e0 a0 : Nat) (hB : tq_B I h e0 a0) (hi : h < n) (hn6 : n ≤ 6) (hc3 : I (9 + 15 * h) 3 = nI a0) (hc0 : I 0 2 = nI e0) (z : Int32) (e48 : e0 = 48) : tp_IE l yL_isHome wsL_isHome (tp_rm 6 136) D cy n ad o sa tL tM [.ref (ad (0)), .int (nI h), .int z, .ref (ad (3)), .ref (ad (4)), .ref (ad (5 + h)), .ref (ad (7 + h)), .ref (ad (2))] I (1) (I) := by
  obtain ⟨⟨hh, ha8, he8, he, ha⟩, hA13, hd6, hd7, hd8, hd01, hd0, hdm⟩ := id hB
  refine tp_ofIE (lv := [(0, .ref (ad (0))), (1, .int (nI h)), (2, .int z), (3, .ref (ad (3))), (4, .ref (ad (4))), (5, .ref (ad (5 + h))), (6, .ref (ad (7 + h))), (7, .ref (ad (2)))]) (by decide) rfl (Nat.le_of_ble_eq_true rfl) rfl (fun p e s m args below meth c A ls S0 hE => ?_)
  obtain ⟨hx, hb, hr, hml, hown, hts, hlocks, hA, hK, hP, hD, hS, hl⟩ := S0
  obtain ⟨-, ⟨hEL, hEM⟩, -, hEw, -, hEa, hEo⟩ := id hE
  refine lv_aload_n hx hb dL_isHome_0 rfl (lv_at hl 0 rfl) ?_
  refine lv_iload_n hx hb dL_isHome_1 rfl (lv_at hl 1 rfl) ?_
  refine tp_callE ⟨hx, hb, hml, hown, hts⟩ (op_debt_ok l D cy n ad o I sa tL tM h hi hn6) (cwV 1 hts gL_isHome_X1_debt rfl rfl rfl (by decide +kernel) ⟨Nat.le_of_ble_eq_true rfl, Nat.le_of_ble_eq_true rfl⟩) hE hK hP hD hS hA 0 1 tp_e0 rfl rfl rfl hl.1 rfl (Nat.le_of_ble_eq_true rfl) dL_isHome_2 ⟨Nat.zero_le _, Nat.zero_le _⟩ (fun I9 e9 H locs hP hD hS => ?_)
  subst e9
  refine lv_aload hx hb dL_isHome_5 (lv_at hl 7 rfl) ?_
  refine lv_bipush (v := 6) hx hb dL_isHome_7 (by decide) ?_
  refine lv_iload_n hx hb dL_isHome_9 rfl (lv_at hl 1 rfl) ?_
  refine lv_iadd hx hb dL_isHome_10 ?_
  refine tp_eqi (y := nI (6 + h)) (nI_add 6 h) ?_
  refine tp_iald hx hb hK hP (2) 12 ((6 + h)) (by omega) rfl rfl (by omega) (by decide) dL_isHome_11 ?_
  refine lv_icmp_ne (tgt := 85) hx hb dL_isHome_12 (by decide) (fun c => absurd hd6 c) (fun _ => ?_)
  refine lv_aload_n hx hb dL_isHome_15 rfl (lv_at hl 0 rfl) ?_
  refine lv_iload_n hx hb dL_isHome_16 rfl (lv_at hl 1 rfl) ?_
  refine tp_callE ⟨hx, hb, hml, hown, hts⟩ (op_recovered_ok l D cy n ad o I sa tL tM h hi hn6) (cwV 1 hts gL_isHome_X1_recovered rfl rfl rfl (by decide +kernel) ⟨Nat.le_of_ble_eq_true rfl, Nat.le_of_ble_eq_true rfl⟩) hE hK hP hD hS hA 0 1 tp_e0 rfl rfl rfl hl.1 rfl (Nat.le_of_ble_eq_true rfl) dL_isHome_17 ⟨Nat.zero_le _, Nat.zero_le _⟩ (fun I9 e9 H locs hP hD hS => ?_)
  subst e9
  refine lv_aload hx hb dL_isHome_20 (lv_at hl 7 rfl) ?_
  refine lv_bipush (v := 8) hx hb dL_isHome_22 (by decide) ?_
  refine lv_iload_n hx hb dL_isHome_24 rfl (lv_at hl 1 rfl) ?_
  refine lv_iadd hx hb dL_isHome_25 ?_
  refine tp_eqi (y := nI (8 + h)) (nI_add 8 h) ?_
  refine tp_iald hx hb hK hP (2) 12 ((8 + h)) (by omega) rfl rfl (by omega) (by decide) dL_isHome_26 ?_
  refine lv_icmp_ne (tgt := 85) hx hb dL_isHome_27 (by decide) (fun c => absurd hd7 c) (fun _ => ?_)
  refine lv_aload_n hx hb dL_isHome_30 rfl (lv_at hl 0 rfl) ?_
  refine lv_iload_n hx hb dL_isHome_31 rfl (lv_at hl 1 rfl) ?_
  refine tp_callE ⟨hx, hb, hml, hown, hts⟩ (op_unassessed_ok l D cy n ad o I sa tL tM h hi hn6 a0 e0 hc3 hc0 (by omega) he8) (cwV 1 hts gL_isHome_X1_unassessed rfl rfl rfl (by decide +kernel) ⟨Nat.le_of_ble_eq_true rfl, Nat.le_of_ble_eq_true rfl⟩) hE hK hP hD hS hA 0 1 tp_e0 rfl rfl rfl hl.1 rfl (Nat.le_of_ble_eq_true rfl) dL_isHome_32 ⟨Nat.zero_le _, Nat.zero_le _⟩ (fun I9 e9 H locs hP hD hS => ?_)
  subst e9
  refine lv_iload_n hx hb dL_isHome_35 rfl (lv_at hl 1 rfl) ?_
  refine lv_aload_n hx hb dL_isHome_36 rfl (lv_at hl 3 rfl) ?_
  refine lv_aload hx hb dL_isHome_37 (lv_at hl 4 rfl) ?_
  refine lv_aload hx hb dL_isHome_39 (lv_at hl 5 rfl) ?_
  refine lv_aload hx hb dL_isHome_41 (lv_at hl 7 rfl) ?_
  refine tp_callS ⟨hx, hb, hml, hown, hts⟩ (lf_open l D cy n ad o I h c0 hF e0 a0 hB) (va_cwS 5 hts gL_isHome_L_open rfl rfl rfl (by decide +kernel) ⟨Nat.le_of_ble_eq_true rfl, Nat.le_of_ble_eq_true rfl⟩) hK hP hD hS hA rfl hl.1 rfl (Nat.le_of_ble_eq_true rfl) dL_isHome_43 ⟨Nat.zero_le _, Nat.zero_le _⟩ (fun I9 e9 H locs hP hD hS => ?_)
  subst e9
  refine lv_icmp_ne (tgt := 85) hx hb dL_isHome_46 (by decide) (fun c => absurd rfl c) (fun _ => ?_)
  refine lv_aload_n hx hb dL_isHome_49 rfl (lv_at hl 0 rfl) ?_
  refine lv_iload_n hx hb dL_isHome_50 rfl (lv_at hl 1 rfl) ?_
  refine tp_callE ⟨hx, hb, hml, hown, hts⟩ (op_wouldPay_end l D cy n ad o I sa tL tM h hi hn6 a0 e0 hc3 hc0 (by omega) e48) (cwV 1 hts gL_isHome_X1_wouldPay rfl rfl rfl (by decide +kernel) ⟨Nat.le_of_ble_eq_true rfl, Nat.le_of_ble_eq_true rfl⟩) hE hK hP hD hS hA 0 1 tp_e0 rfl rfl rfl hl.1 rfl (Nat.le_of_ble_eq_true rfl) dL_isHome_51 ⟨Nat.zero_le _, Nat.zero_le _⟩ (fun I9 e9 H locs hP hD hS => ?_)
  subst e9
  refine lv_aload hx hb dL_isHome_54 (lv_at hl 7 rfl) ?_
  refine lv_iconst (v := 0) hx hb dL_isHome_56 (by decide) ?_
  refine tp_iald hx hb hK hP (2) 12 (0) (by omega) rfl (by decide) (by decide) (by decide) dL_isHome_57 ?_
  refine tp_eqi (y := nI e0) he ?_
  refine lv_bipush (v := 48) hx hb dL_isHome_58 (by decide) ?_
  refine lv_icmp_ne (tgt := 67) hx hb dL_isHome_60 (by decide) (fun c => absurd (show nI e0 = 48 by rw [e48]; rfl) c) (fun _ => ?_)
  refine lv_iconst (v := 0) hx hb dL_isHome_63 (by decide) ?_
  refine lv_goto (tgt := 78) hx hb dL_isHome_64 (by decide) ?_
  refine lv_icmp_ne (tgt := 85) hx hb dL_isHome_78 (by decide) (fun c => absurd rfl c) (fun _ => ?_)
  refine lv_iconst (v := 1) hx hb dL_isHome_81 (by decide) ?_
  refine lv_goto (tgt := 86) hx hb dL_isHome_82 (by decide) ?_
  refine lv_istore (lv' := [(8, .int 1), (0, .ref (ad (0))), (1, .int (nI h)), (2, .int z), (3, .ref (ad (3))), (4, .ref (ad (4))), (5, .ref (ad (5 + h))), (6, .ref (ad (7 + h))), (7, .ref (ad (2)))]) hx hb dL_isHome_86 hl (by decide) rfl (fun ls hl => ?_)
  refine lv_iconst (v := 0) hx hb dL_isHome_88 (by decide) ?_
  refine lv_istore (lv' := [(9, .int 0), (8, .int 1), (0, .ref (ad (0))), (1, .int (nI h)), (2, .int z), (3, .ref (ad (3))), (4, .ref (ad (4))), (5, .ref (ad (5 + h))), (6, .ref (ad (7 + h))), (7, .ref (ad (2)))]) hx hb dL_isHome_89 hl (by decide) rfl (fun ls hl => ?_)
  have hl : lv_has ls 12 [(9, .int (nI 0)), (8, .int 1), (0, .ref (ad (0))), (1, .int (nI h)), (2, .int z), (3, .ref (ad (3))), (4, .ref (ad (4))), (5, .ref (ad (5 + h))), (6, .ref (ad (7 + h))), (7, .ref (ad (2)))] := lv_sub hl [0, 1, 2, 3, 4, 5, 6, 7, 8, 9] rfl
  refine tp_for (nL := 12) 48 (fun _ => I) (fun t => [(9, .int (nI t)), (8, .int 1), (0, .ref (ad (0))), (1, .int (nI h)), (2, .int z), (3, .ref (ad (3))), (4, .ref (ad (4))), (5, .ref (ad (5 + h))), (6, .ref (ad (7 + h))), (7, .ref (ad (2)))]) (fun t htt ls H locs hl hP hD hS iht => ?_) (fun ls H locs hl hP hD hS => ?_) hl hP hD hS
  · refine lv_iload hx hb dL_isHome_91 (lv_at hl 0 rfl) ?_
    refine lv_bipush (v := 48) hx hb dL_isHome_93 (by decide) ?_
    refine lv_icmp_ge (tgt := 146) hx hb dL_isHome_95 (by decide) (fun c => absurd c (nI_ge (a := t) (b := 48) (by omega) (by decide))) (fun _ => ?_)
    refine lv_iload hx hb dL_isHome_98 (lv_at hl 1 rfl) ?_
    refine lv_if_eq (tgt := 146) hx hb dL_isHome_100 (by decide) (fun c => absurd c (by decide)) (fun _ => ?_)
    refine lv_aload_n hx hb dL_isHome_103 rfl (lv_at hl 2 rfl) ?_
    refine lv_iload_n hx hb dL_isHome_104 rfl (lv_at hl 3 rfl) ?_
    refine lv_iload hx hb dL_isHome_105 (lv_at hl 0 rfl) ?_
    refine tp_callE ⟨hx, hb, hml, hown, hts⟩ (op_assessed_ok l D cy n ad o I sa tL tM h hi hn6 t (by omega)) (cwV 2 hts gL_isHome_X1_assessed rfl rfl rfl (by decide +kernel) ⟨Nat.le_of_ble_eq_true rfl, Nat.le_of_ble_eq_true rfl⟩) hE hK hP hD hS hA 0 1 tp_e0 rfl rfl rfl hl.1 rfl (Nat.le_of_ble_eq_true rfl) dL_isHome_107 ⟨Nat.zero_le _, Nat.zero_le _⟩ (fun I9 e9 H locs hP hD hS => ?_)
    subst e9
    refine lv_aload hx hb dL_isHome_110 (lv_at hl 7 rfl) ?_
    refine lv_iload hx hb dL_isHome_112 (lv_at hl 0 rfl) ?_
    refine tp_iald hx hb hK hP (5 + h) 48 (t) (by omega) (tl_cA hh) rfl (by omega) (by decide) dL_isHome_114 ?_
    refine lv_icmp_ne (tgt := 137) hx hb dL_isHome_115 (by decide) (fun c => absurd (hA13 t htt).1 c) (fun _ => ?_)
    refine lv_aload_n hx hb dL_isHome_118 rfl (lv_at hl 2 rfl) ?_
    refine lv_iload_n hx hb dL_isHome_119 rfl (lv_at hl 3 rfl) ?_
    refine lv_iload hx hb dL_isHome_120 (lv_at hl 0 rfl) ?_
    refine tp_callE ⟨hx, hb, hml, hown, hts⟩ (op_paid_ok l D cy n ad o I sa tL tM h hi hn6 t (by omega)) (cwV 2 hts gL_isHome_X1_paid rfl rfl rfl (by decide +kernel) ⟨Nat.le_of_ble_eq_true rfl, Nat.le_of_ble_eq_true rfl⟩) hE hK hP hD hS hA 0 1 tp_e0 rfl rfl rfl hl.1 rfl (Nat.le_of_ble_eq_true rfl) dL_isHome_122 ⟨Nat.zero_le _, Nat.zero_le _⟩ (fun I9 e9 H locs hP hD hS => ?_)
    subst e9
    refine lv_aload hx hb dL_isHome_125 (lv_at hl 8 rfl) ?_
    refine lv_iload hx hb dL_isHome_127 (lv_at hl 0 rfl) ?_
    refine tp_iald hx hb hK hP (7 + h) 48 (t) (by omega) (tl_cP hh) rfl (by omega) (by decide) dL_isHome_129 ?_
    refine lv_icmp_ne (tgt := 137) hx hb dL_isHome_130 (by decide) (fun c => absurd (hA13 t htt).2.1 c) (fun _ => ?_)
    refine lv_iconst (v := 1) hx hb dL_isHome_133 (by decide) ?_
    refine lv_goto (tgt := 138) hx hb dL_isHome_134 (by decide) ?_
    refine lv_istore (lv' := [(8, .int 1), (9, .int (nI t)), (0, .ref (ad (0))), (1, .int (nI h)), (2, .int z), (3, .ref (ad (3))), (4, .ref (ad (4))), (5, .ref (ad (5 + h))), (6, .ref (ad (7 + h))), (7, .ref (ad (2)))]) hx hb dL_isHome_138 hl (by decide) rfl (fun ls hl => ?_)
    refine lv_iinc (v := (nI (t + 1))) (lv' := [(9, .int (nI (t + 1))), (8, .int 1), (0, .ref (ad (0))), (1, .int (nI h)), (2, .int z), (3, .ref (ad (3))), (4, .ref (ad (4))), (5, .ref (ad (5 + h))), (6, .ref (ad (7 + h))), (7, .ref (ad (2)))]) hx hb dL_isHome_140 hl (k := 1) rfl (nI_1 _) (by decide) rfl (fun ls hl => ?_)
    refine lv_goto (tgt := 91) hx hb dL_isHome_143 (by decide) ?_
    exact iht ls H locs (lv_sub hl [0, 1, 2, 3, 4, 5, 6, 7, 8, 9] rfl) hP hD hS
  refine lv_iload hx hb dL_isHome_91 (lv_at hl 0 rfl) ?_
  refine lv_bipush (v := 48) hx hb dL_isHome_93 (by decide) ?_
  refine lv_icmp_ge (tgt := 146) hx hb dL_isHome_95 (by decide) (fun _ => ?_) (fun c => absurd (nI_le (a := 48) (b := 48) (by decide) (by decide)) c)
  refine lv_iconst (v := 0) hx hb dL_isHome_146 (by decide) ?_
  refine lv_istore (lv' := [(9, .int 0), (8, .int 1), (0, .ref (ad (0))), (1, .int (nI h)), (2, .int z), (3, .ref (ad (3))), (4, .ref (ad (4))), (5, .ref (ad (5 + h))), (6, .ref (ad (7 + h))), (7, .ref (ad (2)))]) hx hb dL_isHome_147 hl (by decide) rfl (fun ls hl => ?_)
  have hl : lv_has ls 12 [(9, .int (nI 0)), (8, .int 1), (0, .ref (ad (0))), (1, .int (nI h)), (2, .int z), (3, .ref (ad (3))), (4, .ref (ad (4))), (5, .ref (ad (5 + h))), (6, .ref (ad (7 + h))), (7, .ref (ad (2)))] := lv_sub hl [0, 1, 2, 3, 4, 5, 6, 7, 8, 9] rfl
  refine tp_for (nL := 12) 4 (fun _ => I) (fun t => [(9, .int (nI t)), (8, .int 1), (0, .ref (ad (0))), (1, .int (nI h)), (2, .int z), (3, .ref (ad (3))), (4, .ref (ad (4))), (5, .ref (ad (5 + h))), (6, .ref (ad (7 + h))), (7, .ref (ad (2)))]) (fun t htt ls H locs hl hP hD hS iht => ?_) (fun ls H locs hl hP hD hS => ?_) hl hP hD hS
  · refine lv_iload hx hb dL_isHome_149 (lv_at hl 0 rfl) ?_
    refine lv_iconst (v := 4) hx hb dL_isHome_151 (by decide) ?_
    refine lv_icmp_ge (tgt := 337) hx hb dL_isHome_152 (by decide) (fun c => absurd c (nI_ge (a := t) (b := 4) (by omega) (by decide))) (fun _ => ?_)
    refine lv_iload hx hb dL_isHome_155 (lv_at hl 1 rfl) ?_
    refine lv_if_eq (tgt := 337) hx hb dL_isHome_157 (by decide) (fun c => absurd c (by decide)) (fun _ => ?_)
    refine tp_meetH (D := D) (cy := cy) (n := n) (ad := ad) (I := I) (o := o) (A := A) (H0 := s.heap) (nI (tl_mo z e0 t) : Int32) (fun y => F0 m 186 ls (.int y :: [])) (fun hj186 => ?_) (fun H locs hP hD hS => ?_)
    · refine lv_iload hx hb dL_isHome_160 (lv_at hl 0 rfl) ?_
      refine lv_if_ne (tgt := 175) hx hb dL_isHome_162 (by decide) (fun c162_1 => ?_) (fun c162_1 => ?_)
      · refine lv_iload_n hx hb dL_isHome_175 rfl (lv_at hl 4 rfl) ?_
        refine lv_iconst (v := 3) hx hb dL_isHome_176 (by decide) ?_
        refine lv_iload hx hb dL_isHome_177 (lv_at hl 0 rfl) ?_
        refine lv_imul hx hb dL_isHome_179 ?_
        refine tp_eqi (y := nI (3 * t)) (pk_mul 3 t) ?_
        refine lv_ishr hx hb dL_isHome_180 ?_
        refine tp_eqi (y := tl_shr z (nI (3 * t))) rfl ?_
        refine lv_bipush (v := 48) hx hb dL_isHome_181 (by decide) ?_
        refine tp_callS ⟨hx, hb, hml, hown, hts⟩ (lf_low l D cy n ad o I (tl_shr z (nI (3 * t))) 48 (by decide) (by decide)) (va_cwS 2 hts gL_isHome_L_low rfl rfl rfl (by decide +kernel) ⟨Nat.le_of_ble_eq_true rfl, Nat.le_of_ble_eq_true rfl⟩) hK hP hD hS hA rfl hl.1 rfl (Nat.le_of_ble_eq_true rfl) dL_isHome_183 ⟨Nat.zero_le _, Nat.zero_le _⟩ (fun I9 e9 H locs hP hD hS => ?_)
        subst e9
        exact hj186 _ (tl_mo1 c162_1) _ _ hP hD hS
      · refine lv_aload hx hb dL_isHome_165 (lv_at hl 9 rfl) ?_
        refine lv_iconst (v := 0) hx hb dL_isHome_167 (by decide) ?_
        refine tp_iald hx hb hK hP (2) 12 (0) (by omega) rfl (by decide) (by decide) (by decide) dL_isHome_168 ?_
        refine tp_eqi (y := nI e0) he ?_
        refine lv_bipush (v := 48) hx hb dL_isHome_169 (by decide) ?_
        refine lv_irem hx hb dL_isHome_171 (by decide) ?_
        refine tp_eqi (y := nI (e0 % 48)) (pk_rem (d := 48) (by omega) (by decide) (by decide)) ?_
        refine lv_goto (tgt := 186) hx hb dL_isHome_172 (by decide) ?_
        exact hj186 _ (tl_mo0 (by omega) c162_1) _ _ hP hD hS
    have hmo := tl_mo_lt z e0 t
    refine lv_istore (lv' := [(10, .int (nI (tl_mo z e0 t))), (9, .int (nI t)), (8, .int 1), (0, .ref (ad (0))), (1, .int (nI h)), (2, .int z), (3, .ref (ad (3))), (4, .ref (ad (4))), (5, .ref (ad (5 + h))), (6, .ref (ad (7 + h))), (7, .ref (ad (2)))]) hx hb dL_isHome_186 hl (by decide) rfl (fun ls hl => ?_)
    refine lv_aload_n hx hb dL_isHome_188 rfl (lv_at hl 3 rfl) ?_
    refine lv_iload_n hx hb dL_isHome_189 rfl (lv_at hl 4 rfl) ?_
    refine lv_iload hx hb dL_isHome_190 (lv_at hl 0 rfl) ?_
    refine tp_callE ⟨hx, hb, hml, hown, hts⟩ (op_need_ok l D cy n ad o I sa tL tM h hi hn6 (tl_mo z e0 t) (by omega)) (cwV 2 hts gL_isHome_X1_need rfl rfl rfl (by decide +kernel) ⟨Nat.le_of_ble_eq_true rfl, Nat.le_of_ble_eq_true rfl⟩) hE hK hP hD hS hA 0 1 tp_e0 rfl rfl rfl hl.1 rfl (Nat.le_of_ble_eq_true rfl) dL_isHome_192 ⟨Nat.zero_le _, Nat.zero_le _⟩ (fun I9 e9 H locs hP hD hS => ?_)
    subst e9
    refine lv_iload_n hx hb dL_isHome_195 rfl (lv_at hl 4 rfl) ?_
    refine lv_iload hx hb dL_isHome_196 (lv_at hl 0 rfl) ?_
    refine lv_aload_n hx hb dL_isHome_198 rfl (lv_at hl 6 rfl) ?_
    refine lv_aload hx hb dL_isHome_199 (lv_at hl 7 rfl) ?_
    refine lv_aload hx hb dL_isHome_201 (lv_at hl 10 rfl) ?_
    refine tp_callS ⟨hx, hb, hml, hown, hts⟩ (lf_need l D cy n ad o I h c0 hF (tl_mo z e0 t) (by omega)) (va_cwS 5 hts gL_isHome_L_need rfl rfl rfl (by decide +kernel) ⟨Nat.le_of_ble_eq_true rfl, Nat.le_of_ble_eq_true rfl⟩) hK hP hD hS hA rfl hl.1 rfl (Nat.le_of_ble_eq_true rfl) dL_isHome_203 ⟨Nat.zero_le _, Nat.zero_le _⟩ (fun I9 e9 H locs hP hD hS => ?_)
    subst e9
    refine lv_icmp_ne (tgt := 276) hx hb dL_isHome_206 (by decide) (fun c => absurd rfl c) (fun _ => ?_)
    refine lv_aload_n hx hb dL_isHome_209 rfl (lv_at hl 3 rfl) ?_
    refine lv_iload_n hx hb dL_isHome_210 rfl (lv_at hl 4 rfl) ?_
    refine lv_iload hx hb dL_isHome_211 (lv_at hl 0 rfl) ?_
    refine tp_callE ⟨hx, hb, hml, hown, hts⟩ (op_taper_ok l D cy n ad o I sa tL tM h hi hn6 (tl_mo z e0 t) (by omega)) (cwV 2 hts gL_isHome_X1_taper rfl rfl rfl (by decide +kernel) ⟨Nat.le_of_ble_eq_true rfl, Nat.le_of_ble_eq_true rfl⟩) hE hK hP hD hS hA 0 1 tp_e0 rfl rfl rfl hl.1 rfl (Nat.le_of_ble_eq_true rfl) dL_isHome_213 ⟨Nat.zero_le _, Nat.zero_le _⟩ (fun I9 e9 H locs hP hD hS => ?_)
    subst e9
    refine lv_iload_n hx hb dL_isHome_216 rfl (lv_at hl 4 rfl) ?_
    refine lv_iload hx hb dL_isHome_217 (lv_at hl 0 rfl) ?_
    refine lv_aload_n hx hb dL_isHome_219 rfl (lv_at hl 6 rfl) ?_
    refine lv_aload hx hb dL_isHome_220 (lv_at hl 7 rfl) ?_
    refine lv_aload hx hb dL_isHome_222 (lv_at hl 10 rfl) ?_
    refine tp_callS ⟨hx, hb, hml, hown, hts⟩ (lf_taper l D cy n ad o I h c0 hF (tl_mo z e0 t) (by omega)) (va_cwS 5 hts gL_isHome_L_taper rfl rfl rfl (by decide +kernel) ⟨Nat.le_of_ble_eq_true rfl, Nat.le_of_ble_eq_true rfl⟩) hK hP hD hS hA rfl hl.1 rfl (Nat.le_of_ble_eq_true rfl) dL_isHome_224 ⟨Nat.zero_le _, Nat.zero_le _⟩ (fun I9 e9 H locs hP hD hS => ?_)
    subst e9
    refine lv_icmp_ne (tgt := 276) hx hb dL_isHome_227 (by decide) (fun c => absurd rfl c) (fun _ => ?_)
    refine lv_aload_n hx hb dL_isHome_230 rfl (lv_at hl 3 rfl) ?_
    refine lv_iload_n hx hb dL_isHome_231 rfl (lv_at hl 4 rfl) ?_
    refine lv_iload hx hb dL_isHome_232 (lv_at hl 0 rfl) ?_
    refine tp_callE ⟨hx, hb, hml, hown, hts⟩ (op_tariff_ok l D cy n ad o I sa tL tM h hi hn6 (tl_mo z e0 t) (by omega)) (cwV 2 hts gL_isHome_X1_tariff rfl rfl rfl (by decide +kernel) ⟨Nat.le_of_ble_eq_true rfl, Nat.le_of_ble_eq_true rfl⟩) hE hK hP hD hS hA 0 1 tp_e0 rfl rfl rfl hl.1 rfl (Nat.le_of_ble_eq_true rfl) dL_isHome_234 ⟨Nat.zero_le _, Nat.zero_le _⟩ (fun I9 e9 H locs hP hD hS => ?_)
    subst e9
    refine lv_iload_n hx hb dL_isHome_237 rfl (lv_at hl 4 rfl) ?_
    refine lv_iload hx hb dL_isHome_238 (lv_at hl 0 rfl) ?_
    refine lv_aload_n hx hb dL_isHome_240 rfl (lv_at hl 6 rfl) ?_
    refine lv_aload hx hb dL_isHome_241 (lv_at hl 7 rfl) ?_
    refine lv_aload hx hb dL_isHome_243 (lv_at hl 10 rfl) ?_
    refine tp_callS ⟨hx, hb, hml, hown, hts⟩ (lf_tariff l D cy n ad o I h c0 hF (tl_mo z e0 t) (by omega)) (va_cwS 5 hts gL_isHome_L_tariff rfl rfl rfl (by decide +kernel) ⟨Nat.le_of_ble_eq_true rfl, Nat.le_of_ble_eq_true rfl⟩) hK hP hD hS hA rfl hl.1 rfl (Nat.le_of_ble_eq_true rfl) dL_isHome_245 ⟨Nat.zero_le _, Nat.zero_le _⟩ (fun I9 e9 H locs hP hD hS => ?_)
    subst e9
    refine lv_icmp_ne (tgt := 276) hx hb dL_isHome_248 (by decide) (fun c => absurd rfl c) (fun _ => ?_)
    refine lv_aload_n hx hb dL_isHome_251 rfl (lv_at hl 3 rfl) ?_
    refine lv_iload_n hx hb dL_isHome_252 rfl (lv_at hl 4 rfl) ?_
    refine lv_iload hx hb dL_isHome_253 (lv_at hl 0 rfl) ?_
    refine tp_callE ⟨hx, hb, hml, hown, hts⟩ (op_due_ok l D cy n ad o I sa tL tM h hi hn6 (tl_mo z e0 t) (by omega)) (cwV 2 hts gL_isHome_X1_due rfl rfl rfl (by decide +kernel) ⟨Nat.le_of_ble_eq_true rfl, Nat.le_of_ble_eq_true rfl⟩) hE hK hP hD hS hA 0 1 tp_e0 rfl rfl rfl hl.1 rfl (Nat.le_of_ble_eq_true rfl) dL_isHome_255 ⟨Nat.zero_le _, Nat.zero_le _⟩ (fun I9 e9 H locs hP hD hS => ?_)
    subst e9
    refine lv_iload_n hx hb dL_isHome_258 rfl (lv_at hl 4 rfl) ?_
    refine lv_iload hx hb dL_isHome_259 (lv_at hl 0 rfl) ?_
    refine lv_aload_n hx hb dL_isHome_261 rfl (lv_at hl 6 rfl) ?_
    refine lv_aload hx hb dL_isHome_262 (lv_at hl 7 rfl) ?_
    refine lv_aload hx hb dL_isHome_264 (lv_at hl 10 rfl) ?_
    refine tp_callS ⟨hx, hb, hml, hown, hts⟩ (lf_due l D cy n ad o I h c0 hF (tl_mo z e0 t) (by omega)) (va_cwS 5 hts gL_isHome_L_due rfl rfl rfl (by decide +kernel) ⟨Nat.le_of_ble_eq_true rfl, Nat.le_of_ble_eq_true rfl⟩) hK hP hD hS hA rfl hl.1 rfl (Nat.le_of_ble_eq_true rfl) dL_isHome_266 ⟨Nat.zero_le _, Nat.zero_le _⟩ (fun I9 e9 H locs hP hD hS => ?_)
    subst e9
    refine lv_icmp_ne (tgt := 276) hx hb dL_isHome_269 (by decide) (fun c => absurd rfl c) (fun _ => ?_)
    refine lv_iconst (v := 1) hx hb dL_isHome_272 (by decide) ?_
    refine lv_goto (tgt := 277) hx hb dL_isHome_273 (by decide) ?_
    refine lv_istore (lv' := [(8, .int 1), (10, .int (nI (tl_mo z e0 t))), (9, .int (nI t)), (0, .ref (ad (0))), (1, .int (nI h)), (2, .int z), (3, .ref (ad (3))), (4, .ref (ad (4))), (5, .ref (ad (5 + h))), (6, .ref (ad (7 + h))), (7, .ref (ad (2)))]) hx hb dL_isHome_277 hl (by decide) rfl (fun ls hl => ?_)
    refine lv_iconst (v := 0) hx hb dL_isHome_279 (by decide) ?_
    refine lv_istore (lv' := [(11, .int 0), (8, .int 1), (10, .int (nI (tl_mo z e0 t))), (9, .int (nI t)), (0, .ref (ad (0))), (1, .int (nI h)), (2, .int z), (3, .ref (ad (3))), (4, .ref (ad (4))), (5, .ref (ad (5 + h))), (6, .ref (ad (7 + h))), (7, .ref (ad (2)))]) hx hb dL_isHome_280 hl (by decide) rfl (fun ls hl => ?_)
    have hl : lv_has ls 12 [(11, .int (nI 0)), (8, .int 1), (10, .int (nI (tl_mo z e0 t))), (9, .int (nI t)), (0, .ref (ad (0))), (1, .int (nI h)), (2, .int z), (3, .ref (ad (3))), (4, .ref (ad (4))), (5, .ref (ad (5 + h))), (6, .ref (ad (7 + h))), (7, .ref (ad (2)))] := lv_sub hl [0, 1, 2, 3, 4, 5, 6, 7, 8, 9, 10, 11] rfl
    refine tp_for (nL := 12) 5 (fun _ => I) (fun u => [(11, .int (nI u)), (8, .int 1), (10, .int (nI (tl_mo z e0 t))), (9, .int (nI t)), (0, .ref (ad (0))), (1, .int (nI h)), (2, .int z), (3, .ref (ad (3))), (4, .ref (ad (4))), (5, .ref (ad (5 + h))), (6, .ref (ad (7 + h))), (7, .ref (ad (2)))]) (fun u htu ls H locs hl hP hD hS ihu => ?_) (fun ls H locs hl hP hD hS => ?_) hl hP hD hS
    · refine lv_iload hx hb dL_isHome_282 (lv_at hl 0 rfl) ?_
      refine lv_iconst (v := 5) hx hb dL_isHome_284 (by decide) ?_
      refine lv_icmp_ge (tgt := 331) hx hb dL_isHome_285 (by decide) (fun c => absurd c (nI_ge (a := u) (b := 5) (by omega) (by decide))) (fun _ => ?_)
      refine lv_iload hx hb dL_isHome_288 (lv_at hl 1 rfl) ?_
      refine lv_if_eq (tgt := 331) hx hb dL_isHome_290 (by decide) (fun c => absurd c (by decide)) (fun _ => ?_)
      refine lv_aload_n hx hb dL_isHome_293 rfl (lv_at hl 4 rfl) ?_
      refine lv_iload_n hx hb dL_isHome_294 rfl (lv_at hl 5 rfl) ?_
      refine lv_iload hx hb dL_isHome_295 (lv_at hl 0 rfl) ?_
      refine lv_iload hx hb dL_isHome_297 (lv_at hl 2 rfl) ?_
      refine tp_callE ⟨hx, hb, hml, hown, hts⟩ (op_fact_ok l D cy n ad o I sa tL tM h hi hn6 u (tl_mo z e0 t) (by omega) (by omega)) (cwV 3 hts gL_isHome_X1_fact rfl rfl rfl (by decide +kernel) ⟨Nat.le_of_ble_eq_true rfl, Nat.le_of_ble_eq_true rfl⟩) hE hK hP hD hS hA 0 1 tp_e0 rfl rfl rfl hl.1 rfl (Nat.le_of_ble_eq_true rfl) dL_isHome_299 ⟨Nat.zero_le _, Nat.zero_le _⟩ (fun I9 e9 H locs hP hD hS => ?_)
      subst e9
      refine lv_iload_n hx hb dL_isHome_302 rfl (lv_at hl 5 rfl) ?_
      refine lv_iload hx hb dL_isHome_303 (lv_at hl 0 rfl) ?_
      refine lv_iload hx hb dL_isHome_305 (lv_at hl 2 rfl) ?_
      refine lv_aload_n hx hb dL_isHome_307 rfl (lv_at hl 7 rfl) ?_
      refine lv_aload hx hb dL_isHome_308 (lv_at hl 8 rfl) ?_
      refine lv_aload hx hb dL_isHome_310 (lv_at hl 11 rfl) ?_
      refine tp_callS ⟨hx, hb, hml, hown, hts⟩ (lf_fact l D cy n ad o I h c0 hF u (tl_mo z e0 t) (by omega) (by omega)) (va_cwS 6 hts gL_isHome_L_fact rfl rfl rfl (by decide +kernel) ⟨Nat.le_of_ble_eq_true rfl, Nat.le_of_ble_eq_true rfl⟩) hK hP hD hS hA rfl hl.1 rfl (Nat.le_of_ble_eq_true rfl) dL_isHome_312 ⟨Nat.zero_le _, Nat.zero_le _⟩ (fun I9 e9 H locs hP hD hS => ?_)
      subst e9
      refine lv_icmp_ne (tgt := 322) hx hb dL_isHome_315 (by decide) (fun c => absurd rfl c) (fun _ => ?_)
      refine lv_iconst (v := 1) hx hb dL_isHome_318 (by decide) ?_
      refine lv_goto (tgt := 323) hx hb dL_isHome_319 (by decide) ?_
      refine lv_istore (lv' := [(8, .int 1), (11, .int (nI u)), (10, .int (nI (tl_mo z e0 t))), (9, .int (nI t)), (0, .ref (ad (0))), (1, .int (nI h)), (2, .int z), (3, .ref (ad (3))), (4, .ref (ad (4))), (5, .ref (ad (5 + h))), (6, .ref (ad (7 + h))), (7, .ref (ad (2)))]) hx hb dL_isHome_323 hl (by decide) rfl (fun ls hl => ?_)
      refine lv_iinc (v := (nI (u + 1))) (lv' := [(11, .int (nI (u + 1))), (8, .int 1), (10, .int (nI (tl_mo z e0 t))), (9, .int (nI t)), (0, .ref (ad (0))), (1, .int (nI h)), (2, .int z), (3, .ref (ad (3))), (4, .ref (ad (4))), (5, .ref (ad (5 + h))), (6, .ref (ad (7 + h))), (7, .ref (ad (2)))]) hx hb dL_isHome_325 hl (k := 1) rfl (nI_1 _) (by decide) rfl (fun ls hl => ?_)
      refine lv_goto (tgt := 282) hx hb dL_isHome_328 (by decide) ?_
      exact ihu ls H locs (lv_sub hl [0, 1, 2, 3, 4, 5, 6, 7, 8, 9, 10, 11] rfl) hP hD hS
    refine lv_iload hx hb dL_isHome_282 (lv_at hl 0 rfl) ?_
    refine lv_iconst (v := 5) hx hb dL_isHome_284 (by decide) ?_
    refine lv_icmp_ge (tgt := 331) hx hb dL_isHome_285 (by decide) (fun _ => ?_) (fun c => absurd (nI_le (a := 5) (b := 5) (by decide) (by decide)) c)
    refine lv_iinc (v := (nI (t + 1))) (lv' := [(9, .int (nI (t + 1))), (11, .int (nI 5)), (8, .int 1), (10, .int (nI (tl_mo z e0 t))), (0, .ref (ad (0))), (1, .int (nI h)), (2, .int z), (3, .ref (ad (3))), (4, .ref (ad (4))), (5, .ref (ad (5 + h))), (6, .ref (ad (7 + h))), (7, .ref (ad (2)))]) hx hb dL_isHome_331 hl (k := 3) rfl (nI_1 _) (by decide) rfl (fun ls hl => ?_)
    refine lv_goto (tgt := 149) hx hb dL_isHome_334 (by decide) ?_
    exact iht ls H locs (lv_sub hl [0, 2, 4, 5, 6, 7, 8, 9, 10, 11] rfl) hP hD hS
  · refine lv_iload hx hb dL_isHome_149 (lv_at hl 0 rfl) ?_
    refine lv_iconst (v := 4) hx hb dL_isHome_151 (by decide) ?_
    refine lv_icmp_ge (tgt := 337) hx hb dL_isHome_152 (by decide) (fun _ => ?_) (fun c => absurd (nI_le (a := 4) (b := 4) (by decide) (by decide)) c)
    refine lv_iload hx hb dL_isHome_337 (lv_at hl 1 rfl) ?_
    exact tp_reti hx hb hr hlocks hK hP hD hS rfl rfl rfl dL_isHome_339
theorem lf_isHome (l : Launch) (D : va_G) (cy : Nat → ClassId) (n : Nat) (ad : Nat → Nat) (o : Int64) (I : Nat → Nat → Int32) (sa : Nat → Nat) (tL tM : Nat) (h c0 : Nat) (hF : tq_F I h c0) (e0 a0 : Nat) (hB : tq_B I h e0 a0) (hi : h < n) (hn6 : n ≤ 6) (hc3 : I (9 + 15 * h) 3 = nI a0) (hc0 : I 0 2 = nI e0) (z : Int32) : tp_IE l yL_isHome wsL_isHome (tp_rm 6 136) D cy n ad o sa tL tM [.ref (ad (0)), .int (nI h), .int z, .ref (ad (3)), .ref (ad (4)), .ref (ad (5 + h)), .ref (ad (7 + h)), .ref (ad (2))] I (1) (I) := by
  rcases Nat.lt_or_ge e0 48 with q | q
  · exact lf_isHome_a l D cy n ad o I sa tL tM h c0 hF e0 a0 hB hi hn6 hc3 hc0 z q
  · exact lf_isHome_b l D cy n ad o I sa tL tM h c0 hF e0 a0 hB hi hn6 hc3 hc0 z (by have := hB.1.2.2.1; omega)
end
section
/-! THE LAW TELLS A CHANGE -/
def tl_k9 (z : Int32) : Nat := tl_low (tl_shr z 2) 9
def tl_tf (z : Int32) : Nat := if tl_k9 z ≤ 4 then tl_k9 z else 3
def tl_d1 (z : Int32) (e : Nat) : Nat := if tl_low (tl_shr z 14) 3 = 0 then tl_low (tl_shr z 5) 1440 else tl_low (tl_shr z 5) (30 * e + 45)
def tl_td (z : Int32) (e : Nat) : Nat := if tl_d1 z e ≤ 1439 then tl_d1 z e else 1439
def tl_w (z : Int32) (k a b : Nat) : Nat := if tl_low (tl_shr z 15) k = 0 then a else b
def tl_tv (z : Int32) : Nat := if tl_tf z = 0 then 1 + tl_low (tl_shr z 8) 2 else if tl_tf z = 1 then tl_low (tl_shr z 8) 10 else if tl_tf z = 2 then tl_low (tl_shr z 6) (tl_w z 3 1000001 70000) else if tl_tf z = 3 then tl_low (tl_shr z 6) (tl_w z 5 1000001 90000) else tl_low (tl_shr z 4) (tl_w z 5 10000001 1700000)
def tl_r1 (d : Nat) : Nat := if d % 30 ≤ 14 then 0 else 1
theorem tl_w_pos {z : Int32} {k a b : Nat} (ha : 0 < a) (hb : 0 < b) : 0 < tl_w z k a b := by
  unfold tl_w
  split <;> omega
theorem tl_w_lt {z : Int32} {k a b N : Nat} (ha : a < N) (hb : b < N) : tl_w z k a b < N := by
  unfold tl_w
  split <;> omega
theorem tl_wa {z : Int32} {k a b : Nat} (hk : k < 100) (h0 : 0 < k) (c : nI (tl_low (tl_shr z 15) k) = 0) : nI a = nI (tl_w z k a b) := by
  have hl := tl_low_lt (x := tl_shr z 15) h0
  unfold tl_w
  rw [if_pos (tp_nIj (b := 0) c (by omega) (by decide))]
theorem tl_wb {z : Int32} {k a b : Nat} (c : ¬ nI (tl_low (tl_shr z 15) k) = 0) : nI b = nI (tl_w z k a b) := by
  unfold tl_w
  rw [if_neg (fun q => c (by rw [q]; decide))]
theorem tl_k9_lt (z : Int32) : tl_k9 z < 9 := tl_low_lt (by decide)
theorem tl_tf_lt (z : Int32) : tl_tf z < 5 := by
  unfold tl_tf
  split <;> omega
theorem tl_tfa {z : Int32} (c : nI (tl_k9 z) ≤ 4) : nI (tl_k9 z) = nI (tl_tf z) := by
  have := tl_k9_lt z
  unfold tl_tf
  rw [if_pos ((nI_leI (b := 4) (by omega) (by decide)).mp c)]
theorem tl_tfb {z : Int32} (c : ¬ nI (tl_k9 z) ≤ 4) : (3 : Int32) = nI (tl_tf z) := by
  have := tl_k9_lt z
  unfold tl_tf
  rw [if_neg (fun q => c (nI_le (b := 4) q (by decide)))]
  rfl
theorem tl_d1_lt {z : Int32} {e : Nat} (he : e ≤ 48) : tl_d1 z e < 1500 := by
  have h1 := tl_low_lt (x := tl_shr z 5) (k := 1440) (by decide)
  have h2 := tl_low_lt (x := tl_shr z 5) (k := 30 * e + 45) (by omega)
  unfold tl_d1
  split <;> omega
theorem tl_td_lt {z : Int32} {e : Nat} : tl_td z e < 1440 := by
  unfold tl_td
  split <;> omega
theorem tl_d1a {z : Int32} {e : Nat} (c : nI (tl_low (tl_shr z 14) 3) = 0) : nI (tl_low (tl_shr z 5) 1440) = nI (tl_d1 z e) := by
  have hl := tl_low_lt (x := tl_shr z 14) (k := 3) (by decide)
  unfold tl_d1
  rw [if_pos (tp_nIj (b := 0) c (by omega) (by decide))]
theorem tl_d1b {z : Int32} {e : Nat} (c : ¬ nI (tl_low (tl_shr z 14) 3) = 0) : nI (tl_low (tl_shr z 5) (30 * e + 45)) = nI (tl_d1 z e) := by
  unfold tl_d1
  rw [if_neg (fun q => c (by rw [q]; decide))]
theorem tl_tda {z : Int32} {e : Nat} (he : e ≤ 48) (c : nI (tl_d1 z e) ≤ 1439) : nI (tl_d1 z e) = nI (tl_td z e) := by
  have := tl_d1_lt (z := z) he
  unfold tl_td
  rw [if_pos ((nI_leI (b := 1439) (by omega) (by decide)).mp c)]
theorem tl_tdb {z : Int32} {e : Nat} (c : ¬ nI (tl_d1 z e) ≤ 1439) : (1439 : Int32) = nI (tl_td z e) := by
  unfold tl_td
  rw [if_neg (fun q => c (nI_le (b := 1439) q (by decide)))]
  rfl
theorem tl_fe {z : Int32} {k : Nat} (hk : k < 9) : nI (tl_tf z) = nI k ↔ tl_tf z = k := nI_eq (by have := tl_tf_lt z; omega) (by omega)
theorem tl_v0a {z : Int32} (c : nI (tl_tf z) = 0) : nI (1 + tl_low (tl_shr z 8) 2) = nI (tl_tv z) := by
  unfold tl_tv
  rw [if_pos ((tl_fe (k := 0) (by decide)).mp c)]
theorem tl_v1a {z : Int32} (c : ¬ nI (tl_tf z) = 0) (c1 : nI (tl_tf z) = 1) : nI (tl_low (tl_shr z 8) 10) = nI (tl_tv z) := by
  unfold tl_tv
  rw [if_neg (fun q => c ((tl_fe (k := 0) (by decide)).mpr q)), if_pos ((tl_fe (k := 1) (by decide)).mp c1)]
theorem tl_v2a {z : Int32} (c : ¬ nI (tl_tf z) = 0) (c1 : ¬ nI (tl_tf z) = 1) (c2 : nI (tl_tf z) = 2) : nI (tl_low (tl_shr z 6) (tl_w z 3 1000001 70000)) = nI (tl_tv z) := by
  unfold tl_tv
  rw [if_neg (fun q => c ((tl_fe (k := 0) (by decide)).mpr q)), if_neg (fun q => c1 ((tl_fe (k := 1) (by decide)).mpr q)), if_pos ((tl_fe (k := 2) (by decide)).mp c2)]
theorem tl_v3a {z : Int32} (c : ¬ nI (tl_tf z) = 0) (c1 : ¬ nI (tl_tf z) = 1) (c2 : ¬ nI (tl_tf z) = 2) (c3 : nI (tl_tf z) = 3) : nI (tl_low (tl_shr z 6) (tl_w z 5 1000001 90000)) = nI (tl_tv z) := by
  unfold tl_tv
  rw [if_neg (fun q => c ((tl_fe (k := 0) (by decide)).mpr q)), if_neg (fun q => c1 ((tl_fe (k := 1) (by decide)).mpr q)), if_neg (fun q => c2 ((tl_fe (k := 2) (by decide)).mpr q)), if_pos ((tl_fe (k := 3) (by decide)).mp c3)]
theorem tl_v4a {z : Int32} (c : ¬ nI (tl_tf z) = 0) (c1 : ¬ nI (tl_tf z) = 1) (c2 : ¬ nI (tl_tf z) = 2) (c3 : ¬ nI (tl_tf z) = 3) : nI (tl_low (tl_shr z 4) (tl_w z 5 10000001 1700000)) = nI (tl_tv z) := by
  unfold tl_tv
  rw [if_neg (fun q => c ((tl_fe (k := 0) (by decide)).mpr q)), if_neg (fun q => c1 ((tl_fe (k := 1) (by decide)).mpr q)), if_neg (fun q => c2 ((tl_fe (k := 2) (by decide)).mpr q)), if_neg (fun q => c3 ((tl_fe (k := 3) (by decide)).mpr q))]
theorem tl_low_w {x z : Int32} {k a b N : Nat} (ha : 0 < a) (hb : 0 < b) (haN : a ≤ N + 1) (hbN : b ≤ N + 1) : tl_low x (tl_w z k a b) ≤ N := by
  have h1 := tl_low_lt (x := x) (tl_w_pos (z := z) (k := k) ha hb)
  have h2 : tl_w z k a b ≤ N + 1 := by
    unfold tl_w
    split <;> omega
  omega
theorem tl_range {x : Int32} {f N : Nat} {v L : Nat} (hN : tp_vm f = nI N) (hL : tp_vl f = nI L) (h31 : N < 2 ^ 31) (h1 : L ≤ v) (h2 : v ≤ N) (hx : x = nI v) : ¬ x < tp_vl f ∧ x ≤ tp_vm f := by
  rw [hx, hN, hL]
  exact ⟨nI_nlt h1 (by omega), nI_le h2 h31⟩
theorem tl_tv_ok (z : Int32) : ¬ nI (tl_tv z) < tp_vl (tl_tf z) ∧ nI (tl_tv z) ≤ tp_vm (tl_tf z) := by
  have hf := tl_tf_lt z
  generalize hv : tl_tv z = v
  unfold tl_tv at hv
  generalize tl_tf z = f at hf hv
  rcases (show f = 0 ∨ f = 1 ∨ f = 2 ∨ f = 3 ∨ f = 4 by omega) with rfl | rfl | rfl | rfl | rfl
  · rw [if_pos rfl] at hv
    have h1 := tl_low_lt (x := tl_shr z 8) (k := 2) (by decide)
    exact tl_range (N := 2) (L := 1) rfl rfl (by decide) (by omega) (by omega) rfl
  · rw [if_neg (by decide), if_pos rfl] at hv
    have h1 := tl_low_lt (x := tl_shr z 8) (k := 10) (by decide)
    exact tl_range (N := 9) (L := 0) rfl rfl (by decide) (by omega) (by omega) rfl
  · rw [if_neg (by decide), if_neg (by decide), if_pos rfl] at hv
    have h1 := tl_low_w (x := tl_shr z 6) (z := z) (k := 3) (a := 1000001) (b := 70000) (N := 1000000) (by decide) (by decide) (by decide) (by decide)
    exact tl_range (N := 1000000) (L := 0) rfl rfl (by decide) (by omega) (by omega) rfl
  · rw [if_neg (by decide), if_neg (by decide), if_neg (by decide), if_pos rfl] at hv
    have h1 := tl_low_w (x := tl_shr z 6) (z := z) (k := 5) (a := 1000001) (b := 90000) (N := 1000000) (by decide) (by decide) (by decide) (by decide)
    exact tl_range (N := 1000000) (L := 0) rfl rfl (by decide) (by omega) (by omega) rfl
  · rw [if_neg (by decide), if_neg (by decide), if_neg (by decide), if_neg (by decide)] at hv
    have h1 := tl_low_w (x := tl_shr z 4) (z := z) (k := 5) (a := 10000001) (b := 1700000) (N := 10000000) (by decide) (by decide) (by decide) (by decide)
    exact tl_range (N := 10000000) (L := 0) rfl rfl (by decide) (by omega) (by omega) rfl
theorem tl_r1a {d : Nat} (c : nI (d % 30) ≤ 14) : (0 : Int32) = nI (tl_r1 d) := by
  unfold tl_r1
  rw [if_pos ((nI_leI (b := 14) (by omega) (by decide)).mp c)]
  rfl
theorem tl_r1b {d : Nat} (c : ¬ nI (d % 30) ≤ 14) : (1 : Int32) = nI (tl_r1 d) := by
  unfold tl_r1
  rw [if_neg (fun q => c (nI_le (b := 14) q (by decide)))]
  rfl
theorem tl_r2 (d : Nat) : d / 30 + tl_r1 d = tp_r0 d := by
  unfold tl_r1 tp_r0
  by_cases q : d % 30 ≤ 14
  · rw [if_pos q, if_neg (by omega)]
    rfl
  · rw [if_neg q, if_pos (by omega)]
/-- a change entered in the law's list -/
def tl_ent (I : Nat → Nat → Int32) (c x : Nat) (v : Int32) : Nat → Nat → Int32 := tp_u (tp_u (tp_u I 3 c (nI x)) 4 c v) 2 2 (nI (c + 1))
theorem tl_ent_oth {I : Nat → Nat → Int32} {c x k : Nat} {v : Int32} (h2 : k ≠ 2) (h3 : k ≠ 3) (h4 : k ≠ 4) : tl_ent I c x v k = I k := by
  unfold tl_ent
  rw [tp_u_oth h2, tp_u_oth h4, tp_u_oth h3]
set_option maxHeartbeats 4000000 in
set_option maxRecDepth 100000 in
/-- tells -/
theorem lf_tells (l : Launch) (D : va_G) (cy : Nat → ClassId) (n : Nat) (ad : Nat → Nat) (o : Int64) (I : Nat → Nat → Int32) (sa : Nat → Nat) (tL tM : Nat) (hlt : l.stackTraces = false) (z : Int32) (e0 c0 : Nat) (hn0 : 0 < n) (hn2 : n ≤ 2) (h21 : I 2 1 = nI n) (he : I 2 0 = nI e0) (he8 : e0 ≤ 48) (hc0 : I 2 2 = nI c0) (hc64 : c0 < 64) (h100 : I (9 + 15 * tl_low z n) 2 < 100) (z0 : Nat) (hz1 : tp_r0 (tl_td z e0) ≤ z0) (hz2 : z0 ≤ 48) (hz3 : ∀ m, tp_r0 (tl_td z e0) ≤ m → m < z0 → I (9 + 15 * tl_low z n + 8 + tl_tf z) m ≤ nI (tp_r0 (tl_td z e0))) (hz4 : z0 = 48 ∨ ¬ I (9 + 15 * tl_low z n + 8 + tl_tf z) z0 ≤ nI (tp_r0 (tl_td z e0))) : tp_IE l yL_tells wsL_tells (tp_rm 3 76) D cy n ad o sa tL tM [.ref (ad (0)), .int z, .ref (ad (3)), .ref (ad (4)), .ref (ad (2))] I (1) (tp_chg (tl_ent I c0 (16 * tp_r0 (tl_td z e0) + 8 * tl_low z n + tl_tf z) (nI (tl_tv z))) (9 + 15 * tl_low z n) (tl_tf z) (tp_r0 (tl_td z e0)) (nI (tl_tv z)) (z0 - tp_r0 (tl_td z e0))) := by
  have hn6 : n ≤ 6 := by omega
  refine tp_ofIE (lv := [(0, .ref (ad (0))), (1, .int z), (2, .ref (ad (3))), (3, .ref (ad (4))), (4, .ref (ad (2)))]) (by decide) rfl (Nat.le_of_ble_eq_true rfl) rfl (fun p e s m args below meth c A ls S0 hE => ?_)
  obtain ⟨hx, hb, hr, hml, hown, hts, hlocks, hA, hK, hP, hD, hS, hl⟩ := S0
  obtain ⟨-, ⟨hEL, hEM⟩, -, hEw, -, hEa, hEo⟩ := id hE
  refine lv_iload_n hx hb dL_tells_0 rfl (lv_at hl 1 rfl) ?_
  refine lv_aload hx hb dL_tells_1 (lv_at hl 4 rfl) ?_
  refine lv_iconst (v := 1) hx hb dL_tells_3 (by decide) ?_
  refine tp_iald hx hb hK hP (2) 12 (1) (by omega) rfl (by decide) (by decide) (by decide) dL_tells_4 ?_
  refine tp_eqi (y := nI n) h21 ?_
  refine tp_callS ⟨hx, hb, hml, hown, hts⟩ (lf_low l D cy n ad o I z n (by omega) (by omega)) (va_cwS 2 hts gL_tells_L_low rfl rfl rfl (by decide +kernel) ⟨Nat.le_of_ble_eq_true rfl, Nat.le_of_ble_eq_true rfl⟩) hK hP hD hS hA rfl hl.1 rfl (Nat.le_of_ble_eq_true rfl) dL_tells_5 ⟨Nat.zero_le _, Nat.zero_le _⟩ (fun I9 e9 H locs hP hD hS => ?_)
  subst e9
  refine lv_istore (lv' := [(5, .int (nI (tl_low z n))), (0, .ref (ad (0))), (1, .int z), (2, .ref (ad (3))), (3, .ref (ad (4))), (4, .ref (ad (2)))]) hx hb dL_tells_8 hl (by decide) rfl (fun ls hl => ?_)
  refine lv_iload_n hx hb dL_tells_10 rfl (lv_at hl 2 rfl) ?_
  refine lv_iconst (v := 2) hx hb dL_tells_11 (by decide) ?_
  refine lv_ishr hx hb dL_tells_12 ?_
  refine tp_eqi (y := tl_shr z 2) rfl ?_
  refine lv_bipush (v := 9) hx hb dL_tells_13 (by decide) ?_
  refine tp_callS ⟨hx, hb, hml, hown, hts⟩ (lf_low l D cy n ad o I (tl_shr z 2) 9 (by decide) (by decide)) (va_cwS 2 hts gL_tells_L_low rfl rfl rfl (by decide +kernel) ⟨Nat.le_of_ble_eq_true rfl, Nat.le_of_ble_eq_true rfl⟩) hK hP hD hS hA rfl hl.1 rfl (Nat.le_of_ble_eq_true rfl) dL_tells_15 ⟨Nat.zero_le _, Nat.zero_le _⟩ (fun I9 e9 H locs hP hD hS => ?_)
  subst e9
  refine tp_eqi (y := (nI (tl_k9 z))) rfl ?_
  refine lv_istore (lv' := [(6, .int (nI (tl_k9 z))), (5, .int (nI (tl_low z n))), (0, .ref (ad (0))), (1, .int z), (2, .ref (ad (3))), (3, .ref (ad (4))), (4, .ref (ad (2)))]) hx hb dL_tells_18 hl (by decide) rfl (fun ls hl => ?_)
  refine tp_meetH (D := D) (cy := cy) (n := n) (ad := ad) (I := I) (o := o) (A := A) (H0 := s.heap) (nI (tl_tf z) : Int32) (fun y => F0 m 32 ls (.int y :: [])) (fun hj32 => ?_) (fun H locs hP hD hS => ?_)
  · refine lv_iload hx hb dL_tells_20 (lv_at hl 0 rfl) ?_
    refine lv_iconst (v := 4) hx hb dL_tells_22 (by decide) ?_
    refine lv_icmp_le (tgt := 30) hx hb dL_tells_23 (by decide) (fun c23_1 => ?_) (fun c23_1 => ?_)
    · refine lv_iload hx hb dL_tells_30 (lv_at hl 0 rfl) ?_
      exact hj32 _ (tl_tfa c23_1) _ _ hP hD hS
    · refine lv_iconst (v := 3) hx hb dL_tells_26 (by decide) ?_
      refine lv_goto (tgt := 32) hx hb dL_tells_27 (by decide) ?_
      exact hj32 _ (tl_tfb c23_1) _ _ hP hD hS
  refine lv_istore (lv' := [(6, .int (nI (tl_tf z))), (5, .int (nI (tl_low z n))), (0, .ref (ad (0))), (1, .int z), (2, .ref (ad (3))), (3, .ref (ad (4))), (4, .ref (ad (2)))]) hx hb dL_tells_32 hl (by decide) rfl (fun ls hl => ?_)
  refine tp_meetH (D := D) (cy := cy) (n := n) (ad := ad) (I := I) (o := o) (A := A) (H0 := s.heap) (nI (tl_d1 z e0) : Int32) (fun y => F0 m 73 ls (.int y :: [])) (fun hj73 => ?_) (fun H locs hP hD hS => ?_)
  · refine lv_iload_n hx hb dL_tells_34 rfl (lv_at hl 3 rfl) ?_
    refine lv_bipush (v := 14) hx hb dL_tells_35 (by decide) ?_
    refine lv_ishr hx hb dL_tells_37 ?_
    refine tp_eqi (y := tl_shr z 14) rfl ?_
    refine lv_iconst (v := 3) hx hb dL_tells_38 (by decide) ?_
    refine tp_callS ⟨hx, hb, hml, hown, hts⟩ (lf_low l D cy n ad o I (tl_shr z 14) 3 (by decide) (by decide)) (va_cwS 2 hts gL_tells_L_low rfl rfl rfl (by decide +kernel) ⟨Nat.le_of_ble_eq_true rfl, Nat.le_of_ble_eq_true rfl⟩) hK hP hD hS hA rfl hl.1 rfl (Nat.le_of_ble_eq_true rfl) dL_tells_39 ⟨Nat.zero_le _, Nat.zero_le _⟩ (fun I9 e9 H locs hP hD hS => ?_)
    subst e9
    refine lv_if_ne (tgt := 57) hx hb dL_tells_42 (by decide) (fun c42_2 => ?_) (fun c42_2 => ?_)
    · refine lv_iload_n hx hb dL_tells_57 rfl (lv_at hl 3 rfl) ?_
      refine lv_iconst (v := 5) hx hb dL_tells_58 (by decide) ?_
      refine lv_ishr hx hb dL_tells_59 ?_
      refine tp_eqi (y := tl_shr z 5) rfl ?_
      refine lv_bipush (v := 30) hx hb dL_tells_60 (by decide) ?_
      refine lv_aload hx hb dL_tells_62 (lv_at hl 6 rfl) ?_
      refine lv_iconst (v := 0) hx hb dL_tells_64 (by decide) ?_
      refine tp_iald hx hb hK hP (2) 12 (0) (by omega) rfl (by decide) (by decide) (by decide) dL_tells_65 ?_
      refine tp_eqi (y := nI e0) he ?_
      refine lv_imul hx hb dL_tells_66 ?_
      refine tp_eqi (y := nI (30 * e0)) (pk_mul 30 e0) ?_
      refine lv_bipush (v := 45) hx hb dL_tells_67 (by decide) ?_
      refine lv_iadd hx hb dL_tells_69 ?_
      refine tp_eqi (y := nI ((30 * e0) + 45)) (nI_add (30 * e0) 45) ?_
      refine tp_callS ⟨hx, hb, hml, hown, hts⟩ (lf_low l D cy n ad o I (tl_shr z 5) ((30 * e0) + 45) (by omega) (by omega)) (va_cwS 2 hts gL_tells_L_low rfl rfl rfl (by decide +kernel) ⟨Nat.le_of_ble_eq_true rfl, Nat.le_of_ble_eq_true rfl⟩) hK hP hD hS hA rfl hl.1 rfl (Nat.le_of_ble_eq_true rfl) dL_tells_70 ⟨Nat.zero_le _, Nat.zero_le _⟩ (fun I9 e9 H locs hP hD hS => ?_)
      subst e9
      exact hj73 _ (tl_d1b c42_2) _ _ hP hD hS
    · refine lv_iload_n hx hb dL_tells_45 rfl (lv_at hl 3 rfl) ?_
      refine lv_iconst (v := 5) hx hb dL_tells_46 (by decide) ?_
      refine lv_ishr hx hb dL_tells_47 ?_
      refine tp_eqi (y := tl_shr z 5) rfl ?_
      refine lv_sipush (v := 1440) hx hb dL_tells_48 (by decide) ?_
      refine tp_callS ⟨hx, hb, hml, hown, hts⟩ (lf_low l D cy n ad o I (tl_shr z 5) 1440 (by decide) (by decide)) (va_cwS 2 hts gL_tells_L_low rfl rfl rfl (by decide +kernel) ⟨Nat.le_of_ble_eq_true rfl, Nat.le_of_ble_eq_true rfl⟩) hK hP hD hS hA rfl hl.1 rfl (Nat.le_of_ble_eq_true rfl) dL_tells_51 ⟨Nat.zero_le _, Nat.zero_le _⟩ (fun I9 e9 H locs hP hD hS => ?_)
      subst e9
      refine lv_goto (tgt := 73) hx hb dL_tells_54 (by decide) ?_
      exact hj73 _ (tl_d1a c42_2) _ _ hP hD hS
  refine lv_istore (lv' := [(7, .int (nI (tl_d1 z e0))), (6, .int (nI (tl_tf z))), (5, .int (nI (tl_low z n))), (0, .ref (ad (0))), (1, .int z), (2, .ref (ad (3))), (3, .ref (ad (4))), (4, .ref (ad (2)))]) hx hb dL_tells_73 hl (by decide) rfl (fun ls hl => ?_)
  refine tp_meetH (D := D) (cy := cy) (n := n) (ad := ad) (I := I) (o := o) (A := A) (H0 := s.heap) (nI (tl_td z e0) : Int32) (fun y => F0 m 91 ls (.int y :: [])) (fun hj91 => ?_) (fun H locs hP hD hS => ?_)
  · refine lv_iload hx hb dL_tells_75 (lv_at hl 0 rfl) ?_
    refine lv_sipush (v := 1439) hx hb dL_tells_77 (by decide) ?_
    refine lv_icmp_le (tgt := 89) hx hb dL_tells_80 (by decide) (fun c80_3 => ?_) (fun c80_3 => ?_)
    · refine lv_iload hx hb dL_tells_89 (lv_at hl 0 rfl) ?_
      exact hj91 _ (tl_tda he8 c80_3) _ _ hP hD hS
    · refine lv_sipush (v := 1439) hx hb dL_tells_83 (by decide) ?_
      refine lv_goto (tgt := 91) hx hb dL_tells_86 (by decide) ?_
      exact hj91 _ (tl_tdb c80_3) _ _ hP hD hS
  refine lv_istore (lv' := [(7, .int (nI (tl_td z e0))), (6, .int (nI (tl_tf z))), (5, .int (nI (tl_low z n))), (0, .ref (ad (0))), (1, .int z), (2, .ref (ad (3))), (3, .ref (ad (4))), (4, .ref (ad (2)))]) hx hb dL_tells_91 hl (by decide) rfl (fun ls hl => ?_)
  refine tp_meetH (D := D) (cy := cy) (n := n) (ad := ad) (I := I) (o := o) (A := A) (H0 := s.heap) (nI (tl_tv z) : Int32) (fun y => F0 m 221 ls [.int y]) (fun hj221 => ?_) (fun H locs hP hD hS => ?_)
  · refine lv_iload hx hb dL_tells_93 (lv_at hl 1 rfl) ?_
    refine lv_if_ne (tgt := 111) hx hb dL_tells_95 (by decide) (fun c95_4 => ?_) (fun c95_4 => ?_)
    · refine lv_iload hx hb dL_tells_111 (lv_at hl 1 rfl) ?_
      refine lv_iconst (v := 1) hx hb dL_tells_113 (by decide) ?_
      refine lv_icmp_ne (tgt := 129) hx hb dL_tells_114 (by decide) (fun c114_5 => ?_) (fun c114_5 => ?_)
      · refine lv_iload hx hb dL_tells_129 (lv_at hl 1 rfl) ?_
        refine lv_iconst (v := 2) hx hb dL_tells_131 (by decide) ?_
        refine lv_icmp_ne (tgt := 163) hx hb dL_tells_132 (by decide) (fun c132_6 => ?_) (fun c132_6 => ?_)
        · refine lv_iload hx hb dL_tells_163 (lv_at hl 1 rfl) ?_
          refine lv_iconst (v := 3) hx hb dL_tells_165 (by decide) ?_
          refine lv_icmp_ne (tgt := 197) hx hb dL_tells_166 (by decide) (fun c166_7 => ?_) (fun c166_7 => ?_)
          · refine lv_iload_n hx hb dL_tells_197 rfl (lv_at hl 4 rfl) ?_
            refine lv_iconst (v := 4) hx hb dL_tells_198 (by decide) ?_
            refine lv_ishr hx hb dL_tells_199 ?_
            refine tp_eqi (y := tl_shr z 4) rfl ?_
            refine tp_meetH (D := D) (cy := cy) (n := n) (ad := ad) (I := I) (o := o) (A := A) (H0 := s.heap) (nI (tl_w z 5 10000001 1700000) : Int32) (fun y => F0 m 218 ls (.int y :: [.int (tl_shr z 4)])) (fun hj218 => ?_) (fun H locs hP hD hS => ?_)
            · refine lv_iload_n hx hb dL_tells_200 rfl (lv_at hl 4 rfl) ?_
              refine lv_bipush (v := 15) hx hb dL_tells_201 (by decide) ?_
              refine lv_ishr hx hb dL_tells_203 ?_
              refine tp_eqi (y := tl_shr z 15) rfl ?_
              refine lv_iconst (v := 5) hx hb dL_tells_204 (by decide) ?_
              refine tp_callS ⟨hx, hb, hml, hown, hts⟩ (lf_low l D cy n ad o I (tl_shr z 15) 5 (by decide) (by decide)) (va_cwS 2 hts gL_tells_L_low rfl rfl rfl (by decide +kernel) ⟨Nat.le_of_ble_eq_true rfl, Nat.le_of_ble_eq_true rfl⟩) hK hP hD hS hA rfl hl.1 rfl (Nat.le_of_ble_eq_true rfl) dL_tells_205 ⟨Nat.zero_le _, Nat.zero_le _⟩ (fun I9 e9 H locs hP hD hS => ?_)
              subst e9
              refine lv_if_ne (tgt := 216) hx hb dL_tells_208 (by decide) (fun c208_8 => ?_) (fun c208_8 => ?_)
              · refine lv_ldc (v := 1700000) hx hb hown (hts _ (List.mem_of_getElem? (i := 5) rfl)) dL_tells_216 ?_
                exact hj218 _ (tl_wb c208_8) _ _ hP hD hS
              · refine lv_ldc (v := 10000001) hx hb hown (hts _ (List.mem_of_getElem? (i := 4) rfl)) dL_tells_211 ?_
                refine lv_goto (tgt := 218) hx hb dL_tells_213 (by decide) ?_
                exact hj218 _ (tl_wa (by decide) (by decide) c208_8) _ _ hP hD hS
            refine tp_callS ⟨hx, hb, hml, hown, hts⟩ (lf_low l D cy n ad o I (tl_shr z 4) (tl_w z 5 10000001 1700000) (tl_w_pos (by decide) (by decide)) (tl_w_lt (by decide) (by decide))) (va_cwS 2 hts gL_tells_L_low rfl rfl rfl (by decide +kernel) ⟨Nat.le_of_ble_eq_true rfl, Nat.le_of_ble_eq_true rfl⟩) hK hP hD hS hA rfl hl.1 rfl (Nat.le_of_ble_eq_true rfl) dL_tells_218 ⟨Nat.zero_le _, Nat.zero_le _⟩ (fun I9 e9 H locs hP hD hS => ?_)
            subst e9
            exact hj221 _ (tl_v4a c95_4 c114_5 c132_6 c166_7) _ _ hP hD hS
          · refine lv_iload_n hx hb dL_tells_169 rfl (lv_at hl 4 rfl) ?_
            refine lv_bipush (v := 6) hx hb dL_tells_170 (by decide) ?_
            refine lv_ishr hx hb dL_tells_172 ?_
            refine tp_eqi (y := tl_shr z 6) rfl ?_
            refine tp_meetH (D := D) (cy := cy) (n := n) (ad := ad) (I := I) (o := o) (A := A) (H0 := s.heap) (nI (tl_w z 5 1000001 90000) : Int32) (fun y => F0 m 191 ls (.int y :: [.int (tl_shr z 6)])) (fun hj191 => ?_) (fun H locs hP hD hS => ?_)
            · refine lv_iload_n hx hb dL_tells_173 rfl (lv_at hl 4 rfl) ?_
              refine lv_bipush (v := 15) hx hb dL_tells_174 (by decide) ?_
              refine lv_ishr hx hb dL_tells_176 ?_
              refine tp_eqi (y := tl_shr z 15) rfl ?_
              refine lv_iconst (v := 5) hx hb dL_tells_177 (by decide) ?_
              refine tp_callS ⟨hx, hb, hml, hown, hts⟩ (lf_low l D cy n ad o I (tl_shr z 15) 5 (by decide) (by decide)) (va_cwS 2 hts gL_tells_L_low rfl rfl rfl (by decide +kernel) ⟨Nat.le_of_ble_eq_true rfl, Nat.le_of_ble_eq_true rfl⟩) hK hP hD hS hA rfl hl.1 rfl (Nat.le_of_ble_eq_true rfl) dL_tells_178 ⟨Nat.zero_le _, Nat.zero_le _⟩ (fun I9 e9 H locs hP hD hS => ?_)
              subst e9
              refine lv_if_ne (tgt := 189) hx hb dL_tells_181 (by decide) (fun c181_8 => ?_) (fun c181_8 => ?_)
              · refine lv_ldc (v := 90000) hx hb hown (hts _ (List.mem_of_getElem? (i := 3) rfl)) dL_tells_189 ?_
                exact hj191 _ (tl_wb c181_8) _ _ hP hD hS
              · refine lv_ldc (v := 1000001) hx hb hown (hts _ (List.mem_of_getElem? (i := 1) rfl)) dL_tells_184 ?_
                refine lv_goto (tgt := 191) hx hb dL_tells_186 (by decide) ?_
                exact hj191 _ (tl_wa (by decide) (by decide) c181_8) _ _ hP hD hS
            refine tp_callS ⟨hx, hb, hml, hown, hts⟩ (lf_low l D cy n ad o I (tl_shr z 6) (tl_w z 5 1000001 90000) (tl_w_pos (by decide) (by decide)) (tl_w_lt (by decide) (by decide))) (va_cwS 2 hts gL_tells_L_low rfl rfl rfl (by decide +kernel) ⟨Nat.le_of_ble_eq_true rfl, Nat.le_of_ble_eq_true rfl⟩) hK hP hD hS hA rfl hl.1 rfl (Nat.le_of_ble_eq_true rfl) dL_tells_191 ⟨Nat.zero_le _, Nat.zero_le _⟩ (fun I9 e9 H locs hP hD hS => ?_)
            subst e9
            refine lv_goto (tgt := 221) hx hb dL_tells_194 (by decide) ?_
            exact hj221 _ (tl_v3a c95_4 c114_5 c132_6 c166_7) _ _ hP hD hS
        · refine lv_iload_n hx hb dL_tells_135 rfl (lv_at hl 4 rfl) ?_
          refine lv_bipush (v := 6) hx hb dL_tells_136 (by decide) ?_
          refine lv_ishr hx hb dL_tells_138 ?_
          refine tp_eqi (y := tl_shr z 6) rfl ?_
          refine tp_meetH (D := D) (cy := cy) (n := n) (ad := ad) (I := I) (o := o) (A := A) (H0 := s.heap) (nI (tl_w z 3 1000001 70000) : Int32) (fun y => F0 m 157 ls (.int y :: [.int (tl_shr z 6)])) (fun hj157 => ?_) (fun H locs hP hD hS => ?_)
          · refine lv_iload_n hx hb dL_tells_139 rfl (lv_at hl 4 rfl) ?_
            refine lv_bipush (v := 15) hx hb dL_tells_140 (by decide) ?_
            refine lv_ishr hx hb dL_tells_142 ?_
            refine tp_eqi (y := tl_shr z 15) rfl ?_
            refine lv_iconst (v := 3) hx hb dL_tells_143 (by decide) ?_
            refine tp_callS ⟨hx, hb, hml, hown, hts⟩ (lf_low l D cy n ad o I (tl_shr z 15) 3 (by decide) (by decide)) (va_cwS 2 hts gL_tells_L_low rfl rfl rfl (by decide +kernel) ⟨Nat.le_of_ble_eq_true rfl, Nat.le_of_ble_eq_true rfl⟩) hK hP hD hS hA rfl hl.1 rfl (Nat.le_of_ble_eq_true rfl) dL_tells_144 ⟨Nat.zero_le _, Nat.zero_le _⟩ (fun I9 e9 H locs hP hD hS => ?_)
            subst e9
            refine lv_if_ne (tgt := 155) hx hb dL_tells_147 (by decide) (fun c147_7 => ?_) (fun c147_7 => ?_)
            · refine lv_ldc (v := 70000) hx hb hown (hts _ (List.mem_of_getElem? (i := 2) rfl)) dL_tells_155 ?_
              exact hj157 _ (tl_wb c147_7) _ _ hP hD hS
            · refine lv_ldc (v := 1000001) hx hb hown (hts _ (List.mem_of_getElem? (i := 1) rfl)) dL_tells_150 ?_
              refine lv_goto (tgt := 157) hx hb dL_tells_152 (by decide) ?_
              exact hj157 _ (tl_wa (by decide) (by decide) c147_7) _ _ hP hD hS
          refine tp_callS ⟨hx, hb, hml, hown, hts⟩ (lf_low l D cy n ad o I (tl_shr z 6) (tl_w z 3 1000001 70000) (tl_w_pos (by decide) (by decide)) (tl_w_lt (by decide) (by decide))) (va_cwS 2 hts gL_tells_L_low rfl rfl rfl (by decide +kernel) ⟨Nat.le_of_ble_eq_true rfl, Nat.le_of_ble_eq_true rfl⟩) hK hP hD hS hA rfl hl.1 rfl (Nat.le_of_ble_eq_true rfl) dL_tells_157 ⟨Nat.zero_le _, Nat.zero_le _⟩ (fun I9 e9 H locs hP hD hS => ?_)
          subst e9
          refine lv_goto (tgt := 221) hx hb dL_tells_160 (by decide) ?_
          exact hj221 _ (tl_v2a c95_4 c114_5 c132_6) _ _ hP hD hS
      · refine lv_iload_n hx hb dL_tells_117 rfl (lv_at hl 4 rfl) ?_
        refine lv_bipush (v := 8) hx hb dL_tells_118 (by decide) ?_
        refine lv_ishr hx hb dL_tells_120 ?_
        refine tp_eqi (y := tl_shr z 8) rfl ?_
        refine lv_bipush (v := 10) hx hb dL_tells_121 (by decide) ?_
        refine tp_callS ⟨hx, hb, hml, hown, hts⟩ (lf_low l D cy n ad o I (tl_shr z 8) 10 (by decide) (by decide)) (va_cwS 2 hts gL_tells_L_low rfl rfl rfl (by decide +kernel) ⟨Nat.le_of_ble_eq_true rfl, Nat.le_of_ble_eq_true rfl⟩) hK hP hD hS hA rfl hl.1 rfl (Nat.le_of_ble_eq_true rfl) dL_tells_123 ⟨Nat.zero_le _, Nat.zero_le _⟩ (fun I9 e9 H locs hP hD hS => ?_)
        subst e9
        refine lv_goto (tgt := 221) hx hb dL_tells_126 (by decide) ?_
        exact hj221 _ (tl_v1a c95_4 c114_5) _ _ hP hD hS
    · refine lv_iconst (v := 1) hx hb dL_tells_98 (by decide) ?_
      refine lv_iload_n hx hb dL_tells_99 rfl (lv_at hl 4 rfl) ?_
      refine lv_bipush (v := 8) hx hb dL_tells_100 (by decide) ?_
      refine lv_ishr hx hb dL_tells_102 ?_
      refine tp_eqi (y := tl_shr z 8) rfl ?_
      refine lv_iconst (v := 2) hx hb dL_tells_103 (by decide) ?_
      refine tp_callS ⟨hx, hb, hml, hown, hts⟩ (lf_low l D cy n ad o I (tl_shr z 8) 2 (by decide) (by decide)) (va_cwS 2 hts gL_tells_L_low rfl rfl rfl (by decide +kernel) ⟨Nat.le_of_ble_eq_true rfl, Nat.le_of_ble_eq_true rfl⟩) hK hP hD hS hA rfl hl.1 rfl (Nat.le_of_ble_eq_true rfl) dL_tells_104 ⟨Nat.zero_le _, Nat.zero_le _⟩ (fun I9 e9 H locs hP hD hS => ?_)
      subst e9
      refine lv_iadd hx hb dL_tells_107 ?_
      refine tp_eqi (y := nI (1 + (tl_low (tl_shr z 8) 2))) (nI_add 1 (tl_low (tl_shr z 8) 2)) ?_
      refine lv_goto (tgt := 221) hx hb dL_tells_108 (by decide) ?_
      exact hj221 _ (tl_v0a c95_4) _ _ hP hD hS
  have hdlt := tl_td_lt (z := z) (e := e0)
  refine lv_istore (lv' := [(8, .int (nI (tl_tv z))), (7, .int (nI (tl_td z e0))), (6, .int (nI (tl_tf z))), (5, .int (nI (tl_low z n))), (0, .ref (ad (0))), (1, .int z), (2, .ref (ad (3))), (3, .ref (ad (4))), (4, .ref (ad (2)))]) hx hb dL_tells_221 hl (by decide) rfl (fun ls hl => ?_)
  refine lv_iload hx hb dL_tells_223 (lv_at hl 1 rfl) ?_
  refine lv_bipush (v := 30) hx hb dL_tells_225 (by decide) ?_
  refine lv_idiv hx hb dL_tells_227 (by decide) ?_
  refine tp_eqi (y := nI ((tl_td z e0) / 30)) (pk_div (d := 30) (by omega) (by decide) (by decide)) ?_
  refine tp_meetH (D := D) (cy := cy) (n := n) (ad := ad) (I := I) (o := o) (A := A) (H0 := s.heap) (nI (tl_r1 (tl_td z e0)) : Int32) (fun y => F0 m 243 ls (.int y :: [.int (nI ((tl_td z e0) / 30))])) (fun hj243 => ?_) (fun H locs hP hD hS => ?_)
  · refine lv_iload hx hb dL_tells_228 (lv_at hl 1 rfl) ?_
    refine lv_bipush (v := 30) hx hb dL_tells_230 (by decide) ?_
    refine lv_irem hx hb dL_tells_232 (by decide) ?_
    refine tp_eqi (y := nI ((tl_td z e0) % 30)) (pk_rem (d := 30) (by omega) (by decide) (by decide)) ?_
    refine lv_bipush (v := 14) hx hb dL_tells_233 (by decide) ?_
    refine lv_icmp_le (tgt := 242) hx hb dL_tells_235 (by decide) (fun c235_9 => ?_) (fun c235_9 => ?_)
    · refine lv_iconst (v := 0) hx hb dL_tells_242 (by decide) ?_
      exact hj243 _ (tl_r1a c235_9) _ _ hP hD hS
    · refine lv_iconst (v := 1) hx hb dL_tells_238 (by decide) ?_
      refine lv_goto (tgt := 243) hx hb dL_tells_239 (by decide) ?_
      exact hj243 _ (tl_r1b c235_9) _ _ hP hD hS
  refine lv_iadd hx hb dL_tells_243 ?_
  refine tp_eqi (y := nI (((tl_td z e0) / 30) + (tl_r1 (tl_td z e0)))) (nI_add ((tl_td z e0) / 30) (tl_r1 (tl_td z e0))) ?_
  refine tp_eqi (y := (nI (tp_r0 (tl_td z e0)))) (congrArg nI (tl_r2 _)) ?_
  refine lv_istore (lv' := [(9, .int (nI (tp_r0 (tl_td z e0)))), (8, .int (nI (tl_tv z))), (7, .int (nI (tl_td z e0))), (6, .int (nI (tl_tf z))), (5, .int (nI (tl_low z n))), (0, .ref (ad (0))), (1, .int z), (2, .ref (ad (3))), (3, .ref (ad (4))), (4, .ref (ad (2)))]) hx hb dL_tells_244 hl (by decide) rfl (fun ls hl => ?_)
  refine lv_aload_n hx hb dL_tells_246 rfl (lv_at hl 7 rfl) ?_
  refine lv_aload hx hb dL_tells_247 (lv_at hl 9 rfl) ?_
  refine lv_iconst (v := 2) hx hb dL_tells_249 (by decide) ?_
  refine tp_iald hx hb hK hP (2) 12 (2) (by omega) rfl (by decide) (by decide) (by decide) dL_tells_250 ?_
  refine tp_eqi (y := nI c0) hc0 ?_
  refine lv_bipush (v := 16) hx hb dL_tells_251 (by decide) ?_
  refine lv_iload hx hb dL_tells_253 (lv_at hl 0 rfl) ?_
  refine lv_imul hx hb dL_tells_255 ?_
  refine tp_eqi (y := nI (16 * (tp_r0 (tl_td z e0)))) (pk_mul 16 (tp_r0 (tl_td z e0))) ?_
  refine lv_bipush (v := 8) hx hb dL_tells_256 (by decide) ?_
  refine lv_iload hx hb dL_tells_258 (lv_at hl 4 rfl) ?_
  refine lv_imul hx hb dL_tells_260 ?_
  refine tp_eqi (y := nI (8 * (tl_low z n))) (pk_mul 8 (tl_low z n)) ?_
  refine lv_iadd hx hb dL_tells_261 ?_
  refine tp_eqi (y := nI ((16 * (tp_r0 (tl_td z e0))) + (8 * (tl_low z n)))) (nI_add (16 * (tp_r0 (tl_td z e0))) (8 * (tl_low z n))) ?_
  refine lv_iload hx hb dL_tells_262 (lv_at hl 3 rfl) ?_
  refine lv_iadd hx hb dL_tells_264 ?_
  refine tp_eqi (y := nI (((16 * (tp_r0 (tl_td z e0))) + (8 * (tl_low z n))) + (tl_tf z))) (nI_add ((16 * (tp_r0 (tl_td z e0))) + (8 * (tl_low z n))) (tl_tf z)) ?_
  refine tp_iast hx hb hK hP hD hS (3) 64 (c0) (by omega) (fun _ => rfl) rfl (by omega) (by decide) dL_tells_265 (fun H locs hP hD hS => ?_)
  refine lv_aload_n hx hb dL_tells_266 rfl (lv_at hl 8 rfl) ?_
  refine lv_aload hx hb dL_tells_267 (lv_at hl 9 rfl) ?_
  refine lv_iconst (v := 2) hx hb dL_tells_269 (by decide) ?_
  refine tp_iald hx hb hK hP (2) 12 (2) (by omega) rfl (by decide) (by decide) (by decide) dL_tells_270 ?_
  refine tp_eqi (y := (I 2 2)) rfl ?_
  refine tp_eqi (y := nI c0) hc0 ?_
  refine lv_iload hx hb dL_tells_271 (lv_at hl 1 rfl) ?_
  refine tp_iast hx hb hK hP hD hS (4) 64 (c0) (by omega) (fun _ => rfl) rfl (by omega) (by decide) dL_tells_273 (fun H locs hP hD hS => ?_)
  refine lv_aload hx hb dL_tells_274 (lv_at hl 9 rfl) ?_
  refine lv_iconst (v := 2) hx hb dL_tells_276 (by decide) ?_
  refine lv_dup2_11 hx hb dL_tells_277 rfl rfl ?_
  refine tp_iald hx hb hK hP (2) 12 (2) (by omega) rfl (by decide) (by decide) (by decide) dL_tells_278 ?_
  refine tp_eqi (y := (I 2 2)) rfl ?_
  refine tp_eqi (y := nI c0) hc0 ?_
  refine lv_iconst (v := 1) hx hb dL_tells_279 (by decide) ?_
  refine lv_iadd hx hb dL_tells_280 ?_
  refine tp_eqi (y := nI (c0 + 1)) (nI_add c0 1) ?_
  refine tp_iast hx hb hK hP hD hS (2) 12 (2) (by omega) (fun _ => rfl) (by decide) (by decide) (by decide) dL_tells_281 (fun H locs hP hD hS => ?_)
  have hP : va_P D vwCl (tp_w cy n ad (tl_ent I c0 (16 * tp_r0 (tl_td z e0) + 8 * tl_low z n + tl_tf z) (nI (tl_tv z))) o) H := hP
  have hD : va_D A (tp_w cy n ad (tl_ent I c0 (16 * tp_r0 (tl_td z e0) + 8 * tl_low z n + tl_tf z) (nI (tl_tv z))) o) := hD
  refine lv_aload_n hx hb dL_tells_282 rfl (lv_at hl 5 rfl) ?_
  refine lv_iconst (v := 1) hx hb dL_tells_283 (by decide) ?_
  refine lv_iload hx hb dL_tells_284 (lv_at hl 4 rfl) ?_
  refine lv_iload hx hb dL_tells_286 (lv_at hl 3 rfl) ?_
  refine lv_iload hx hb dL_tells_288 (lv_at hl 2 rfl) ?_
  refine lv_iload hx hb dL_tells_290 (lv_at hl 1 rfl) ?_
  have hJb : ∀ k, 9 ≤ k → (tl_ent I c0 (16 * tp_r0 (tl_td z e0) + 8 * tl_low z n + tl_tf z) (nI (tl_tv z))) k = I k := fun k hk => tl_ent_oth (by omega) (by omega) (by omega)
  obtain ⟨hv1, hv2⟩ := tl_tv_ok z
  refine tp_callL ⟨hx, hb, hml, hown, hts⟩ (lk_tell_ok l D cy n ad o (tl_ent I c0 (16 * tp_r0 (tl_td z e0) + 8 * tl_low z n + tl_tf z) (nI (tl_tv z))) sa tL tM hlt (tl_low z n) (tl_low_lt hn0) hn6 (tl_tf z) (tl_td z e0) (tl_tf_lt z) hdlt (nI (tl_tv z)) hv1 hv2 (by rw [hJb _ (by omega)]; exact h100) z0 hz1 hz2 (by rw [hJb _ (by omega)]; exact hz3) (by rw [hJb _ (by omega)]; exact hz4)) (vx_cwSW 6 hts gL_tells_L_calls rfl rfl rfl (by decide +kernel) ⟨(Nat.le_of_ble_eq_true rfl), (Nat.le_of_ble_eq_true rfl)⟩) hE hK hP hD hS hA rfl hl.1 rfl (Nat.le_of_ble_eq_true rfl) dL_tells_292 ⟨Nat.zero_le _, Nat.zero_le _⟩ (fun H locs hP hD hS => ?_)
  have e00 : (0 : Nat) + 0 = 0 := rfl
  refine lv_iload hx hb dL_tells_295 (lv_at hl 0 rfl) ?_
  refine lv_icmp_ne (tgt := 304) hx hb dL_tells_297 (by decide) (fun c => absurd rfl c) (fun _ => ?_)
  refine lv_iconst (v := 1) hx hb dL_tells_300 (by decide) ?_
  refine lv_goto (tgt := 305) hx hb dL_tells_301 (by decide) ?_
  exact tp_reti hx hb hr hlocks hK hP hD hS rfl rfl rfl dL_tells_305
end
section
/-! CLASS AND LAW STAY TOGETHER -/
/-- a household that isn't there yet, in the law's arrays -/
def tq_fh (I : Nat → Nat → Int32) (h : Nat) : Prop := I 2 (6 + h) = 0 ∧ I 2 (8 + h) = 0 ∧ I 2 (10 + h) = 0 ∧ ∀ m, m < 48 → I (5 + h) m = 0 ∧ I (7 + h) m = 0
/-- household h of both: a its first month, k how many changes were told of it -/
def tq_H (I : Nat → Nat → Int32) (e c h a k : Nat) : Prop := tq_F I h c ∧ tq_B I h e a ∧ I (9 + 15 * h) 3 = nI a ∧ k ≤ c ∧ I (9 + 15 * h) 2 = nI k
def tq_rel (n : Nat) (I : Nat → Nat → Int32) : Prop :=
  n ≤ 2 ∧ I 0 1 = nI n ∧ I 2 1 = nI n ∧ ∃ (e c : Nat) (aF kF : Nat → Nat), (e ≤ 48 ∧ c ≤ 64 ∧ (n = 0 → e = 0) ∧ I 0 2 = nI e ∧ I 2 0 = nI e ∧ I 2 2 = nI c) ∧ (∀ j, j < c → ∃ g f r, g < n ∧ tq_row I j g f r) ∧ (∀ h, n ≤ h → h < 2 → tq_fh I h) ∧ ∀ h, h < n → tq_H I e c h (aF h) (kF h)
section TK
variable {I J : Nat → Nat → Int32} {e c h a k n : Nat}
theorem tq_fh_cong (R : tq_fh I h) (h6 : J 2 (6 + h) = I 2 (6 + h)) (h8 : J 2 (8 + h) = I 2 (8 + h)) (h10 : J 2 (10 + h) = I 2 (10 + h)) (h5 : J (5 + h) = I (5 + h)) (h7 : J (7 + h) = I (7 + h)) : tq_fh J h := by
  unfold tq_fh at R ⊢
  rw [h6, h8, h10, h5, h7]
  exact R
theorem tq_B_cong (B : tq_B I h e a) (h0 : J 2 0 = I 2 0) (h4 : J 2 (4 + h) = I 2 (4 + h)) (h6 : J 2 (6 + h) = I 2 (6 + h)) (h8 : J 2 (8 + h) = I 2 (8 + h)) (h10 : J 2 (10 + h) = I 2 (10 + h)) (h5 : J (5 + h) = I (5 + h)) (h7 : J (7 + h) = I (7 + h)) (b13 : J (9 + 15 * h + 13) = I (9 + 15 * h + 13)) (b14 : J (9 + 15 * h + 14) = I (9 + 15 * h + 14)) (b6 : J (9 + 15 * h) 6 = I (9 + 15 * h) 6) (b7 : J (9 + 15 * h) 7 = I (9 + 15 * h) 7) (b8 : J (9 + 15 * h) 8 = I (9 + 15 * h) 8) : tq_B J h e a := by
  unfold tq_B at B ⊢
  rw [h0, h4, h6, h8, h10, h5, h7, b13, b14, b6, b7, b8]
  exact B
theorem tq_row_cong {j g f r : Nat} (R : tq_row I j g f r) (h3 : J 3 j = I 3 j) (h4 : J 4 j = I 4 j) : tq_row J j g f r := by
  unfold tq_row at R ⊢
  rw [h3, h4]
  exact R
/-- a world that is another in other places alone -/
theorem tq_H_cong (R : tq_H I e c h a k) (h2 : ∀ j, (j = 0 ∨ j = 2 ∨ j = 4 + h ∨ j = 6 + h ∨ j = 8 + h ∨ j = 10 + h) → J 2 j = I 2 j) (h3 : J 3 = I 3) (h4 : J 4 = I 4) (h5 : J (5 + h) = I (5 + h)) (h7 : J (7 + h) = I (7 + h)) (hb : ∀ j, j < 15 → J (9 + 15 * h + j) = I (9 + 15 * h + j)) : tq_H J e c h a k := by
  obtain ⟨F, B, r3, rk, r2⟩ := R
  have hb0 : J (9 + 15 * h) = I (9 + 15 * h) := hb 0 (by decide)
  exact ⟨tq_F_cong F (h2 2 (by omega)) h3 h4 (fun j _ hj => hb j (by omega)), tq_B_cong B (h2 0 (by omega)) (h2 _ (by omega)) (h2 _ (by omega)) (h2 _ (by omega)) (h2 _ (by omega)) h5 h7 (hb 13 (by decide)) (hb 14 (by decide)) (by rw [hb0]) (by rw [hb0]) (by rw [hb0]), by rw [hb0]; exact r3, rk, by rw [hb0]; exact r2⟩
/-- what is reckoned rests on a household's own cells -/
theorem tq_all_cong {b : Nat} (hf : ∀ f, f < 5 → J (b + 2 + f) = I (b + 2 + f)) (h13 : J (b + 13) = I (b + 13)) (h6 : J b 6 = I b 6) (h8 : J b 8 = I b 8) : (∀ x y, tp_open J b x y = tp_open I b x y) ∧ (∀ x, tp_owed J b x = tp_owed I b x) ∧ (∀ m x, tp_rec J b m x = tp_rec I b m x) ∧ ∀ x y, tp_paym J b x y = tp_paym I b x y := by
  have hd : ∀ m, tp_due J b m = tp_due I b m := fun m => tp_due_cong hf
  have q1 : ∀ x y, tp_open J b x y = tp_open I b x y := fun x y => by
    unfold tp_open
    exact tp_sum_cong x _ (fun m _ _ => by rw [hd, h13])
  have q2 : ∀ x, tp_owed J b x = tp_owed I b x := fun x => by
    unfold tp_owed
    rw [h6]
  have q3 : ∀ m x, tp_rec J b m x = tp_rec I b m x := fun m x => by
    unfold tp_rec
    rw [h8, hd, hf 3 (by decide)]
  refine ⟨q1, q2, q3, fun x y => ?_⟩
  unfold tp_paym tp_arr
  rw [q1, q2, q3, hd, h6]
/-! A DISPUTE, MONEY PAID BACK -/
theorem tq_dispute (R : tq_rel n I) (hh : h < n) {v : Int32} (hv : v = 0 ∨ v = 1) : tq_rel n (tp_u (tp_u I (9 + 15 * h) 8 v) 2 (10 + h) v) := by
  obtain ⟨hn2, h01, h21, e, c, aF, kF, ⟨he, hc, hn0, h02, h20, h22⟩, RR, RF, RH⟩ := R
  have j2 : ∀ j, j ≠ 10 + h → tp_u (tp_u I (9 + 15 * h) 8 v) 2 (10 + h) v 2 j = I 2 j := fun j q => by rw [tp_u_n q, tp_u_oth (by omega)]
  have jb : ∀ j, j ≠ 8 → tp_u (tp_u I (9 + 15 * h) 8 v) 2 (10 + h) v (9 + 15 * h) j = I (9 + 15 * h) j := fun j q => by rw [tp_u_oth (by omega), tp_u_n q]
  have jo : ∀ k, k ≠ 2 → k ≠ 9 + 15 * h → tp_u (tp_u I (9 + 15 * h) 8 v) 2 (10 + h) v k = I k := fun k q1 q2 => by rw [tp_u_oth q1, tp_u_oth q2]
  have j10 : tp_u (tp_u I (9 + 15 * h) 8 v) 2 (10 + h) v 2 (10 + h) = v := tp_u_s
  have jb8 : tp_u (tp_u I (9 + 15 * h) 8 v) 2 (10 + h) v (9 + 15 * h) 8 = v := by rw [tp_u_oth (by omega), tp_u_s]
  generalize tp_u (tp_u I (9 + 15 * h) 8 v) 2 (10 + h) v = J at j2 jb jo j10 jb8 ⊢
  refine ⟨hn2, by rw [jo 0 (by omega) (by omega)]; exact h01, by rw [j2 1 (by omega)]; exact h21, e, c, aF, kF, ⟨he, hc, hn0, by rw [jo 0 (by omega) (by omega)]; exact h02, by rw [j2 0 (by omega)]; exact h20, by rw [j2 2 (by omega)]; exact h22⟩, fun j hj => ?_, fun i q1 q2 => ?_, fun i hi => ?_⟩
  · obtain ⟨g, f, r, q1, q2⟩ := RR j hj
    exact ⟨g, f, r, q1, tq_row_cong q2 (by rw [jo 3 (by omega) (by omega)]) (by rw [jo 4 (by omega) (by omega)])⟩
  · exact tq_fh_cong (RF i q1 q2) (j2 _ (by omega)) (j2 _ (by omega)) (j2 _ (by omega)) (jo _ (by omega) (by omega)) (jo _ (by omega) (by omega))
  · by_cases ei : i = h
    · subst ei
      obtain ⟨F, ⟨B1, B2, B6, B7, B8, B9, B10, B11⟩, r3, rk, r2⟩ := RH i hi
      refine ⟨tq_F_cong F (j2 2 (by omega)) (jo 3 (by omega) (by omega)) (jo 4 (by omega) (by omega)) (fun j q1 q2 => jo _ (by omega) (by omega)), ⟨⟨B1.1, B1.2.1, B1.2.2.1, by rw [j2 0 (by omega)]; exact B1.2.2.2.1, by rw [j2 _ (by omega)]; exact B1.2.2.2.2⟩, fun m hm => ?_, ?_, ?_, ?_, ?_, ?_, ?_⟩, by rw [jb 3 (by decide)]; exact r3, rk, by rw [jb 2 (by decide)]; exact r2⟩
      · rw [jo (9 + 15 * i + 13) (by omega) (by omega), jo (9 + 15 * i + 14) (by omega) (by omega), jo (5 + i) (by omega) (by omega), jo (7 + i) (by omega) (by omega)]
        exact B2 m hm
      · rw [jb 6 (by decide), j2 _ (by omega)]
        exact B6
      · rw [jb 7 (by decide), j2 _ (by omega)]
        exact B7
      · rw [jb8, j10]
      · rw [j10]
        exact hv
      · rw [j2 _ (by omega)]
        exact B10
      · rw [j2 _ (by omega)]
        exact B11
    · exact tq_H_cong (RH i hi) (fun j q => j2 j (by omega)) (jo 3 (by omega) (by omega)) (jo 4 (by omega) (by omega)) (jo _ (by omega) (by omega)) (jo _ (by omega) (by omega)) (fun j q => jo _ (by omega) (by omega))
/-- the debt's numbers anew: x less in it, y more recovered -/
theorem tq_debt (R : tq_rel n I) (hh : h < n) {x y p q : Int32} (hp : p = x) (hq : q = y) (h0 : 0 ≤ x.toInt) (h1 : x.toInt ≤ (I 2 (6 + h)).toInt) : tq_rel n (tp_u (tp_u (tp_u (tp_u I 2 (6 + h) x) 2 (8 + h) y) (9 + 15 * h) 6 p) (9 + 15 * h) 7 q) := by
  subst hp
  subst hq
  obtain ⟨hn2, h01, h21, e, c, aF, kF, ⟨he, hc, hn0, h02, h20, h22⟩, RR, RF, RH⟩ := R
  have j2 : ∀ j, j ≠ 6 + h → j ≠ 8 + h → tp_u (tp_u (tp_u (tp_u I 2 (6 + h) p) 2 (8 + h) q) (9 + 15 * h) 6 p) (9 + 15 * h) 7 q 2 j = I 2 j := fun j q1 q2 => by rw [tp_u_oth (by omega), tp_u_oth (by omega), tp_u_n q2, tp_u_n q1]
  have j6 : tp_u (tp_u (tp_u (tp_u I 2 (6 + h) p) 2 (8 + h) q) (9 + 15 * h) 6 p) (9 + 15 * h) 7 q 2 (6 + h) = p := by rw [tp_u_oth (by omega), tp_u_oth (by omega), tp_u_n (by omega), tp_u_s]
  have j8 : tp_u (tp_u (tp_u (tp_u I 2 (6 + h) p) 2 (8 + h) q) (9 + 15 * h) 6 p) (9 + 15 * h) 7 q 2 (8 + h) = q := by rw [tp_u_oth (by omega), tp_u_oth (by omega), tp_u_s]
  have jb : ∀ j, j ≠ 6 → j ≠ 7 → tp_u (tp_u (tp_u (tp_u I 2 (6 + h) p) 2 (8 + h) q) (9 + 15 * h) 6 p) (9 + 15 * h) 7 q (9 + 15 * h) j = I (9 + 15 * h) j := fun j q1 q2 => by rw [tp_u_n q2, tp_u_n q1, tp_u_oth (by omega), tp_u_oth (by omega)]
  have jb6 : tp_u (tp_u (tp_u (tp_u I 2 (6 + h) p) 2 (8 + h) q) (9 + 15 * h) 6 p) (9 + 15 * h) 7 q (9 + 15 * h) 6 = p := by rw [tp_u_n (by decide), tp_u_s]
  have jb7 : tp_u (tp_u (tp_u (tp_u I 2 (6 + h) p) 2 (8 + h) q) (9 + 15 * h) 6 p) (9 + 15 * h) 7 q (9 + 15 * h) 7 = q := tp_u_s
  have jo : ∀ k, k ≠ 2 → k ≠ 9 + 15 * h → tp_u (tp_u (tp_u (tp_u I 2 (6 + h) p) 2 (8 + h) q) (9 + 15 * h) 6 p) (9 + 15 * h) 7 q k = I k := fun k q1 q2 => by rw [tp_u_oth q2, tp_u_oth q2, tp_u_oth q1, tp_u_oth q1]
  generalize tp_u (tp_u (tp_u (tp_u I 2 (6 + h) p) 2 (8 + h) q) (9 + 15 * h) 6 p) (9 + 15 * h) 7 q = J at j2 j6 j8 jb jb6 jb7 jo ⊢
  refine ⟨hn2, by rw [jo 0 (by omega) (by omega)]; exact h01, by rw [j2 1 (by omega) (by omega)]; exact h21, e, c, aF, kF, ⟨he, hc, hn0, by rw [jo 0 (by omega) (by omega)]; exact h02, by rw [j2 0 (by omega) (by omega)]; exact h20, by rw [j2 2 (by omega) (by omega)]; exact h22⟩, fun j hj => ?_, fun i q1 q2 => ?_, fun i hi => ?_⟩
  · obtain ⟨g, f, r, q1, q2⟩ := RR j hj
    exact ⟨g, f, r, q1, tq_row_cong q2 (by rw [jo 3 (by omega) (by omega)]) (by rw [jo 4 (by omega) (by omega)])⟩
  · exact tq_fh_cong (RF i q1 q2) (j2 _ (by omega) (by omega)) (j2 _ (by omega) (by omega)) (j2 _ (by omega) (by omega)) (jo _ (by omega) (by omega)) (jo _ (by omega) (by omega))
  · by_cases ei : i = h
    · subst ei
      obtain ⟨F, ⟨B1, B2, B6, B7, B8, B9, B10, B11⟩, r3, rk, r2⟩ := RH i hi
      refine ⟨tq_F_cong F (j2 2 (by omega) (by omega)) (jo 3 (by omega) (by omega)) (jo 4 (by omega) (by omega)) (fun j q1 q2 => jo _ (by omega) (by omega)), ⟨⟨B1.1, B1.2.1, B1.2.2.1, by rw [j2 0 (by omega) (by omega)]; exact B1.2.2.2.1, by rw [j2 _ (by omega) (by omega)]; exact B1.2.2.2.2⟩, fun m hm => ?_, ?_, ?_, ?_, ?_, ?_, ?_⟩, by rw [jb 3 (by decide) (by decide)]; exact r3, rk, by rw [jb 2 (by decide) (by decide)]; exact r2⟩
      · rw [jo (9 + 15 * i + 13) (by omega) (by omega), jo (9 + 15 * i + 14) (by omega) (by omega), jo (5 + i) (by omega) (by omega), jo (7 + i) (by omega) (by omega)]
        exact B2 m hm
      · rw [jb6, j6]
      · rw [jb7, j8]
      · rw [jb 8 (by decide) (by decide), j2 _ (by omega) (by omega)]
        exact B8
      · rw [j2 _ (by omega) (by omega)]
        exact B9
      · rw [j6]
        exact h0
      · rw [j6]
        omega
    · exact tq_H_cong (RH i hi) (fun j q => j2 j (by omega) (by omega)) (jo 3 (by omega) (by omega)) (jo 4 (by omega) (by omega)) (jo _ (by omega) (by omega)) (jo _ (by omega) (by omega)) (fun j q => jo _ (by omega) (by omega))
/-- places of the law's numbers that the relation doesn't speak of, or that are as before -/
theorem tq_same (R : tq_rel n I) (h2 : ∀ j, (j ≠ 4 + n ∨ 2 ≤ n) → J 2 j = I 2 j) (ho : ∀ k, k ≠ 2 → J k = I k) : tq_rel n J := by
  obtain ⟨hn2, h01, h21, e, c, aF, kF, ⟨he, hc, hn0, h02, h20, h22⟩, RR, RF, RH⟩ := R
  refine ⟨hn2, by rw [ho 0 (by omega)]; exact h01, by rw [h2 1 (by omega)]; exact h21, e, c, aF, kF, ⟨he, hc, hn0, by rw [ho 0 (by omega)]; exact h02, by rw [h2 0 (by omega)]; exact h20, by rw [h2 2 (by omega)]; exact h22⟩, fun j hj => ?_, fun i q1 q2 => ?_, fun i hi => ?_⟩
  · obtain ⟨g, f, r, q1, q2⟩ := RR j hj
    exact ⟨g, f, r, q1, tq_row_cong q2 (by rw [ho 3 (by omega)]) (by rw [ho 4 (by omega)])⟩
  · exact tq_fh_cong (RF i q1 q2) (h2 _ (by omega)) (h2 _ (by omega)) (h2 _ (by omega)) (ho _ (by omega)) (ho _ (by omega))
  · exact tq_H_cong (RH i hi) (fun j q => h2 j (by omega)) (ho 3 (by omega)) (ho 4 (by omega)) (ho _ (by omega)) (ho _ (by omega)) (fun j q => ho _ (by omega))
end TK
/-! A CHANGE TOLD -/
theorem tm_first (P : Nat → Prop) (hP : ∀ m, P m ∨ ¬ P m) (r : Nat) : ∀ k, r + k = 48 → ∃ z, r ≤ z ∧ z ≤ 48 ∧ (∀ m, r ≤ m → m < z → P m) ∧ (z = 48 ∨ ¬ P z)
  | 0, hk => ⟨r, Nat.le_refl _, by omega, fun m a b => by omega, Or.inl (by omega)⟩
  | k + 1, hk => by
    obtain ⟨z, z1, z2, z3, z4⟩ := tm_first P hP (r + 1) k (by omega)
    rcases hP r with h | h
    · exact ⟨z, by omega, z2, fun m a b => by
        by_cases e : m = r
        · rw [e]
          exact h
        · exact z3 m (by omega) b, z4⟩
    · exact ⟨r, Nat.le_refl _, by omega, fun m a b => by omega, Or.inr h⟩
/-- the latest month that counts grows with the month asked -/
theorem tq_mono {I : Nat → Nat → Int32} {h f m m2 : Nat} (hmm : m ≤ m2) (hm : m2 < 48) : ∀ t : Nat, (tl_scan I h f m t).2.toInt ≤ (tl_scan I h f m2 t).2.toInt
  | 0 => Int.le_refl _
  | t + 1 => by
    have ih := tq_mono (I := I) (h := h) (f := f) hmm hm t
    have t1 : (nI m).toInt = m := nI_toInt (by omega)
    have t2 : (nI m2).toInt = m2 := nI_toInt (by omega)
    unfold tl_scan
    dsimp only
    generalize (tl_scan I h f m t).2 = x at ih ⊢
    generalize (tl_scan I h f m2 t).2 = y at ih ⊢
    have key : ∀ w : Int32, (if I 3 t / 16 ≤ w then w else I 3 t / 16).toInt = if (I 3 t / 16).toInt ≤ w.toInt then w.toInt else (I 3 t / 16).toInt := fun w => by
      by_cases q : I 3 t / 16 ≤ w
      · rw [if_pos q, if_pos (tm_le.mp q)]
      · rw [if_neg q, if_neg (fun z => q (tm_le.mpr z))]
    unfold tl_its
    by_cases h5 : I 3 t - I 3 t / 16 * 16 = nI (8 * h + f)
    · rw [if_pos h5, if_pos h5]
      by_cases p1 : nI m < I 3 t / 16
      · rw [if_pos p1, if_pos rfl]
        by_cases p2 : nI m2 < I 3 t / 16
        · rw [if_pos p2, if_pos rfl]
          exact ih
        · rw [if_neg p2, if_neg (show ¬ (1 : Int32) = 0 by decide), key]
          split <;> omega
      · rw [if_neg p1, if_neg (show ¬ nI m2 < I 3 t / 16 from fun q => by rw [tm_lt] at p1 q; omega), if_neg (show ¬ (1 : Int32) = 0 by decide), if_neg (show ¬ (1 : Int32) = 0 by decide), key, key]
        split <;> split <;> omega
    · rw [if_neg h5, if_neg h5, if_pos rfl, if_pos rfl]
      exact ih
theorem tm_z {x : Int32} {r : Nat} (hr : r ≤ 48) : tp_z x ≤ nI r ↔ ¬ nI r < x := by
  have t1 : (nI r).toInt = r := nI_toInt (by omega)
  have c0 : (0 : Int32).toInt = 0 := rfl
  have c1 : (-1 : Int32).toInt = -1 := rfl
  unfold tp_z
  by_cases h : x = -1
  · rw [if_pos h, h, tm_le, tm_lt]
    omega
  · rw [if_neg h, tm_le, tm_lt]
    omega
theorem tm_zr {r : Nat} (hr : r ≤ 48) : tp_z (nI r) = nI r := by
  refine if_neg (fun q => ?_)
  have t1 : (nI r).toInt = r := nI_toInt (by omega)
  rw [q] at t1
  have c1 : (-1 : Int32).toInt = -1 := rfl
  omega
def tp_updN (c : Nat → Nat) (h x : Nat) : Nat → Nat := fun j => if j = h then x else c j
/-- what the world holds behind a change told of household h -/
def tq_told (I J : Nat → Nat → Int32) (c h f r z : Nat) (v : Int32) : Prop :=
  J 2 2 = nI (c + 1) ∧ (∀ j, j ≠ 2 → J 2 j = I 2 j) ∧ J 3 = upd (I 3) c (nI (16 * r + 8 * h + f)) ∧ J 4 = upd (I 4) c v ∧ J (9 + 15 * h) = upd (I (9 + 15 * h)) 2 (I (9 + 15 * h) 2 + 1) ∧ (J (9 + 15 * h + 2 + f) = fun j => if r ≤ j ∧ j < z then v else I (9 + 15 * h + 2 + f) j) ∧ (J (9 + 15 * h + 8 + f) = fun j => if r ≤ j ∧ j < z then nI r else I (9 + 15 * h + 8 + f) j) ∧ ∀ k, k ≠ 2 → k ≠ 3 → k ≠ 4 → k ≠ 9 + 15 * h → k ≠ 9 + 15 * h + 2 + f → k ≠ 9 + 15 * h + 8 + f → J k = I k
theorem tq_told_of {I : Nat → Nat → Int32} {c h f r z : Nat} {v : Int32} (hf : f < 5) (hrz : r ≤ z) : tq_told I (tp_chg (tl_ent I c (16 * r + 8 * h + f) v) (9 + 15 * h) f r v (z - r)) c h f r z v := by
  have hz : r + (z - r) = z := by omega
  refine ⟨?_, fun j hj => ?_, ?_, ?_, ?_, ?_, ?_, fun k q2 q3 q4 qb qv qs => ?_⟩
  · unfold tp_chg
    rw [tp_fill_oth (by omega), tp_fill_oth (by omega), tp_u_oth (by omega)]
    exact tp_u_s
  · unfold tp_chg
    rw [tp_fill_oth (by omega), tp_fill_oth (by omega), tp_u_oth (by omega)]
    unfold tl_ent
    rw [tp_u_n hj, tp_u_oth (by decide), tp_u_oth (by decide)]
  · unfold tp_chg
    rw [tp_fill_oth (by omega), tp_fill_oth (by omega), tp_u_oth (by omega)]
    unfold tl_ent
    rw [tp_u_oth (by decide), tp_u_oth (by decide), tp_u_at]
  · unfold tp_chg
    rw [tp_fill_oth (by omega), tp_fill_oth (by omega), tp_u_oth (by omega)]
    unfold tl_ent
    rw [tp_u_oth (by decide), tp_u_at, tp_u_oth (by decide)]
  · unfold tp_chg
    rw [tp_fill_oth (by omega), tp_fill_oth (by omega), tp_u_at, tl_ent_oth (by omega) (by omega) (by omega)]
  · unfold tp_chg
    rw [tp_fill_oth (by omega), tp_fill_at, tp_u_oth (by omega), tl_ent_oth (by omega) (by omega) (by omega), hz]
  · unfold tp_chg
    rw [tp_fill_at, tp_fill_oth (by omega), tp_u_oth (by omega), tl_ent_oth (by omega) (by omega) (by omega), hz]
  · unfold tp_chg
    rw [tp_fill_oth qs, tp_fill_oth qv, tp_u_oth qb, tl_ent_oth q2 q3 q4]
theorem tq_tell {I J : Nat → Nat → Int32} {n e c h f r z : Nat} {v : Int32} {aF kF : Nat → Nat} (hn2 : n ≤ 2) (h01 : I 0 1 = nI n) (h21 : I 2 1 = nI n) (he : e ≤ 48) (hc : c < 64) (hn0 : n = 0 → e = 0) (h02 : I 0 2 = nI e) (h20 : I 2 0 = nI e) (RR : ∀ j, j < c → ∃ g f r, g < n ∧ tq_row I j g f r) (RF : ∀ h, n ≤ h → h < 2 → tq_fh I h) (RH : ∀ h, h < n → tq_H I e c h (aF h) (kF h))
    (hh : h < n) (hf : f < 5) (hr : r ≤ 48) (hv1 : ¬ v < tp_vl f) (hv2 : v ≤ tp_vm f) (z1 : r ≤ z) (z2 : z ≤ 48) (z3 : ∀ m, r ≤ m → m < z → I (9 + 15 * h + 8 + f) m ≤ nI r) (z4 : z = 48 ∨ ¬ I (9 + 15 * h + 8 + f) z ≤ nI r) (T : tq_told I J c h f r z v) : tq_rel n J := by
  obtain ⟨t22, t2, t3, t4, tb, tv, ts, to⟩ := T
  have f0 := to 0 (by omega) (by omega) (by omega) (by omega) (by omega) (by omega)
  have rowc : tq_row J c h f r := ⟨by omega, hf, hr, by rw [t3, pk_us], by rw [t4, pk_us]; exact hv1, by rw [t4, pk_us]; exact hv2⟩
  have old : ∀ j, j < c → J 3 j = I 3 j ∧ J 4 j = I 4 j := fun j hj => ⟨by rw [t3, pk_un (by omega)], by rw [t4, pk_un (by omega)]⟩
  have rows : ∀ j, j < c + 1 → ∃ g f r, g < n ∧ tq_row J j g f r := fun j hj => by
    by_cases ej : j = c
    · subst ej
      exact ⟨h, f, r, hh, rowc⟩
    · obtain ⟨g, f2, r2, q1, q2⟩ := RR j (by omega)
      exact ⟨g, f2, r2, q1, tq_row_cong q2 (old j (by omega)).1 (old j (by omega)).2⟩
  have sc : ∀ i f2 m, tl_scan J i f2 m c = tl_scan I i f2 m c := fun i f2 m => tl_scan_cong c old
  refine ⟨hn2, by rw [f0]; exact h01, by rw [t2 1 (by decide)]; exact h21, e, c + 1, aF, tp_updN kF h (kF h + 1), ⟨he, by omega, hn0, by rw [f0]; exact h02, by rw [t2 0 (by decide)]; exact h20, t22⟩, rows, fun i q1 q2 => tq_fh_cong (RF i q1 q2) (t2 _ (by omega)) (t2 _ (by omega)) (t2 _ (by omega)) (to _ (by omega) (by omega) (by omega) (by omega) (by omega) (by omega)) (to _ (by omega) (by omega) (by omega) (by omega) (by omega) (by omega)), fun i hi => ?_⟩
  obtain ⟨F, B, r3, rk, r2⟩ := RH i hi
  have B5 := to (5 + i) (by omega) (by omega) (by omega) (by omega) (by omega) (by omega)
  have B7 := to (7 + i) (by omega) (by omega) (by omega) (by omega) (by omega) (by omega)
  have B13 : J (9 + 15 * i + 13) = I (9 + 15 * i + 13) := to _ (by omega) (by omega) (by omega) (by omega) (by omega) (by omega)
  have B14 : J (9 + 15 * i + 14) = I (9 + 15 * i + 14) := to _ (by omega) (by omega) (by omega) (by omega) (by omega) (by omega)
  have rows2 : ∀ j, j < c + 1 → ∃ g f r, tq_row J j g f r := fun j hj => by
    obtain ⟨g, f2, r2, -, q⟩ := rows j hj
    exact ⟨g, f2, r2, q⟩
  by_cases ei : i = h
  · subst ei
    rw [show tp_updN kF i (kF i + 1) i = kF i + 1 from if_pos rfl]
    have bb : ∀ j, j ≠ 2 → J (9 + 15 * i) j = I (9 + 15 * i) j := fun j q => by rw [tb, pk_un q]
    refine ⟨⟨⟨by omega, by omega, t22⟩, rows2, fun f2 hf2 m hm => ?_⟩, tq_B_cong B (t2 0 (by decide)) (t2 _ (by omega)) (t2 _ (by omega)) (t2 _ (by omega)) (t2 _ (by omega)) B5 B7 B13 B14 (bb 6 (by decide)) (bb 7 (by decide)) (bb 8 (by decide)), by rw [bb 3 (by decide)]; exact r3, by omega, ?_⟩
    · obtain ⟨s1, s2⟩ := F.2.2 f2 hf2 m hm
      obtain ⟨i1, i2⟩ := tq_its rowc (h := i) (f0 := f2) (m := m) (by omega) hf2 hm
      unfold tl_scan
      dsimp only
      rw [sc, i1, i2, (show J 4 c = v by rw [t4, pk_us])]
      by_cases ef : f2 = f
      · subst ef
        rw [tv, ts]
        dsimp only
        by_cases hm1 : r ≤ m
        · rw [if_pos (show i = i ∧ f2 = f2 ∧ r ≤ m from ⟨rfl, rfl, hm1⟩), if_neg (show ¬ (1 : Int32) = 0 by decide), if_neg (show ¬ (1 : Int32) = 0 by decide)]
          by_cases hm2 : m < z
          · have q := z3 m hm1 hm2
            rw [s2, tm_z hr] at q
            rw [if_pos (show r ≤ m ∧ m < z from ⟨hm1, hm2⟩), if_pos (show r ≤ m ∧ m < z from ⟨hm1, hm2⟩), if_neg q]
            refine ⟨rfl, ?_⟩
            by_cases q2 : nI r ≤ (tl_scan I i f2 m c).2
            · rw [if_pos q2, show (tl_scan I i f2 m c).2 = nI r from Int32.toInt_inj.mp (by rw [tm_lt] at q; rw [tm_le] at q2; omega), tm_zr hr]
            · rw [if_neg q2, tm_zr hr]
          · have hz : ¬ I (9 + 15 * i + 8 + f2) z ≤ nI r := z4.resolve_left (by omega)
            rw [(F.2.2 f2 hf2 z (by omega)).2, tm_z hr] at hz
            have hz := Decidable.of_not_not hz
            have hmo := tq_mono (I := I) (h := i) (f := f2) (m := z) (m2 := m) (by omega) hm c
            have q : nI r < (tl_scan I i f2 m c).2 := by rw [tm_lt] at hz ⊢; omega
            rw [if_neg (show ¬ (r ≤ m ∧ m < z) from fun w => hm2 w.2), if_neg (show ¬ (r ≤ m ∧ m < z) from fun w => hm2 w.2), if_pos q, if_pos (show nI r ≤ (tl_scan I i f2 m c).2 by rw [tm_lt] at q; rw [tm_le]; omega)]
            exact ⟨s1, s2⟩
        · rw [if_neg (show ¬ (i = i ∧ f2 = f2 ∧ r ≤ m) from fun w => hm1 w.2.2), if_pos rfl, if_pos rfl, if_neg (show ¬ (r ≤ m ∧ m < z) from fun w => hm1 w.1), if_neg (show ¬ (r ≤ m ∧ m < z) from fun w => hm1 w.1)]
          exact ⟨s1, s2⟩
      · rw [if_neg (show ¬ (i = i ∧ f = f2 ∧ r ≤ m) from fun w => ef w.2.1.symm), if_pos rfl, if_pos rfl, to (9 + 15 * i + 2 + f2) (by omega) (by omega) (by omega) (by omega) (by omega) (by omega), to (9 + 15 * i + 8 + f2) (by omega) (by omega) (by omega) (by omega) (by omega) (by omega)]
        exact ⟨s1, s2⟩
    · rw [tb, pk_us, r2]
      exact nI_1 _
  · rw [show tp_updN kF h (kF h + 1) i = kF i from if_neg ei]
    have bb : J (9 + 15 * i) = I (9 + 15 * i) := to _ (by omega) (by omega) (by omega) (by omega) (by omega) (by omega)
    refine ⟨⟨⟨by omega, by omega, t22⟩, rows2, fun f2 hf2 m hm => ?_⟩, tq_B_cong B (t2 0 (by decide)) (t2 _ (by omega)) (t2 _ (by omega)) (t2 _ (by omega)) (t2 _ (by omega)) B5 B7 B13 B14 (by rw [bb]) (by rw [bb]) (by rw [bb]), by rw [bb]; exact r3, by omega, by rw [bb]; exact r2⟩
    obtain ⟨i1, i2⟩ := tq_its rowc (h := i) (f0 := f2) (m := m) (by omega) hf2 hm
    unfold tl_scan
    dsimp only
    rw [sc, i1, if_neg (show ¬ (h = i ∧ f = f2 ∧ r ≤ m) from fun w => ei w.1.symm), if_pos rfl, if_pos rfl, to (9 + 15 * i + 2 + f2) (by omega) (by omega) (by omega) (by omega) (by omega) (by omega), to (9 + 15 * i + 8 + f2) (by omega) (by omega) (by omega) (by omega) (by omega) (by omega)]
    exact F.2.2 f2 hf2 m hm
end
section
/-! CLOSING, AND ADDING -/
section TCL
variable {I J K : Nat → Nat → Int32} {e c h a k n : Nat}
theorem tl_cls_oth (q : k ≠ 2) (q2 : k ≠ 7 + h) (q3 : k ≠ 5 + h) : tl_cls I h a e k = I k := by
  unfold tl_cls
  exact tl_Jt_oth q q2 q3
theorem tl_cls_n {j : Nat} (q : j ≠ 6 + h) (q2 : j ≠ 8 + h) : tl_cls I h a e 2 j = I 2 j := by
  unfold tl_cls
  exact tl_Jt_n q q2
theorem tl_cls_6 : tl_cls I h a e 2 (6 + h) = tp_owed I (9 + 15 * h) (tp_open I (9 + 15 * h) a e) - tp_rec I (9 + 15 * h) e (tp_owed I (9 + 15 * h) (tp_open I (9 + 15 * h) a e)) := by
  unfold tl_cls tl_J3 tl_J2
  rw [tp_fill_oth (by omega), tp_u_oth (by omega), tp_u_n (by omega), tp_u_s]
theorem tl_cls_8 : tl_cls I h a e 2 (8 + h) = I 2 (8 + h) + tp_rec I (9 + 15 * h) e (tp_owed I (9 + 15 * h) (tp_open I (9 + 15 * h) a e)) := by
  unfold tl_cls tl_J3 tl_J2
  rw [tp_fill_oth (by omega), tp_u_oth (by omega), tp_u_s]
theorem tl_cls_5 {m : Nat} : tl_cls I h a e (5 + h) m = if a ≤ m ∧ m < a + (e + 1 - a) then tp_due I (9 + 15 * h) (a + (m - a)) else I (5 + h) m := by
  unfold tl_cls tl_J3
  rw [tp_fill_at, tp_u_oth (by omega), tl_J2_oth (by omega)]
theorem tl_cls_7 : tl_cls I h a e (7 + h) = upd (I (7 + h)) e (tp_paym I (9 + 15 * h) a e) := by
  unfold tl_cls tl_J3
  rw [tp_fill_oth (by omega), tp_u_at, tl_J2_oth (by omega)]
/-- a household closed in both -/
theorem tq_closed (F : tq_F I h c) (B : tq_B I h e a) (he : e < 48) (l0 : J 2 0 = nI (e + 1)) (l4 : J 2 (4 + h) = I 2 (4 + h)) (l10 : J 2 (10 + h) = I 2 (10 + h)) (l6 : J 2 (6 + h) = tl_cls I h a e 2 (6 + h)) (l8 : J 2 (8 + h) = tl_cls I h a e 2 (8 + h)) (l5 : J (5 + h) = tl_cls I h a e (5 + h)) (l7 : J (7 + h) = tl_cls I h a e (7 + h))
    (hJ : ∀ d, d < 15 → J (9 + 15 * h + d) = tp_settle K (9 + 15 * h) a e (9 + 15 * h + d)) (hK : ∀ d, d < 15 → K (9 + 15 * h + d) = I (9 + 15 * h + d)) : tq_B J h (e + 1) a := by
  obtain ⟨o3, o4⟩ := tq_open F B
  obtain ⟨⟨hh, ha, he8, h0, h4⟩, hm, h6, h7, h8, h01, hd0, hdm⟩ := id B
  have K0 : K (9 + 15 * h) = I (9 + 15 * h) := hK 0 (by decide)
  have J0 : J (9 + 15 * h) = tp_settle K (9 + 15 * h) a e (9 + 15 * h) := hJ 0 (by decide)
  obtain ⟨k1, k2, k3, k4⟩ := tq_all_cong (I := I) (J := K) (b := 9 + 15 * h) (fun f hf => by rw [Nat.add_assoc]; exact hK (2 + f) (by omega)) (hK 13 (by decide)) (by rw [K0]) (by rw [K0])
  have kd : ∀ m, tp_due K (9 + 15 * h) m = tp_due I (9 + 15 * h) m := fun m => tp_due_cong (fun f hf => by rw [Nat.add_assoc]; exact hK (2 + f) (by omega))
  have sb : ∀ j, j ≠ 6 → j ≠ 7 → J (9 + 15 * h) j = I (9 + 15 * h) j := fun j q6 q7 => by
    rw [J0]
    unfold tp_settle
    rw [tp_u_oth (by omega), tp_fill_oth (by omega), tp_u_n q7, tp_u_n q6, tp_u_n q6, K0]
  have ow : tp_owed I (9 + 15 * h) (tp_open I (9 + 15 * h) a e) = tp_pos (I 2 (6 + h) - tp_open I (9 + 15 * h) a e) := by
    unfold tp_owed
    rw [h6]
  obtain ⟨-, -, -, w1, w2⟩ := tn_owed hd0 (by omega) o3 o4
  rw [← ow] at w1 w2
  obtain ⟨kd1, hk1, ek1⟩ := tq_dueN F he
  have rb : 0 ≤ (tp_rec I (9 + 15 * h) e (tp_owed I (9 + 15 * h) (tp_open I (9 + 15 * h) a e))).toInt ∧ (tp_rec I (9 + 15 * h) e (tp_owed I (9 + 15 * h) (tp_open I (9 + 15 * h) a e))).toInt ≤ (tp_owed I (9 + 15 * h) (tp_open I (9 + 15 * h) a e)).toInt := by
    have c0 : (0 : Int32).toInt = 0 := rfl
    unfold tp_rec
    by_cases q : I (9 + 15 * h) 8 = 0
    · rw [if_pos q]
      exact (tn_rec w1 (by rw [ek1]; exact (tn_15 hk1).2)).2.2
    · rw [if_neg q]
      omega
  refine ⟨⟨hh, by omega, by omega, l0, by rw [l4]; exact h4⟩, fun m hm48 => ?_, ?_, ?_, ?_, ?_, ?_, ?_⟩
  · obtain ⟨m1, m2, m3, m4⟩ := hm m hm48
    obtain ⟨kd2, hk2, ek2⟩ := tq_dueN F hm48
    rw [hJ 13 (by decide), hJ 14 (by decide), l5, l7, tl_cls_5, tl_cls_7]
    refine ⟨?_, ?_, ?_⟩
    · unfold tp_settle
      rw [tp_u_oth (by omega), tp_fill_at]
      dsimp only
      by_cases q : a ≤ m ∧ m < a + (e + 1 - a)
      · rw [if_pos q, if_pos q, kd]
      · rw [if_neg q, if_neg q, tp_u_oth (by omega), tp_u_oth (by omega), tp_u_oth (by omega), hK 13 (by decide), m1]
    · unfold tp_settle
      by_cases q : m = e
      · subst q
        rw [tp_u_s, pk_us, k4]
      · rw [tp_u_n q, pk_un q, tp_fill_oth (by omega), tp_u_oth (by omega), tp_u_oth (by omega), tp_u_oth (by omega), hK 14 (by decide), m2]
    · by_cases q : a ≤ m ∧ m < a + (e + 1 - a)
      · rw [if_pos q, show a + (m - a) = m by omega, ek2, nI_toInt (by omega)]
        omega
      · rw [if_neg q]
        exact ⟨m3, m4⟩
  · rw [l6, tl_cls_6, J0]
    unfold tp_settle
    rw [tp_u_oth (by omega), tp_fill_oth (by omega), tp_u_n (by decide), tp_u_s, k1, k2, k3]
  · rw [l8, tl_cls_8, J0]
    unfold tp_settle
    rw [tp_u_oth (by omega), tp_fill_oth (by omega), tp_u_s, k1, k2, k3, K0, h7]
  · rw [l10, sb 8 (by decide) (by decide)]
    exact h8
  · rw [l10]
    exact h01
  · rw [l6, tl_cls_6, tm_sub (by omega) (by omega)]
    omega
  · rw [l6, tl_cls_6, tm_sub (by omega) (by omega)]
    omega
theorem tc_oth {aF : Nat → Nat} : ∀ k, (∀ j, j < k → c ≠ 9 + 15 * j ∧ c ≠ 9 + 15 * j + 13 ∧ c ≠ 9 + 15 * j + 14) → tp_ost I aF e k c = I c
  | 0, _ => rfl
  | k + 1, h => by
    show tp_settle (tp_ost I aF e k) (9 + 15 * k) (aF k) e c = I c
    obtain ⟨h0, h1, h2⟩ := h k (by omega)
    rw [tp_settle_oth h0 h1 h2]
    exact tc_oth k (fun j hj => h j (by omega))
theorem tc_at {aF : Nat → Nat} {d : Nat} (hd : d < 15) : ∀ k, h < k → tp_ost I aF e k (9 + 15 * h + d) = tp_settle (tp_ost I aF e h) (9 + 15 * h) (aF h) e (9 + 15 * h + d)
  | 0, hk => by omega
  | k + 1, hk => by
    by_cases ek : h = k
    · subst ek
      rfl
    · show tp_settle (tp_ost I aF e k) (9 + 15 * k) (aF k) e (9 + 15 * h + d) = _
      rw [tp_settle_oth (by omega) (by omega) (by omega)]
      exact tc_at hd k (by omega)
/-- the law's numbers behind its own closing -/
def tl_all (I : Nat → Nat → Int32) (aF : Nat → Nat) (e : Nat) : Nat → Nat → Nat → Int32
  | 0 => I
  | k + 1 => tl_cls (tl_all I aF e k) k (aF k) e
def tl_sum (I : Nat → Nat → Int32) (aF : Nat → Nat) (e : Nat) : Nat → Int32
  | 0 => 0
  | k + 1 => tl_sum I aF e k + tp_paym (tl_all I aF e k) (9 + 15 * k) (aF k) e
theorem tl_all_oth {aF : Nat → Nat} {j : Nat} (hj : j ≠ 2) (hj2 : j < 5 ∨ 9 ≤ j) : ∀ k, k ≤ 2 → tl_all I aF e k j = I j
  | 0, _ => rfl
  | k + 1, hk => by
    show tl_cls (tl_all I aF e k) k (aF k) e j = I j
    rw [tl_cls_oth hj (by omega) (by omega)]
    exact tl_all_oth hj hj2 k (by omega)
theorem tl_all_n {aF : Nat → Nat} {j : Nat} (hj : j < 6 ∨ 10 ≤ j) : ∀ k, k ≤ 2 → tl_all I aF e k 2 j = I 2 j
  | 0, _ => rfl
  | k + 1, hk => by
    show tl_cls (tl_all I aF e k) k (aF k) e 2 j = I 2 j
    rw [tl_cls_n (by omega) (by omega)]
    exact tl_all_n hj k (by omega)
/-- a household's own places: before its turn -/
theorem tl_all_lo {aF : Nat → Nat} : ∀ k, k ≤ h → h < 2 → tl_all I aF e k 2 (6 + h) = I 2 (6 + h) ∧ tl_all I aF e k 2 (8 + h) = I 2 (8 + h) ∧ tl_all I aF e k (5 + h) = I (5 + h) ∧ tl_all I aF e k (7 + h) = I (7 + h)
  | 0, _, _ => ⟨rfl, rfl, rfl, rfl⟩
  | k + 1, hk, hh => by
    obtain ⟨q1, q2, q3, q4⟩ := tl_all_lo (aF := aF) k (by omega) hh
    refine ⟨?_, ?_, ?_, ?_⟩
    · show tl_cls (tl_all I aF e k) k (aF k) e 2 (6 + h) = _
      rw [tl_cls_n (by omega) (by omega)]
      exact q1
    · show tl_cls (tl_all I aF e k) k (aF k) e 2 (8 + h) = _
      rw [tl_cls_n (by omega) (by omega)]
      exact q2
    · show tl_cls (tl_all I aF e k) k (aF k) e (5 + h) = _
      rw [tl_cls_oth (by omega) (by omega) (by omega)]
      exact q3
    · show tl_cls (tl_all I aF e k) k (aF k) e (7 + h) = _
      rw [tl_cls_oth (by omega) (by omega) (by omega)]
      exact q4
/-- and behind it -/
theorem tl_all_hi {aF : Nat → Nat} : ∀ k, h < k → k ≤ 2 → tl_all I aF e k 2 (6 + h) = tl_cls (tl_all I aF e h) h (aF h) e 2 (6 + h) ∧ tl_all I aF e k 2 (8 + h) = tl_cls (tl_all I aF e h) h (aF h) e 2 (8 + h) ∧ tl_all I aF e k (5 + h) = tl_cls (tl_all I aF e h) h (aF h) e (5 + h) ∧ tl_all I aF e k (7 + h) = tl_cls (tl_all I aF e h) h (aF h) e (7 + h)
  | 0, hk, _ => by omega
  | k + 1, hk, hh => by
    by_cases ek : h = k
    · subst ek
      exact ⟨rfl, rfl, rfl, rfl⟩
    · obtain ⟨q1, q2, q3, q4⟩ := tl_all_hi (aF := aF) k (by omega) (by omega)
      refine ⟨?_, ?_, ?_, ?_⟩
      · show tl_cls (tl_all I aF e k) k (aF k) e 2 (6 + h) = _
        rw [tl_cls_n (by omega) (by omega)]
        exact q1
      · show tl_cls (tl_all I aF e k) k (aF k) e 2 (8 + h) = _
        rw [tl_cls_n (by omega) (by omega)]
        exact q2
      · show tl_cls (tl_all I aF e k) k (aF k) e (5 + h) = _
        rw [tl_cls_oth (by omega) (by omega) (by omega)]
        exact q3
      · show tl_cls (tl_all I aF e k) k (aF k) e (7 + h) = _
        rw [tl_cls_oth (by omega) (by omega) (by omega)]
        exact q4
/-- the household that the law closes next, as it stood -/
theorem tl_all_H {aF : Nat → Nat} (R : tq_H I e c h a k) (hh : h < 2) : tq_H (tl_all I aF e h) e c h a k := by
  obtain ⟨q1, q2, q3, q4⟩ := tl_all_lo (I := I) (e := e) (aF := aF) h (Nat.le_refl _) hh
  exact tq_H_cong R (fun j q => by
    rcases q with rfl | rfl | rfl | rfl | rfl | rfl
    · exact tl_all_n (by omega) h (by omega)
    · exact tl_all_n (by omega) h (by omega)
    · exact tl_all_n (by omega) h (by omega)
    · exact q1
    · exact q2
    · exact tl_all_n (by omega) h (by omega)) (tl_all_oth (by omega) (by omega) h (by omega)) (tl_all_oth (by omega) (by omega) h (by omega)) q3 q4 (fun j q => tl_all_oth (by omega) (by omega) h (by omega))
/-- all closed: I3 the numbers before the class closes -/
theorem tq_close {aF kF : Nat → Nat} (hn2 : n ≤ 2) (h01 : I 0 1 = nI n) (h21 : I 2 1 = nI n) (he : e < 48) (hc : c ≤ 64) (hn : 0 < n) (h22 : I 2 2 = nI c) (RR : ∀ j, j < c → ∃ g f r, g < n ∧ tq_row I j g f r) (RF : ∀ h, n ≤ h → h < 2 → tq_fh I h) (RH : ∀ h, h < n → tq_H I e c h (aF h) (kF h)) :
    tp_osum (tp_u (tl_all I aF e n) 2 0 (nI (e + 1))) aF e n = tl_sum I aF e n ∧ tq_rel n (tp_u (tp_ost (tp_u (tl_all I aF e n) 2 0 (nI (e + 1))) aF e n) 0 2 (nI (e + 1))) := by
  generalize hI3 : tp_u (tl_all I aF e n) 2 0 (nI (e + 1)) = I3
  have i20 : I3 2 0 = nI (e + 1) := by rw [← hI3]; exact tp_u_s
  have i2n : ∀ j, j ≠ 0 → I3 2 j = tl_all I aF e n 2 j := fun j q => by rw [← hI3, tp_u_n q]
  have i2o : ∀ j, j ≠ 2 → I3 j = tl_all I aF e n j := fun j q => by rw [← hI3, tp_u_oth q]
  have ib : ∀ h d, I3 (9 + 15 * h + d) = I (9 + 15 * h + d) := fun h d => by rw [i2o _ (by omega)]; exact tl_all_oth (by omega) (by omega) n hn2
  have kb : ∀ h k d, k ≤ h → d < 15 → tp_ost I3 aF e k (9 + 15 * h + d) = I (9 + 15 * h + d) := fun h k d hk hd => by rw [tc_oth k (fun j hj => by omega)]; exact ib h d
  have pay : ∀ h, h < n → tp_paym (tp_ost I3 aF e h) (9 + 15 * h) (aF h) e = tp_paym (tl_all I aF e h) (9 + 15 * h) (aF h) e := fun h hh => by
    have a0 : ∀ d, d < 15 → tp_ost I3 aF e h (9 + 15 * h + d) = tl_all I aF e h (9 + 15 * h + d) := fun d hd => by rw [kb h h d (Nat.le_refl _) hd, tl_all_oth (by omega) (by omega) h (by omega)]
    exact (tq_all_cong (fun f hf => by rw [Nat.add_assoc]; exact a0 (2 + f) (by omega)) (a0 13 (by decide)) (by rw [show tp_ost I3 aF e h (9 + 15 * h) = tl_all I aF e h (9 + 15 * h) from a0 0 (by decide)]) (by rw [show tp_ost I3 aF e h (9 + 15 * h) = tl_all I aF e h (9 + 15 * h) from a0 0 (by decide)])).2.2.2 _ _
  refine ⟨?_, ?_⟩
  · have key : ∀ k, k ≤ n → tp_osum I3 aF e k = tl_sum I aF e k := by
      intro k
      induction k with
      | zero => intro _; rfl
      | succ k ih =>
        intro hk
        show tp_osum I3 aF e k + tp_paym (tp_ost I3 aF e k) (9 + 15 * k) (aF k) e = tl_sum I aF e k + tp_paym (tl_all I aF e k) (9 + 15 * k) (aF k) e
        rw [ih (by omega), pay k (by omega)]
    exact key n (Nat.le_refl _)
  · generalize hJ : tp_u (tp_ost I3 aF e n) 0 2 (nI (e + 1)) = J
    have j0 : ∀ c, c ≠ 0 → J c = tp_ost I3 aF e n c := fun c q => by rw [← hJ, tp_u_oth q]
    have jl : ∀ c, 0 < c → c < 9 → J c = I3 c := fun c q1 q2 => by rw [j0 c (by omega), tc_oth n (fun j hj => by omega)]
    have j2 : ∀ j, j ≠ 0 → J 2 j = tl_all I aF e n 2 j := fun j q => by rw [jl 2 (by omega) (by omega), i2n j q]
    have j20 : J 2 0 = nI (e + 1) := by rw [jl 2 (by omega) (by omega), i20]
    have jz : J 0 = upd (I 0) 2 (nI (e + 1)) := by rw [← hJ, tp_u_at, tc_oth n (fun j hj => by omega), i2o 0 (by omega), tl_all_oth (by omega) (by omega) n hn2]
    have j3 : J 3 = I 3 := by rw [jl 3 (by omega) (by omega), i2o 3 (by omega), tl_all_oth (by omega) (by omega) n hn2]
    have j4 : J 4 = I 4 := by rw [jl 4 (by omega) (by omega), i2o 4 (by omega), tl_all_oth (by omega) (by omega) n hn2]
    have j22 : J 2 2 = nI c := by rw [j2 2 (by omega), tl_all_n (by omega) n hn2]; exact h22
    refine ⟨hn2, by rw [jz, pk_un (by decide)]; exact h01, by rw [j2 1 (by omega), tl_all_n (by omega) n hn2]; exact h21, e + 1, c, aF, kF, ⟨by omega, hc, by omega, by rw [jz, pk_us], j20, j22⟩, fun j hj => ?_, fun h q1 q2 => ?_, fun h hh => ?_⟩
    · obtain ⟨g, f, r, q1, q2⟩ := RR j hj
      exact ⟨g, f, r, q1, tq_row_cong q2 (by rw [j3]) (by rw [j4])⟩
    · obtain ⟨w1, w2, w3, w4⟩ := tl_all_lo (I := I) (e := e) (aF := aF) n q1 q2
      exact tq_fh_cong (RF h q1 q2) (by rw [j2 _ (by omega), w1]) (by rw [j2 _ (by omega), w2]) (by rw [j2 _ (by omega), tl_all_n (by omega) n hn2]) (by rw [jl _ (by omega) (by omega), i2o _ (by omega), w3]) (by rw [jl _ (by omega) (by omega), i2o _ (by omega), w4])
    · obtain ⟨F, B, r3, rk, r2⟩ := RH h hh
      obtain ⟨F1, B1, -, -, -⟩ := tl_all_H (aF := aF) (RH h hh) (by omega)
      obtain ⟨w1, w2, w3, w4⟩ := tl_all_hi (I := I) (e := e) (aF := aF) n hh hn2
      have jd : ∀ d, d < 15 → J (9 + 15 * h + d) = tp_settle (tp_ost I3 aF e h) (9 + 15 * h) (aF h) e (9 + 15 * h + d) := fun d hd => by rw [j0 _ (by omega), tc_at hd n hh]
      have kd : ∀ d, d < 15 → tp_ost I3 aF e h (9 + 15 * h + d) = tl_all I aF e h (9 + 15 * h + d) := fun d hd => by rw [kb h h d (Nat.le_refl _) hd, tl_all_oth (by omega) (by omega) h (by omega)]
      have jo : ∀ d, 0 < d → d < 13 → J (9 + 15 * h + d) = I (9 + 15 * h + d) := fun d q1 q2 => by rw [jd d (by omega), tp_settle_oth (by omega) (by omega) (by omega), kb h h d (Nat.le_refl _) (by omega)]
      have jb : ∀ j, j ≠ 6 → j ≠ 7 → J (9 + 15 * h) j = I (9 + 15 * h) j := fun j q6 q7 => by
        rw [show J (9 + 15 * h) = tp_settle (tp_ost I3 aF e h) (9 + 15 * h) (aF h) e (9 + 15 * h) from jd 0 (by decide)]
        unfold tp_settle
        rw [tp_u_oth (by omega), tp_fill_oth (by omega), tp_u_n q7, tp_u_n q6, tp_u_n q6, show tp_ost I3 aF e h (9 + 15 * h) = I (9 + 15 * h) from kb h h 0 (Nat.le_refl _) (by decide)]
      refine ⟨tq_F_cong F (by rw [j22, h22]) j3 j4 jo, tq_closed (K := tp_ost I3 aF e h) F1 B1 he j20 ?_ ?_ (by rw [j2 _ (by omega), w1]) (by rw [j2 _ (by omega), w2]) (by rw [jl _ (by omega) (by omega), i2o _ (by omega), w3]) (by rw [jl _ (by omega) (by omega), i2o _ (by omega), w4]) jd kd, by rw [jb 3 (by decide) (by decide)]; exact r3, rk, by rw [jb 2 (by decide) (by decide)]; exact r2⟩
      · rw [j2 _ (by omega), tl_all_n (by omega) n hn2, tl_all_n (by omega) h (by omega)]
      · rw [j2 _ (by omega), tl_all_n (by omega) n hn2, tl_all_n (by omega) h (by omega)]
/-- no change told of it: a fact's first value -/
theorem tq_none {f m : Nat} (hh : h < 2) (hf : f < 5) (hm : m < 48) (RR : ∀ j, j < c → ∃ g f r, g < h ∧ tq_row I j g f r) : ∀ t, t ≤ c → tl_scan I h f m t = (tl_v0 f, -1)
  | 0, _ => rfl
  | t + 1, ht => by
    obtain ⟨g, f2, r, q1, q2⟩ := RR t (by omega)
    obtain ⟨i1, -⟩ := tq_its q2 hh hf hm
    unfold tl_scan
    rw [tq_none hh hf hm RR t (by omega), i1, if_neg (show ¬ (g = h ∧ f2 = f ∧ r ≤ m) from fun w => by omega), if_pos rfl, if_pos rfl]
/-- a household added -/
theorem tq_add (R : tq_rel n I) (hn : n < 2) (h02' : I 0 2 = nI e) (he0 : e < 48) : tq_rel (n + 1) (tp_u (tp_gI n (tp_u (tp_u I 2 (4 + n) (nI e)) 2 1 (nI (n + 1))) (nI e)) 0 1 (nI (n + 1))) := by
  obtain ⟨hn2, h01, h21, e1, c, aF, kF, ⟨he, hc, hn0, h02, h20, h22⟩, RR, RF, RH⟩ := R
  obtain rfl : e1 = e := tp_nIj (h02.symm.trans h02') (by omega) (by omega)
  generalize hJ : tp_u (tp_gI n (tp_u (tp_u I 2 (4 + n) (nI e1)) 2 1 (nI (n + 1))) (nI e1)) 0 1 (nI (n + 1)) = J
  have j0 : J 0 = upd (I 0) 1 (nI (n + 1)) := by rw [← hJ, tp_u_at, tp_gI_lo (by omega), tp_u_oth (by omega), tp_u_oth (by omega)]
  have jl : ∀ c, c ≠ 0 → c ≠ 2 → c < 9 + 15 * n → J c = I c := fun c q0 q2 q => by rw [← hJ, tp_u_oth q0, tp_gI_lo q, tp_u_oth q2, tp_u_oth q2]
  have j2 : ∀ j, j ≠ 1 → j ≠ 4 + n → J 2 j = I 2 j := fun j q1 q4 => by rw [← hJ, tp_u_oth (by omega), tp_gI_lo (by omega), tp_u_n q1, tp_u_n q4]
  have j21 : J 2 1 = nI (n + 1) := by rw [← hJ, tp_u_oth (by omega), tp_gI_lo (by omega), tp_u_s]
  have j24 : J 2 (4 + n) = nI e1 := by rw [← hJ, tp_u_oth (by omega), tp_gI_lo (by omega), tp_u_n (by omega), tp_u_s]
  have jh : ∀ d, J (9 + 15 * n + d) = tp_hI (nI e1) d := fun d => by rw [← hJ, tp_u_oth (by omega), tp_gI_hi]
  have j22 : J 2 2 = nI c := by rw [j2 2 (by omega) (by omega)]; exact h22
  have j3 := jl 3 (by omega) (by omega) (by omega)
  have j4 := jl 4 (by omega) (by omega) (by omega)
  have rows : ∀ j, j < c → ∃ g f r, g < n ∧ tq_row J j g f r := fun j hj => by
    obtain ⟨g, f, r, q1, q2⟩ := RR j hj
    exact ⟨g, f, r, q1, tq_row_cong q2 (by rw [j3]) (by rw [j4])⟩
  refine ⟨by omega, by rw [j0, pk_us], j21, e1, c, tp_updN aF n e1, tp_updN kF n 0, ⟨he, hc, by omega, by rw [j0, pk_un (by decide)]; exact h02, by rw [j2 0 (by omega) (by omega)]; exact h20, j22⟩, fun j hj => ?_, fun i q1 q2 => ?_, fun i hi => ?_⟩
  · obtain ⟨g, f, r, q1, q2⟩ := rows j hj
    exact ⟨g, f, r, by omega, q2⟩
  · exact tq_fh_cong (RF i (by omega) q2) (j2 _ (by omega) (by omega)) (j2 _ (by omega) (by omega)) (j2 _ (by omega) (by omega)) (jl _ (by omega) (by omega) (by omega)) (jl _ (by omega) (by omega) (by omega))
  · by_cases ei : i = n
    · subst ei
      rw [show tp_updN aF i e1 i = e1 from if_pos rfl, show tp_updN kF i 0 i = 0 from if_pos rfl]
      obtain ⟨z6, z8, z10, z5⟩ := RF i (Nat.le_refl _) hn
      have b0 : J (9 + 15 * i) = tp_hI (nI e1) 0 := jh 0
      have c0 : (0 : Int32).toInt = 0 := rfl
      have j5 := jl (5 + i) (by omega) (by omega) (by omega)
      have j7 := jl (7 + i) (by omega) (by omega) (by omega)
      have q6 := j2 (6 + i) (by omega) (by omega)
      have q8 := j2 (8 + i) (by omega) (by omega)
      have q10 := j2 (10 + i) (by omega) (by omega)
      refine ⟨⟨⟨by omega, hc, j22⟩, fun j hj => ?_, fun f hf m hm => ?_⟩, ⟨⟨by omega, Nat.le_refl _, he, by rw [j2 0 (by omega) (by omega)]; exact h20, j24⟩, fun m hm => ?_, ?_⟩, by rw [b0]; rfl, Nat.zero_le _, by rw [b0]; rfl⟩
      · obtain ⟨g, f, r, q1, q2⟩ := rows j hj
        exact ⟨g, f, r, q2⟩
      · rw [tq_none (h := i) (by omega) hf hm rows c (Nat.le_refl _), Nat.add_assoc (9 + 15 * i) 2 f, Nat.add_assoc (9 + 15 * i) 8 f, jh (2 + f), jh (8 + f)]
        rcases (show f = 0 ∨ f = 1 ∨ f = 2 ∨ f = 3 ∨ f = 4 by omega) with rfl | rfl | rfl | rfl | rfl
        · refine ⟨?_, rfl⟩
          show (if m < 48 then (1 : Int32) else 0) = tl_v0 0
          rw [if_pos hm]
          decide
        all_goals exact ⟨by show (0 : Int32) = _; decide, rfl⟩
      · rw [jh 13, jh 14, j5, j7, (z5 m hm).1, (z5 m hm).2]
        exact ⟨rfl, rfl, by omega, by omega⟩
      · rw [b0, q6, q8, q10, z6, z8, z10]
        exact ⟨rfl, rfl, rfl, Or.inl rfl, by omega, by omega⟩
    · rw [show tp_updN aF n e1 i = aF i from if_neg ei, show tp_updN kF n 0 i = kF i from if_neg ei]
      exact tq_H_cong (RH i (by omega)) (fun j q => j2 j (by omega) (by omega)) j3 j4 (jl _ (by omega) (by omega) (by omega)) (jl _ (by omega) (by omega) (by omega)) (fun j q => jl _ (by omega) (by omega) (by omega))
end TCL
end
