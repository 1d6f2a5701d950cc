/-! THE LAW'S CASES -/
def tp_Al (s : State) : Nat → Prop := fun q => s.heap.size ≤ q
def tp_CX (p : Program) (s : State) (m : MethodId) (meth : Method) (c : Code) (b L : Nat) (xs : Nat → Int32) : Prop :=
  p.tables.exec = Jvm.exec ∧ c.code = cL_law ∧ c.maxLocals = 7 ∧ s.vm.findClass RL = some m.cls ∧ (∀ w ∈ wsL_law, w.before #[Value.ref b] s = true) ∧ va_X b L xs s s.heap ∧ b < s.heap.size
def tp_Wd (D : va_G) (cy : Nat → ClassId) (n : Nat) (ad : Nat → Nat) (I : Nat → Nat → Int32) (o : Int64) (s : State) (H : Heap) (locs : List Loc) : Prop :=
  va_P D vwCl (tp_w cy n ad I o) H ∧ va_D (tp_Al s) (tp_w cy n ad I o) ∧ va_S (tp_Al s) s.heap H locs
def tp_lv (b : Nat) (ad : Nat → Nat) (i : Nat) : List (Nat × Value) := [(4, .int (nI i)), (3, .ref (ad 13)), (2, .ref (ad 2)), (1, .ref (ad 0)), (0, .ref b)]
def tp_J (l : Launch) (y1 : MethodName) (ws1 : List Cond) (y2 : MethodName) (ws2 : List Cond) (D : va_G) (cy : Nat → ClassId) (n : Nat) (ad : Nat → Nat) (sa : Nat → Nat) (tL tM : Nat) (as1 as2 : List Value) (f : Int32 → Int64) (I : Nat → Nat → Int32) (o : Int64) (P : (Nat → Nat → Int32) → Prop) : Prop :=
  ∃ (fr lo mc ms fr2 lo2 : Nat) (k b : Int32) (I1 : Nat → Nat → Int32) (o1 : Int64) (I2 : Nat → Nat → Int32), (fr ≤ 8 ∧ lo ≤ 170 ∧ mc ≤ 1 ∧ ms ≤ 6 ∧ fr2 ≤ 8 ∧ lo2 ≤ 170) ∧ tp_L l y1 ws1 fr lo mc ms D cy n ad sa tL tM as1 I o k I1 o1 ∧ tp_I l y2 ws2 (tp_rm fr2 lo2) D cy n ad o1 as2 I1 b I2 ∧ I2 2 0 = k ∧ (k = 0 → o1 = f b) ∧ P I2
section TPW2
variable {p : Program} {l : Launch} {e : Env} {R : Room} {s : State} {m : MethodId} {args : Array Value} {below : List Frame} {meth : Method} {c : Code} {H : Heap} {locs : List Loc} {cells slots : Nat} {Q : State → Prop}
variable {cc : ByteArray} {pc : Nat} {ls : Array Slot} {rest : List Value} {D : va_G} {A : Nat → Prop} {H0 : Heap}
variable {cy : Nat → ClassId} {n : Nat} {ad : Nat → Nat} {I : Nat → Nat → Int32} {o : Int64} {sa : Nat → Nat} {tL tM : Nat}
theorem tp_callL {own : String} {index nA nL maxL fr lo mc ms : Nat} {y : MethodName} {bytes : ByteArray} {ret : Option FieldType} {hh : List (Nat × Nat × Nat × Nat)} {ws Ts : List Cond} {As st : List Value} {r : Int32} {I' : Nat → Nat → Int32} {o' : Int64}
    (S : CallFix p m c cc nL s args Ts own) (hM : tp_L l y ws fr lo mc ms D cy n ad sa tL tM As I o r I' o') (cw : vx_CSW R s args own index y bytes maxL ret hh ws { frames := fr, cells := mc, slots := ms, locals := lo } mc ms nA) (hE : tp_EV sa tL tM A s s.heap) (hK : va_K D vwCl (tp_ty cy) s) (hP : va_P D vwCl (tp_w cy n ad I o) H) (hD : va_D A (tp_w cy n ad I o)) (hS : va_S A s.heap H locs) (hA : ∀ q : Nat, s.heap.size ≤ q → A q)
    (hn : As.length = nA) (hls : ls.size = nL) (hst : st = As.reverse ++ rest) (hroom : (rest.map fun v => v.category).sum ≤ 8) (hdg : decode cc pc = .ok (.invokestatic index, 3)) (hcs : cells + mc ≤ R.cells ∧ slots + ms ≤ R.slots)
    (kk : ∀ (H1 : Heap) (locs1 : List Loc), va_P D vwCl (tp_w cy n ad I' o') H1 → va_D A (tp_w cy n ad I' o') → va_S A s.heap H1 locs1 → W p l e R s m args below meth c H1 locs1 (cells + mc) (slots + ms) Q (F0 m (pc + 3) ls (.int r :: rest))) : W p l e R s m args below meth c H locs cells slots Q (F0 m pc ls st) := by
  subst hst
  have hF := tp_fr hD hS hA
  refine va_calli (vx_runSW (As := As) (rest := rest) S (hM H.size) cw ⟨tp_blindE, fun U hU hW => ⟨rfl, ⟨by rw [hU], by rw [hU]; exact hP, va_K.moved hW.alike hK, hD.weaken (fun _ _ _ _ => trivial)⟩, tp_EV.go hE hW hU hS hF⟩⟩ rfl hn hls rfl (lv_room hroom) hdg hcs) hS (fun q _ h => hF q h) hF (fun r1 u t H1 locs1 ht hvm hw hB hz1 hk1 hS1 => ?_)
  obtain ⟨rfl, rfl⟩ := hw
  obtain ⟨hP1, hK1, hD1⟩ := hB
  rw [ht] at hP1
  exact kk H1 locs1 hP1 (hD1.weaken (fun _ _ _ h => hF _ h)) hS1
/-- an int of the script -/
theorem tp_sld {b L : Nat} {xs : Nat → Int32} {x : Int32} (hx : p.tables.exec = Jvm.exec) (hb : c.code = cc) (hX : va_X b L xs s H0) (hbl : b < H0.size) (hbA : ¬ A b) (hS : va_S A H0 H locs) (j : Nat) (hj : x = nI j) (hlt : j < L) (hN : L ≤ 2560) (hdg : decode cc pc = .ok (.iaload, 1))
    (kk : W p l e R s m args below meth c H locs cells slots Q (F0 m (pc + 1) ls (.int (xs j) :: rest))) : W p l e R s m args below meth c H locs cells slots Q (F0 m pc ls (.int x :: .ref b :: rest)) := by
  subst hj
  refine va_sld hx hb hX hbl hbA hS (vp_in_nI hlt (by omega)) hdg ?_
  rw [nI_clamp (by omega)]
  exact kk
end TPW2
set_option maxHeartbeats 4000000 in
set_option maxRecDepth 100000 in
/-- the case of add -/
theorem lc_add (l : Launch) {p : Program} {e : Env} {s : State} {m : MethodId} {below : List Frame} {meth : Method} {c : Code} {b L i : Nat} {xs : Nat → Int32} (C0 : tp_CX p s m meth c b L xs) (hi : i + 5 ≤ L) (hL : L ≤ 2560) {D : va_G} {cy : Nat → ClassId} {n : Nat} {ad : Nat → Nat} {I : Nat → Nat → Int32} {o : Int64} {sa : Nat → Nat} {tL tM : Nat} {H : Heap} {locs : List Loc} {cells slots : Nat} {Q : State → Prop} {ls : Array Slot}
    (hE : tp_EV sa tL tM (tp_Al s) s s.heap) (hK : va_K D vwCl (tp_ty cy) s) (hW0 : tp_Wd D cy n ad I o s H locs) (hcs : cells + 100 ≤ 601024 ∧ slots + 1000 ≤ 7293034) (hl : lv_has ls 7 (tp_lv b ad i)) {P : (Nat → Nat → Int32) → Prop}
    (hJ : tp_J l yL_add wsL_add yX2_add wsX2_add D cy n ad sa tL tM [.ref (ad 0), .ref (ad 13)] [.ref (ad 2)] (fun z => z.toInt64) I o P)
    (kk : ∀ (I2 : Nat → Nat → Int32) (o1 : Int64) (H1 : Heap) (locs1 : List Loc) (ls1 : Array Slot), P I2 → tp_Wd D cy n ad I2 o1 s H1 locs1 → lv_has ls1 7 (tp_lv b ad i) → W p l e room_1 s m #[Value.ref b] below meth c H1 locs1 (cells + 1) (slots + 6) Q (F0 m 1201 ls1 [])) : W p l e room_1 s m #[Value.ref b] below meth c H locs cells slots Q (F0 m 124 ls []) := by
  obtain ⟨hx, hb, hml, hown, hts, hX, hbl⟩ := C0
  obtain ⟨hP, hD, hS⟩ := hW0
  obtain ⟨fr, lo, mc, ms, fr2, lo2, k, r, I1, o1, I2, ⟨hr1, hr2, hr3, hr4, hr5, hr6⟩, hM1, hM2, hk, ho, hp2⟩ := hJ
  have hA : ∀ q : Nat, s.heap.size ≤ q → tp_Al s q := fun q h => h
  have hbA : ¬ tp_Al s b := Nat.not_le.mpr hbl
  change lv_has ls 7 [(4, .int (nI i)), (3, .ref (ad 13)), (2, .ref (ad 2)), (1, .ref (ad 0)), (0, .ref b)] at hl
  refine lv_aload_n hx hb dL_law_124 rfl (lv_at hl 3 rfl) ?_
  refine lv_aload_n hx hb dL_law_125 rfl (lv_at hl 1 rfl) ?_
  refine tp_callL (As := [.ref (ad 0), .ref (ad 13)]) (rest := []) ⟨hx, hb, hml, hown, hts⟩ hM1 (vx_cwSW 2 hts gL_law_L_add rfl rfl rfl (by decide +kernel) ⟨Nat.le_trans (Nat.add_le_add_right hr1 1) (Nat.le_of_ble_eq_true rfl), Nat.le_trans (Nat.add_le_add_left hr2 _) (Nat.le_of_ble_eq_true rfl)⟩) hE hK hP hD hS hA rfl hl.1 rfl (Nat.zero_le _) dL_law_126 ⟨Nat.le_trans (by omega : _ ≤ cells + 100) hcs.1, Nat.le_trans (by omega : _ ≤ slots + 1000) hcs.2⟩ (fun H locs hP hD hS => ?_)
  refine W.widen (k := cells + 1) (n := slots + 6) (by omega) (by omega) ?_
  refine lv_istore (lv' := (5, .int k) :: tp_lv b ad i) hx hb dL_law_129 hl (by decide) rfl (fun ls hl => ?_)
  refine lv_aload_n hx hb dL_law_131 rfl (lv_at hl 3 rfl) ?_
  refine tp_callV (As := []) (rest := []) ⟨hx, hb, hml, hown, hts⟩ hM2 (cwV 0 hts gL_law_X2_add rfl rfl rfl (by decide +kernel) ⟨Nat.le_trans (Nat.add_le_add_right hr5 1) (Nat.le_of_ble_eq_true rfl), Nat.le_trans (Nat.add_le_add_left hr6 _) (Nat.le_of_ble_eq_true rfl)⟩) hK hP hD hS hA 2 2 tp_e2 rfl rfl rfl hl.1 rfl (Nat.zero_le _) dL_law_132 ⟨Nat.le_trans (by omega : cells + 1 ≤ cells + 100) hcs.1, Nat.le_trans (by omega : slots + 6 ≤ slots + 1000) hcs.2⟩ (fun I9 e9 H locs hP hD hS => ?_)
  subst e9
  refine lv_istore (lv' := (6, .int r) :: (5, .int k) :: tp_lv b ad i) hx hb dL_law_135 hl (by decide) rfl (fun ls hl => ?_)
  refine lv_aload_n hx hb dL_law_137 rfl (lv_at hl 4 rfl) ?_
  refine tp_callV (As := []) (rest := []) ⟨hx, hb, hml, hown, hts⟩ (mc_thrown l D cy n ad o1 I2) (cwV 0 hts gL_law_X2_thrown rfl rfl rfl (by decide +kernel) ⟨(Nat.le_of_ble_eq_true rfl), (Nat.le_of_ble_eq_true rfl)⟩) hK hP hD hS hA 2 2 tp_e2 rfl rfl rfl hl.1 rfl (Nat.zero_le _) dL_law_138 ⟨Nat.le_trans (by omega : cells + 1 ≤ cells + 100) hcs.1, Nat.le_trans (by omega : slots + 6 ≤ slots + 1000) hcs.2⟩ (fun I9 e9 H locs hP hD hS => ?_)
  subst e9
  refine lv_iload hx hb dL_law_141 (lv_at hl 1 rfl) ?_
  refine lv_icmp_eq (tgt := 148) hx hb dL_law_143 (by decide) (fun c1 => ?_) (fun c1 => absurd hk c1)
  have hl5 : lv_has ls 7 (tp_lv b ad i) := lv_sub hl [2, 3, 4, 5, 6] rfl
  refine lv_iload hx hb dL_law_148 (lv_at hl 1 rfl) ?_
  refine lv_if_ne (tgt := 165) hx hb dL_law_150 (by decide) (fun c2 => ?_) (fun c2 => ?_)
  · refine lv_goto (tgt := 1201) hx hb dL_law_165 (by decide) ?_
    exact kk I2 o1 H locs ls hp2 ⟨hP, hD, hS⟩ hl5
  · have ho := ho (by first | exact c2 | exact Decidable.of_not_not c2)
    refine lv_aload_n hx hb dL_law_153 rfl (lv_at hl 3 rfl) ?_
    refine lv_iconst (v := 0) hx hb dL_law_154 (by decide) ?_
    refine va_lald hx hb hK hP 13 2 (tp_at (by omega)) rfl (vp_in_nI (n := 0) (by decide) (by decide)) dL_law_155 ?_
    refine lv_iload hx hb dL_law_156 (lv_at hl 0 rfl) ?_
    refine lv_i2l hx hb dL_law_158 rfl ?_
    refine W.lcmp hx hb dL_law_159 ?_
    refine lv_if_eq (tgt := 165) hx hb dL_law_160 (by decide) (fun c3 => ?_) (fun c3 => absurd ((lg_cmp_eq _ _).mpr ho) c3)
    refine lv_goto (tgt := 1201) hx hb dL_law_165 (by decide) ?_
    exact kk I2 o1 H locs ls hp2 ⟨hP, hD, hS⟩ hl5
set_option maxHeartbeats 4000000 in
set_option maxRecDepth 100000 in
/-- the case of tell -/
theorem lc_tell (l : Launch) {p : Program} {e : Env} {s : State} {m : MethodId} {below : List Frame} {meth : Method} {c : Code} {b L i : Nat} {xs : Nat → Int32} (C0 : tp_CX p s m meth c b L xs) (hi : i + 5 ≤ L) (hL : L ≤ 2560) {D : va_G} {cy : Nat → ClassId} {n : Nat} {ad : Nat → Nat} {I : Nat → Nat → Int32} {o : Int64} {sa : Nat → Nat} {tL tM : Nat} {H : Heap} {locs : List Loc} {cells slots : Nat} {Q : State → Prop} {ls : Array Slot}
    (hE : tp_EV sa tL tM (tp_Al s) s s.heap) (hK : va_K D vwCl (tp_ty cy) s) (hW0 : tp_Wd D cy n ad I o s H locs) (hcs : cells + 100 ≤ 601024 ∧ slots + 1000 ≤ 7293034) (hl : lv_has ls 7 (tp_lv b ad i)) {P : (Nat → Nat → Int32) → Prop}
    (hJ : tp_J l yL_tell wsL_tell yX2_tell wsX2_tell D cy n ad sa tL tM [.ref (ad 0), .int (xs (i + 1)), .int (xs (i + 2)), .int (xs (i + 3)), .int (xs (i + 4)), .ref (ad 13)] [.ref (ad 2), .int (xs (i + 1)), .int (xs (i + 2)), .int (xs (i + 3)), .int (xs (i + 4))] (fun z => z.toInt64) I o P)
    (kk : ∀ (I2 : Nat → Nat → Int32) (o1 : Int64) (H1 : Heap) (locs1 : List Loc) (ls1 : Array Slot), P I2 → tp_Wd D cy n ad I2 o1 s H1 locs1 → lv_has ls1 7 (tp_lv b ad i) → W p l e room_1 s m #[Value.ref b] below meth c H1 locs1 (cells + 1) (slots + 6) Q (F0 m 1201 ls1 [])) : W p l e room_1 s m #[Value.ref b] below meth c H locs cells slots Q (F0 m 168 ls []) := by
  obtain ⟨hx, hb, hml, hown, hts, hX, hbl⟩ := C0
  obtain ⟨hP, hD, hS⟩ := hW0
  obtain ⟨fr, lo, mc, ms, fr2, lo2, k, r, I1, o1, I2, ⟨hr1, hr2, hr3, hr4, hr5, hr6⟩, hM1, hM2, hk, ho, hp2⟩ := hJ
  have hA : ∀ q : Nat, s.heap.size ≤ q → tp_Al s q := fun q h => h
  have hbA : ¬ tp_Al s b := Nat.not_le.mpr hbl
  change lv_has ls 7 [(4, .int (nI i)), (3, .ref (ad 13)), (2, .ref (ad 2)), (1, .ref (ad 0)), (0, .ref b)] at hl
  refine lv_aload_n hx hb dL_law_168 rfl (lv_at hl 3 rfl) ?_
  refine lv_aload_n hx hb dL_law_169 rfl (lv_at hl 4 rfl) ?_
  refine lv_iload hx hb dL_law_170 (lv_at hl 0 rfl) ?_
  refine lv_iconst (v := 1) hx hb dL_law_172 (by decide) ?_
  refine lv_iadd hx hb dL_law_173 ?_
  refine tp_sld hx hb hX hbl hbA hS (i + 1) (nI_add i 1) (by omega) hL dL_law_174 ?_
  refine lv_aload_n hx hb dL_law_175 rfl (lv_at hl 4 rfl) ?_
  refine lv_iload hx hb dL_law_176 (lv_at hl 0 rfl) ?_
  refine lv_iconst (v := 2) hx hb dL_law_178 (by decide) ?_
  refine lv_iadd hx hb dL_law_179 ?_
  refine tp_sld hx hb hX hbl hbA hS (i + 2) (nI_add i 2) (by omega) hL dL_law_180 ?_
  refine lv_aload_n hx hb dL_law_181 rfl (lv_at hl 4 rfl) ?_
  refine lv_iload hx hb dL_law_182 (lv_at hl 0 rfl) ?_
  refine lv_iconst (v := 3) hx hb dL_law_184 (by decide) ?_
  refine lv_iadd hx hb dL_law_185 ?_
  refine tp_sld hx hb hX hbl hbA hS (i + 3) (nI_add i 3) (by omega) hL dL_law_186 ?_
  refine lv_aload_n hx hb dL_law_187 rfl (lv_at hl 4 rfl) ?_
  refine lv_iload hx hb dL_law_188 (lv_at hl 0 rfl) ?_
  refine lv_iconst (v := 4) hx hb dL_law_190 (by decide) ?_
  refine lv_iadd hx hb dL_law_191 ?_
  refine tp_sld hx hb hX hbl hbA hS (i + 4) (nI_add i 4) (by omega) hL dL_law_192 ?_
  refine lv_aload_n hx hb dL_law_193 rfl (lv_at hl 1 rfl) ?_
  refine tp_callL (As := [.ref (ad 0), .int (xs (i + 1)), .int (xs (i + 2)), .int (xs (i + 3)), .int (xs (i + 4)), .ref (ad 13)]) (rest := []) ⟨hx, hb, hml, hown, hts⟩ hM1 (vx_cwSW 6 hts gL_law_L_tell rfl rfl rfl (by decide +kernel) ⟨Nat.le_trans (Nat.add_le_add_right hr1 1) (Nat.le_of_ble_eq_true rfl), Nat.le_trans (Nat.add_le_add_left hr2 _) (Nat.le_of_ble_eq_true rfl)⟩) hE hK hP hD hS hA rfl hl.1 rfl (Nat.zero_le _) dL_law_194 ⟨Nat.le_trans (by omega : _ ≤ cells + 100) hcs.1, Nat.le_trans (by omega : _ ≤ slots + 1000) hcs.2⟩ (fun H locs hP hD hS => ?_)
  refine W.widen (k := cells + 1) (n := slots + 6) (by omega) (by omega) ?_
  refine lv_istore (lv' := (5, .int k) :: tp_lv b ad i) hx hb dL_law_197 hl (by decide) rfl (fun ls hl => ?_)
  refine lv_aload_n hx hb dL_law_199 rfl (lv_at hl 3 rfl) ?_
  refine lv_aload_n hx hb dL_law_200 rfl (lv_at hl 5 rfl) ?_
  refine lv_iload hx hb dL_law_201 (lv_at hl 1 rfl) ?_
  refine lv_iconst (v := 1) hx hb dL_law_203 (by decide) ?_
  refine lv_iadd hx hb dL_law_204 ?_
  refine tp_sld hx hb hX hbl hbA hS (i + 1) (nI_add i 1) (by omega) hL dL_law_205 ?_
  refine lv_aload_n hx hb dL_law_206 rfl (lv_at hl 5 rfl) ?_
  refine lv_iload hx hb dL_law_207 (lv_at hl 1 rfl) ?_
  refine lv_iconst (v := 2) hx hb dL_law_209 (by decide) ?_
  refine lv_iadd hx hb dL_law_210 ?_
  refine tp_sld hx hb hX hbl hbA hS (i + 2) (nI_add i 2) (by omega) hL dL_law_211 ?_
  refine lv_aload_n hx hb dL_law_212 rfl (lv_at hl 5 rfl) ?_
  refine lv_iload hx hb dL_law_213 (lv_at hl 1 rfl) ?_
  refine lv_iconst (v := 3) hx hb dL_law_215 (by decide) ?_
  refine lv_iadd hx hb dL_law_216 ?_
  refine tp_sld hx hb hX hbl hbA hS (i + 3) (nI_add i 3) (by omega) hL dL_law_217 ?_
  refine lv_aload_n hx hb dL_law_218 rfl (lv_at hl 5 rfl) ?_
  refine lv_iload hx hb dL_law_219 (lv_at hl 1 rfl) ?_
  refine lv_iconst (v := 4) hx hb dL_law_221 (by decide) ?_
  refine lv_iadd hx hb dL_law_222 ?_
  refine tp_sld hx hb hX hbl hbA hS (i + 4) (nI_add i 4) (by omega) hL dL_law_223 ?_
  refine tp_callV (As := [.int (xs (i + 1)), .int (xs (i + 2)), .int (xs (i + 3)), .int (xs (i + 4))]) (rest := []) ⟨hx, hb, hml, hown, hts⟩ hM2 (cwV 4 hts gL_law_X2_tell rfl rfl rfl (by decide +kernel) ⟨Nat.le_trans (Nat.add_le_add_right hr5 1) (Nat.le_of_ble_eq_true rfl), Nat.le_trans (Nat.add_le_add_left hr6 _) (Nat.le_of_ble_eq_true rfl)⟩) hK hP hD hS hA 2 2 tp_e2 rfl rfl rfl hl.1 rfl (Nat.zero_le _) dL_law_224 ⟨Nat.le_trans (by omega : cells + 1 ≤ cells + 100) hcs.1, Nat.le_trans (by omega : slots + 6 ≤ slots + 1000) hcs.2⟩ (fun I9 e9 H locs hP hD hS => ?_)
  subst e9
  refine lv_istore (lv' := (6, .int r) :: (5, .int k) :: tp_lv b ad i) hx hb dL_law_227 hl (by decide) rfl (fun ls hl => ?_)
  refine lv_aload_n hx hb dL_law_229 rfl (lv_at hl 4 rfl) ?_
  refine tp_callV (As := []) (rest := []) ⟨hx, hb, hml, hown, hts⟩ (mc_thrown l D cy n ad o1 I2) (cwV 0 hts gL_law_X2_thrown rfl rfl rfl (by decide +kernel) ⟨(Nat.le_of_ble_eq_true rfl), (Nat.le_of_ble_eq_true rfl)⟩) hK hP hD hS hA 2 2 tp_e2 rfl rfl rfl hl.1 rfl (Nat.zero_le _) dL_law_230 ⟨Nat.le_trans (by omega : cells + 1 ≤ cells + 100) hcs.1, Nat.le_trans (by omega : slots + 6 ≤ slots + 1000) hcs.2⟩ (fun I9 e9 H locs hP hD hS => ?_)
  subst e9
  refine lv_iload hx hb dL_law_233 (lv_at hl 1 rfl) ?_
  refine lv_icmp_eq (tgt := 240) hx hb dL_law_235 (by decide) (fun c1 => ?_) (fun c1 => absurd hk c1)
  have hl5 : lv_has ls 7 (tp_lv b ad i) := lv_sub hl [2, 3, 4, 5, 6] rfl
  refine lv_iload hx hb dL_law_240 (lv_at hl 1 rfl) ?_
  refine lv_if_ne (tgt := 257) hx hb dL_law_242 (by decide) (fun c2 => ?_) (fun c2 => ?_)
  · refine lv_goto (tgt := 1201) hx hb dL_law_257 (by decide) ?_
    exact kk I2 o1 H locs ls hp2 ⟨hP, hD, hS⟩ hl5
  · have ho := ho (by first | exact c2 | exact Decidable.of_not_not c2)
    refine lv_aload_n hx hb dL_law_245 rfl (lv_at hl 3 rfl) ?_
    refine lv_iconst (v := 0) hx hb dL_law_246 (by decide) ?_
    refine va_lald hx hb hK hP 13 2 (tp_at (by omega)) rfl (vp_in_nI (n := 0) (by decide) (by decide)) dL_law_247 ?_
    refine lv_iload hx hb dL_law_248 (lv_at hl 0 rfl) ?_
    refine lv_i2l hx hb dL_law_250 rfl ?_
    refine W.lcmp hx hb dL_law_251 ?_
    refine lv_if_eq (tgt := 257) hx hb dL_law_252 (by decide) (fun c3 => ?_) (fun c3 => absurd ((lg_cmp_eq _ _).mpr ho) c3)
    refine lv_goto (tgt := 1201) hx hb dL_law_257 (by decide) ?_
    exact kk I2 o1 H locs ls hp2 ⟨hP, hD, hS⟩ hl5
set_option maxHeartbeats 4000000 in
set_option maxRecDepth 100000 in
/-- the case of dispute -/
theorem lc_dispute (l : Launch) {p : Program} {e : Env} {s : State} {m : MethodId} {below : List Frame} {meth : Method} {c : Code} {b L i : Nat} {xs : Nat → Int32} (C0 : tp_CX p s m meth c b L xs) (hi : i + 5 ≤ L) (hL : L ≤ 2560) {D : va_G} {cy : Nat → ClassId} {n : Nat} {ad : Nat → Nat} {I : Nat → Nat → Int32} {o : Int64} {sa : Nat → Nat} {tL tM : Nat} {H : Heap} {locs : List Loc} {cells slots : Nat} {Q : State → Prop} {ls : Array Slot}
    (hE : tp_EV sa tL tM (tp_Al s) s s.heap) (hK : va_K D vwCl (tp_ty cy) s) (hW0 : tp_Wd D cy n ad I o s H locs) (hcs : cells + 100 ≤ 601024 ∧ slots + 1000 ≤ 7293034) (hl : lv_has ls 7 (tp_lv b ad i)) {P : (Nat → Nat → Int32) → Prop}
    (hJ : tp_J l yL_dispute wsL_dispute yX2_dispute wsX2_dispute D cy n ad sa tL tM [.ref (ad 0), .int (xs (i + 1)), .int (if xs (i + 2) = 0 then 0 else 1), .ref (ad 13)] [.ref (ad 2), .int (xs (i + 1)), .int (if xs (i + 2) = 0 then 0 else 1)] (fun z => if z = 0 then 0 else 1) I o P)
    (kk : ∀ (I2 : Nat → Nat → Int32) (o1 : Int64) (H1 : Heap) (locs1 : List Loc) (ls1 : Array Slot), P I2 → tp_Wd D cy n ad I2 o1 s H1 locs1 → lv_has ls1 7 (tp_lv b ad i) → W p l e room_1 s m #[Value.ref b] below meth c H1 locs1 (cells + 1) (slots + 6) Q (F0 m 1201 ls1 [])) : W p l e room_1 s m #[Value.ref b] below meth c H locs cells slots Q (F0 m 260 ls []) := by
  obtain ⟨hx, hb, hml, hown, hts, hX, hbl⟩ := C0
  obtain ⟨hP, hD, hS⟩ := hW0
  obtain ⟨fr, lo, mc, ms, fr2, lo2, k, r, I1, o1, I2, ⟨hr1, hr2, hr3, hr4, hr5, hr6⟩, hM1, hM2, hk, ho, hp2⟩ := hJ
  have hA : ∀ q : Nat, s.heap.size ≤ q → tp_Al s q := fun q h => h
  have hbA : ¬ tp_Al s b := Nat.not_le.mpr hbl
  change lv_has ls 7 [(4, .int (nI i)), (3, .ref (ad 13)), (2, .ref (ad 2)), (1, .ref (ad 0)), (0, .ref b)] at hl
  refine lv_aload_n hx hb dL_law_260 rfl (lv_at hl 3 rfl) ?_
  refine lv_aload_n hx hb dL_law_261 rfl (lv_at hl 4 rfl) ?_
  refine lv_iload hx hb dL_law_262 (lv_at hl 0 rfl) ?_
  refine lv_iconst (v := 1) hx hb dL_law_264 (by decide) ?_
  refine lv_iadd hx hb dL_law_265 ?_
  refine tp_sld hx hb hX hbl hbA hS (i + 1) (nI_add i 1) (by omega) hL dL_law_266 ?_
  refine lv_aload_n hx hb dL_law_267 rfl (lv_at hl 4 rfl) ?_
  refine lv_iload hx hb dL_law_268 (lv_at hl 0 rfl) ?_
  refine lv_iconst (v := 2) hx hb dL_law_270 (by decide) ?_
  refine lv_iadd hx hb dL_law_271 ?_
  refine tp_sld hx hb hX hbl hbA hS (i + 2) (nI_add i 2) (by omega) hL dL_law_272 ?_
  refine tp_meet (if xs (i + 2) = 0 then 0 else 1 : Int32) (fun z => F0 m 281 ls (.int z :: [.int (xs (i + 1)), .ref (ad 0)])) (fun hj => ?_) ?_
  · refine lv_if_eq (tgt := 280) hx hb dL_law_273 (by decide) (fun c8 => ?_) (fun c8 => ?_)
    · refine lv_iconst (v := 0) hx hb dL_law_280 (by decide) ?_
      exact hj _ (by rw [if_pos c8])
    · refine lv_iconst (v := 1) hx hb dL_law_276 (by decide) ?_
      refine lv_goto (tgt := 281) hx hb dL_law_277 (by decide) ?_
      exact hj _ (by rw [if_neg c8])
  refine lv_aload_n hx hb dL_law_281 rfl (lv_at hl 1 rfl) ?_
  refine tp_callL (As := [.ref (ad 0), .int (xs (i + 1)), .int (if xs (i + 2) = 0 then 0 else 1), .ref (ad 13)]) (rest := []) ⟨hx, hb, hml, hown, hts⟩ hM1 (vx_cwSW 4 hts gL_law_L_dispute rfl rfl rfl (by decide +kernel) ⟨Nat.le_trans (Nat.add_le_add_right hr1 1) (Nat.le_of_ble_eq_true rfl), Nat.le_trans (Nat.add_le_add_left hr2 _) (Nat.le_of_ble_eq_true rfl)⟩) hE hK hP hD hS hA rfl hl.1 rfl (Nat.zero_le _) dL_law_282 ⟨Nat.le_trans (by omega : _ ≤ cells + 100) hcs.1, Nat.le_trans (by omega : _ ≤ slots + 1000) hcs.2⟩ (fun H locs hP hD hS => ?_)
  refine W.widen (k := cells + 1) (n := slots + 6) (by omega) (by omega) ?_
  refine lv_istore (lv' := (5, .int k) :: tp_lv b ad i) hx hb dL_law_285 hl (by decide) rfl (fun ls hl => ?_)
  refine lv_aload_n hx hb dL_law_287 rfl (lv_at hl 3 rfl) ?_
  refine lv_aload_n hx hb dL_law_288 rfl (lv_at hl 5 rfl) ?_
  refine lv_iload hx hb dL_law_289 (lv_at hl 1 rfl) ?_
  refine lv_iconst (v := 1) hx hb dL_law_291 (by decide) ?_
  refine lv_iadd hx hb dL_law_292 ?_
  refine tp_sld hx hb hX hbl hbA hS (i + 1) (nI_add i 1) (by omega) hL dL_law_293 ?_
  refine lv_aload_n hx hb dL_law_294 rfl (lv_at hl 5 rfl) ?_
  refine lv_iload hx hb dL_law_295 (lv_at hl 1 rfl) ?_
  refine lv_iconst (v := 2) hx hb dL_law_297 (by decide) ?_
  refine lv_iadd hx hb dL_law_298 ?_
  refine tp_sld hx hb hX hbl hbA hS (i + 2) (nI_add i 2) (by omega) hL dL_law_299 ?_
  refine tp_meet (if xs (i + 2) = 0 then 0 else 1 : Int32) (fun z => F0 m 308 ls (.int z :: [.int (xs (i + 1)), .ref (ad 2)])) (fun hj => ?_) ?_
  · refine lv_if_eq (tgt := 307) hx hb dL_law_300 (by decide) (fun c8 => ?_) (fun c8 => ?_)
    · refine lv_iconst (v := 0) hx hb dL_law_307 (by decide) ?_
      exact hj _ (by rw [if_pos c8])
    · refine lv_iconst (v := 1) hx hb dL_law_303 (by decide) ?_
      refine lv_goto (tgt := 308) hx hb dL_law_304 (by decide) ?_
      exact hj _ (by rw [if_neg c8])
  refine tp_callV (As := [.int (xs (i + 1)), .int (if xs (i + 2) = 0 then 0 else 1)]) (rest := []) ⟨hx, hb, hml, hown, hts⟩ hM2 (cwV 2 hts gL_law_X2_dispute rfl rfl rfl (by decide +kernel) ⟨Nat.le_trans (Nat.add_le_add_right hr5 1) (Nat.le_of_ble_eq_true rfl), Nat.le_trans (Nat.add_le_add_left hr6 _) (Nat.le_of_ble_eq_true rfl)⟩) hK hP hD hS hA 2 2 tp_e2 rfl rfl rfl hl.1 rfl (Nat.zero_le _) dL_law_308 ⟨Nat.le_trans (by omega : cells + 1 ≤ cells + 100) hcs.1, Nat.le_trans (by omega : slots + 6 ≤ slots + 1000) hcs.2⟩ (fun I9 e9 H locs hP hD hS => ?_)
  subst e9
  refine lv_istore (lv' := (6, .int r) :: (5, .int k) :: tp_lv b ad i) hx hb dL_law_311 hl (by decide) rfl (fun ls hl => ?_)
  refine lv_aload_n hx hb dL_law_313 rfl (lv_at hl 4 rfl) ?_
  refine tp_callV (As := []) (rest := []) ⟨hx, hb, hml, hown, hts⟩ (mc_thrown l D cy n ad o1 I2) (cwV 0 hts gL_law_X2_thrown rfl rfl rfl (by decide +kernel) ⟨(Nat.le_of_ble_eq_true rfl), (Nat.le_of_ble_eq_true rfl)⟩) hK hP hD hS hA 2 2 tp_e2 rfl rfl rfl hl.1 rfl (Nat.zero_le _) dL_law_314 ⟨Nat.le_trans (by omega : cells + 1 ≤ cells + 100) hcs.1, Nat.le_trans (by omega : slots + 6 ≤ slots + 1000) hcs.2⟩ (fun I9 e9 H locs hP hD hS => ?_)
  subst e9
  refine lv_iload hx hb dL_law_317 (lv_at hl 1 rfl) ?_
  refine lv_icmp_eq (tgt := 324) hx hb dL_law_319 (by decide) (fun c1 => ?_) (fun c1 => absurd hk c1)
  have hl5 : lv_has ls 7 (tp_lv b ad i) := lv_sub hl [2, 3, 4, 5, 6] rfl
  refine lv_iload hx hb dL_law_324 (lv_at hl 1 rfl) ?_
  refine lv_if_ne (tgt := 348) hx hb dL_law_326 (by decide) (fun c2 => ?_) (fun c2 => ?_)
  · refine lv_goto (tgt := 1201) hx hb dL_law_348 (by decide) ?_
    exact kk I2 o1 H locs ls hp2 ⟨hP, hD, hS⟩ hl5
  · have ho := ho (by first | exact c2 | exact Decidable.of_not_not c2)
    refine lv_aload_n hx hb dL_law_329 rfl (lv_at hl 3 rfl) ?_
    refine lv_iconst (v := 0) hx hb dL_law_330 (by decide) ?_
    refine va_lald hx hb hK hP 13 2 (tp_at (by omega)) rfl (vp_in_nI (n := 0) (by decide) (by decide)) dL_law_331 ?_
    refine lv_iload hx hb dL_law_332 (lv_at hl 0 rfl) ?_
    refine tp_meet (if r = 0 then 0 else 1 : Int64) (fun z => F0 m 342 ls (.long z :: [.long o1])) (fun hj => ?_) ?_
    · refine lv_if_eq (tgt := 341) hx hb dL_law_334 (by decide) (fun c8 => ?_) (fun c8 => ?_)
      · refine lv_lconst (v := 0) hx hb dL_law_341 (by decide) ?_
        exact hj _ (by rw [if_pos c8])
      · refine lv_lconst (v := 1) hx hb dL_law_337 (by decide) ?_
        refine lv_goto (tgt := 342) hx hb dL_law_338 (by decide) ?_
        exact hj _ (by rw [if_neg c8])
    refine W.lcmp hx hb dL_law_342 ?_
    refine lv_if_eq (tgt := 348) hx hb dL_law_343 (by decide) (fun c3 => ?_) (fun c3 => absurd ((lg_cmp_eq _ _).mpr ho) c3)
    refine lv_goto (tgt := 1201) hx hb dL_law_348 (by decide) ?_
    exact kk I2 o1 H locs ls hp2 ⟨hP, hD, hS⟩ hl5
set_option maxHeartbeats 4000000 in
set_option maxRecDepth 100000 in
/-- the case of payBack -/
theorem lc_payBack (l : Launch) {p : Program} {e : Env} {s : State} {m : MethodId} {below : List Frame} {meth : Method} {c : Code} {b L i : Nat} {xs : Nat → Int32} (C0 : tp_CX p s m meth c b L xs) (hi : i + 5 ≤ L) (hL : L ≤ 2560) {D : va_G} {cy : Nat → ClassId} {n : Nat} {ad : Nat → Nat} {I : Nat → Nat → Int32} {o : Int64} {sa : Nat → Nat} {tL tM : Nat} {H : Heap} {locs : List Loc} {cells slots : Nat} {Q : State → Prop} {ls : Array Slot}
    (hE : tp_EV sa tL tM (tp_Al s) s s.heap) (hK : va_K D vwCl (tp_ty cy) s) (hW0 : tp_Wd D cy n ad I o s H locs) (hcs : cells + 100 ≤ 601024 ∧ slots + 1000 ≤ 7293034) (hl : lv_has ls 7 (tp_lv b ad i)) {P : (Nat → Nat → Int32) → Prop}
    (hJ : tp_J l yL_payBack wsL_payBack yX2_payBack wsX2_payBack D cy n ad sa tL tM [.ref (ad 0), .int (xs (i + 1)), .int (xs (i + 2)), .ref (ad 13)] [.ref (ad 2), .int (xs (i + 1)), .int (xs (i + 2))] (fun z => z.toInt64) I o P)
    (kk : ∀ (I2 : Nat → Nat → Int32) (o1 : Int64) (H1 : Heap) (locs1 : List Loc) (ls1 : Array Slot), P I2 → tp_Wd D cy n ad I2 o1 s H1 locs1 → lv_has ls1 7 (tp_lv b ad i) → W p l e room_1 s m #[Value.ref b] below meth c H1 locs1 (cells + 1) (slots + 6) Q (F0 m 1201 ls1 [])) : W p l e room_1 s m #[Value.ref b] below meth c H locs cells slots Q (F0 m 351 ls []) := by
  obtain ⟨hx, hb, hml, hown, hts, hX, hbl⟩ := C0
  obtain ⟨hP, hD, hS⟩ := hW0
  obtain ⟨fr, lo, mc, ms, fr2, lo2, k, r, I1, o1, I2, ⟨hr1, hr2, hr3, hr4, hr5, hr6⟩, hM1, hM2, hk, ho, hp2⟩ := hJ
  have hA : ∀ q : Nat, s.heap.size ≤ q → tp_Al s q := fun q h => h
  have hbA : ¬ tp_Al s b := Nat.not_le.mpr hbl
  change lv_has ls 7 [(4, .int (nI i)), (3, .ref (ad 13)), (2, .ref (ad 2)), (1, .ref (ad 0)), (0, .ref b)] at hl
  refine lv_aload_n hx hb dL_law_351 rfl (lv_at hl 3 rfl) ?_
  refine lv_aload_n hx hb dL_law_352 rfl (lv_at hl 4 rfl) ?_
  refine lv_iload hx hb dL_law_353 (lv_at hl 0 rfl) ?_
  refine lv_iconst (v := 1) hx hb dL_law_355 (by decide) ?_
  refine lv_iadd hx hb dL_law_356 ?_
  refine tp_sld hx hb hX hbl hbA hS (i + 1) (nI_add i 1) (by omega) hL dL_law_357 ?_
  refine lv_aload_n hx hb dL_law_358 rfl (lv_at hl 4 rfl) ?_
  refine lv_iload hx hb dL_law_359 (lv_at hl 0 rfl) ?_
  refine lv_iconst (v := 2) hx hb dL_law_361 (by decide) ?_
  refine lv_iadd hx hb dL_law_362 ?_
  refine tp_sld hx hb hX hbl hbA hS (i + 2) (nI_add i 2) (by omega) hL dL_law_363 ?_
  refine lv_aload_n hx hb dL_law_364 rfl (lv_at hl 1 rfl) ?_
  refine tp_callL (As := [.ref (ad 0), .int (xs (i + 1)), .int (xs (i + 2)), .ref (ad 13)]) (rest := []) ⟨hx, hb, hml, hown, hts⟩ hM1 (vx_cwSW 4 hts gL_law_L_payBack rfl rfl rfl (by decide +kernel) ⟨Nat.le_trans (Nat.add_le_add_right hr1 1) (Nat.le_of_ble_eq_true rfl), Nat.le_trans (Nat.add_le_add_left hr2 _) (Nat.le_of_ble_eq_true rfl)⟩) hE hK hP hD hS hA rfl hl.1 rfl (Nat.zero_le _) dL_law_365 ⟨Nat.le_trans (by omega : _ ≤ cells + 100) hcs.1, Nat.le_trans (by omega : _ ≤ slots + 1000) hcs.2⟩ (fun H locs hP hD hS => ?_)
  refine W.widen (k := cells + 1) (n := slots + 6) (by omega) (by omega) ?_
  refine lv_istore (lv' := (5, .int k) :: tp_lv b ad i) hx hb dL_law_368 hl (by decide) rfl (fun ls hl => ?_)
  refine lv_aload_n hx hb dL_law_370 rfl (lv_at hl 3 rfl) ?_
  refine lv_aload_n hx hb dL_law_371 rfl (lv_at hl 5 rfl) ?_
  refine lv_iload hx hb dL_law_372 (lv_at hl 1 rfl) ?_
  refine lv_iconst (v := 1) hx hb dL_law_374 (by decide) ?_
  refine lv_iadd hx hb dL_law_375 ?_
  refine tp_sld hx hb hX hbl hbA hS (i + 1) (nI_add i 1) (by omega) hL dL_law_376 ?_
  refine lv_aload_n hx hb dL_law_377 rfl (lv_at hl 5 rfl) ?_
  refine lv_iload hx hb dL_law_378 (lv_at hl 1 rfl) ?_
  refine lv_iconst (v := 2) hx hb dL_law_380 (by decide) ?_
  refine lv_iadd hx hb dL_law_381 ?_
  refine tp_sld hx hb hX hbl hbA hS (i + 2) (nI_add i 2) (by omega) hL dL_law_382 ?_
  refine tp_callV (As := [.int (xs (i + 1)), .int (xs (i + 2))]) (rest := []) ⟨hx, hb, hml, hown, hts⟩ hM2 (cwV 2 hts gL_law_X2_payBack rfl rfl rfl (by decide +kernel) ⟨Nat.le_trans (Nat.add_le_add_right hr5 1) (Nat.le_of_ble_eq_true rfl), Nat.le_trans (Nat.add_le_add_left hr6 _) (Nat.le_of_ble_eq_true rfl)⟩) hK hP hD hS hA 2 2 tp_e2 rfl rfl rfl hl.1 rfl (Nat.zero_le _) dL_law_383 ⟨Nat.le_trans (by omega : cells + 1 ≤ cells + 100) hcs.1, Nat.le_trans (by omega : slots + 6 ≤ slots + 1000) hcs.2⟩ (fun I9 e9 H locs hP hD hS => ?_)
  subst e9
  refine lv_istore (lv' := (6, .int r) :: (5, .int k) :: tp_lv b ad i) hx hb dL_law_386 hl (by decide) rfl (fun ls hl => ?_)
  refine lv_aload_n hx hb dL_law_388 rfl (lv_at hl 4 rfl) ?_
  refine tp_callV (As := []) (rest := []) ⟨hx, hb, hml, hown, hts⟩ (mc_thrown l D cy n ad o1 I2) (cwV 0 hts gL_law_X2_thrown rfl rfl rfl (by decide +kernel) ⟨(Nat.le_of_ble_eq_true rfl), (Nat.le_of_ble_eq_true rfl)⟩) hK hP hD hS hA 2 2 tp_e2 rfl rfl rfl hl.1 rfl (Nat.zero_le _) dL_law_389 ⟨Nat.le_trans (by omega : cells + 1 ≤ cells + 100) hcs.1, Nat.le_trans (by omega : slots + 6 ≤ slots + 1000) hcs.2⟩ (fun I9 e9 H locs hP hD hS => ?_)
  subst e9
  refine lv_iload hx hb dL_law_392 (lv_at hl 1 rfl) ?_
  refine lv_icmp_eq (tgt := 399) hx hb dL_law_394 (by decide) (fun c1 => ?_) (fun c1 => absurd hk c1)
  have hl5 : lv_has ls 7 (tp_lv b ad i) := lv_sub hl [2, 3, 4, 5, 6] rfl
  refine lv_iload hx hb dL_law_399 (lv_at hl 1 rfl) ?_
  refine lv_if_ne (tgt := 416) hx hb dL_law_401 (by decide) (fun c2 => ?_) (fun c2 => ?_)
  · refine lv_goto (tgt := 1201) hx hb dL_law_416 (by decide) ?_
    exact kk I2 o1 H locs ls hp2 ⟨hP, hD, hS⟩ hl5
  · have ho := ho (by first | exact c2 | exact Decidable.of_not_not c2)
    refine lv_aload_n hx hb dL_law_404 rfl (lv_at hl 3 rfl) ?_
    refine lv_iconst (v := 0) hx hb dL_law_405 (by decide) ?_
    refine va_lald hx hb hK hP 13 2 (tp_at (by omega)) rfl (vp_in_nI (n := 0) (by decide) (by decide)) dL_law_406 ?_
    refine lv_iload hx hb dL_law_407 (lv_at hl 0 rfl) ?_
    refine lv_i2l hx hb dL_law_409 rfl ?_
    refine W.lcmp hx hb dL_law_410 ?_
    refine lv_if_eq (tgt := 416) hx hb dL_law_411 (by decide) (fun c3 => ?_) (fun c3 => absurd ((lg_cmp_eq _ _).mpr ho) c3)
    refine lv_goto (tgt := 1201) hx hb dL_law_416 (by decide) ?_
    exact kk I2 o1 H locs ls hp2 ⟨hP, hD, hS⟩ hl5
set_option maxHeartbeats 4000000 in
set_option maxRecDepth 100000 in
/-- the case of close -/
theorem lc_close (l : Launch) {p : Program} {e : Env} {s : State} {m : MethodId} {below : List Frame} {meth : Method} {c : Code} {b L i : Nat} {xs : Nat → Int32} (C0 : tp_CX p s m meth c b L xs) (hi : i + 5 ≤ L) (hL : L ≤ 2560) {D : va_G} {cy : Nat → ClassId} {n : Nat} {ad : Nat → Nat} {I : Nat → Nat → Int32} {o : Int64} {sa : Nat → Nat} {tL tM : Nat} {H : Heap} {locs : List Loc} {cells slots : Nat} {Q : State → Prop} {ls : Array Slot}
    (hE : tp_EV sa tL tM (tp_Al s) s s.heap) (hK : va_K D vwCl (tp_ty cy) s) (hW0 : tp_Wd D cy n ad I o s H locs) (hcs : cells + 100 ≤ 601024 ∧ slots + 1000 ≤ 7293034) (hl : lv_has ls 7 (tp_lv b ad i)) {P : (Nat → Nat → Int32) → Prop}
    (hJ : tp_J l yL_close wsL_close yX2_close wsX2_close D cy n ad sa tL tM [.ref (ad 0), .ref (ad 13)] [.ref (ad 2)] (fun z => z.toInt64) I o P)
    (kk : ∀ (I2 : Nat → Nat → Int32) (o1 : Int64) (H1 : Heap) (locs1 : List Loc) (ls1 : Array Slot), P I2 → tp_Wd D cy n ad I2 o1 s H1 locs1 → lv_has ls1 7 (tp_lv b ad i) → W p l e room_1 s m #[Value.ref b] below meth c H1 locs1 (cells + 1) (slots + 6) Q (F0 m 1201 ls1 [])) : W p l e room_1 s m #[Value.ref b] below meth c H locs cells slots Q (F0 m 432 ls []) := by
  obtain ⟨hx, hb, hml, hown, hts, hX, hbl⟩ := C0
  obtain ⟨hP, hD, hS⟩ := hW0
  obtain ⟨fr, lo, mc, ms, fr2, lo2, k, r, I1, o1, I2, ⟨hr1, hr2, hr3, hr4, hr5, hr6⟩, hM1, hM2, hk, ho, hp2⟩ := hJ
  have hA : ∀ q : Nat, s.heap.size ≤ q → tp_Al s q := fun q h => h
  have hbA : ¬ tp_Al s b := Nat.not_le.mpr hbl
  change lv_has ls 7 [(4, .int (nI i)), (3, .ref (ad 13)), (2, .ref (ad 2)), (1, .ref (ad 0)), (0, .ref b)] at hl
  refine lv_aload_n hx hb dL_law_432 rfl (lv_at hl 3 rfl) ?_
  refine lv_aload_n hx hb dL_law_433 rfl (lv_at hl 1 rfl) ?_
  refine tp_callL (As := [.ref (ad 0), .ref (ad 13)]) (rest := []) ⟨hx, hb, hml, hown, hts⟩ hM1 (vx_cwSW 2 hts gL_law_L_close rfl rfl rfl (by decide +kernel) ⟨Nat.le_trans (Nat.add_le_add_right hr1 1) (Nat.le_of_ble_eq_true rfl), Nat.le_trans (Nat.add_le_add_left hr2 _) (Nat.le_of_ble_eq_true rfl)⟩) hE hK hP hD hS hA rfl hl.1 rfl (Nat.zero_le _) dL_law_434 ⟨Nat.le_trans (by omega : _ ≤ cells + 100) hcs.1, Nat.le_trans (by omega : _ ≤ slots + 1000) hcs.2⟩ (fun H locs hP hD hS => ?_)
  refine W.widen (k := cells + 1) (n := slots + 6) (by omega) (by omega) ?_
  refine lv_istore (lv' := (5, .int k) :: tp_lv b ad i) hx hb dL_law_437 hl (by decide) rfl (fun ls hl => ?_)
  refine lv_aload_n hx hb dL_law_439 rfl (lv_at hl 3 rfl) ?_
  refine tp_callV (As := []) (rest := []) ⟨hx, hb, hml, hown, hts⟩ hM2 (cwV 0 hts gL_law_X2_close rfl rfl rfl (by decide +kernel) ⟨Nat.le_trans (Nat.add_le_add_right hr5 1) (Nat.le_of_ble_eq_true rfl), Nat.le_trans (Nat.add_le_add_left hr6 _) (Nat.le_of_ble_eq_true rfl)⟩) hK hP hD hS hA 2 2 tp_e2 rfl rfl rfl hl.1 rfl (Nat.zero_le _) dL_law_440 ⟨Nat.le_trans (by omega : cells + 1 ≤ cells + 100) hcs.1, Nat.le_trans (by omega : slots + 6 ≤ slots + 1000) hcs.2⟩ (fun I9 e9 H locs hP hD hS => ?_)
  subst e9
  refine lv_istore (lv' := (6, .int r) :: (5, .int k) :: tp_lv b ad i) hx hb dL_law_443 hl (by decide) rfl (fun ls hl => ?_)
  refine lv_aload_n hx hb dL_law_445 rfl (lv_at hl 4 rfl) ?_
  refine tp_callV (As := []) (rest := []) ⟨hx, hb, hml, hown, hts⟩ (mc_thrown l D cy n ad o1 I2) (cwV 0 hts gL_law_X2_thrown rfl rfl rfl (by decide +kernel) ⟨(Nat.le_of_ble_eq_true rfl), (Nat.le_of_ble_eq_true rfl)⟩) hK hP hD hS hA 2 2 tp_e2 rfl rfl rfl hl.1 rfl (Nat.zero_le _) dL_law_446 ⟨Nat.le_trans (by omega : cells + 1 ≤ cells + 100) hcs.1, Nat.le_trans (by omega : slots + 6 ≤ slots + 1000) hcs.2⟩ (fun I9 e9 H locs hP hD hS => ?_)
  subst e9
  refine lv_iload hx hb dL_law_449 (lv_at hl 1 rfl) ?_
  refine lv_icmp_eq (tgt := 456) hx hb dL_law_451 (by decide) (fun c1 => ?_) (fun c1 => absurd hk c1)
  have hl5 : lv_has ls 7 (tp_lv b ad i) := lv_sub hl [2, 3, 4, 5, 6] rfl
  refine lv_iload hx hb dL_law_456 (lv_at hl 1 rfl) ?_
  refine lv_if_ne (tgt := 473) hx hb dL_law_458 (by decide) (fun c2 => ?_) (fun c2 => ?_)
  · refine lv_goto (tgt := 1201) hx hb dL_law_473 (by decide) ?_
    exact kk I2 o1 H locs ls hp2 ⟨hP, hD, hS⟩ hl5
  · have ho := ho (by first | exact c2 | exact Decidable.of_not_not c2)
    refine lv_aload_n hx hb dL_law_461 rfl (lv_at hl 3 rfl) ?_
    refine lv_iconst (v := 0) hx hb dL_law_462 (by decide) ?_
    refine va_lald hx hb hK hP 13 2 (tp_at (by omega)) rfl (vp_in_nI (n := 0) (by decide) (by decide)) dL_law_463 ?_
    refine lv_iload hx hb dL_law_464 (lv_at hl 0 rfl) ?_
    refine lv_i2l hx hb dL_law_466 rfl ?_
    refine W.lcmp hx hb dL_law_467 ?_
    refine lv_if_eq (tgt := 473) hx hb dL_law_468 (by decide) (fun c3 => ?_) (fun c3 => absurd ((lg_cmp_eq _ _).mpr ho) c3)
    refine lv_goto (tgt := 1201) hx hb dL_law_473 (by decide) ?_
    exact kk I2 o1 H locs ls hp2 ⟨hP, hD, hS⟩ hl5
set_option maxHeartbeats 4000000 in
set_option maxRecDepth 100000 in
/-- the case of fact -/
theorem lc_fact (l : Launch) {p : Program} {e : Env} {s : State} {m : MethodId} {below : List Frame} {meth : Method} {c : Code} {b L i : Nat} {xs : Nat → Int32} (C0 : tp_CX p s m meth c b L xs) (hi : i + 5 ≤ L) (hL : L ≤ 2560) {D : va_G} {cy : Nat → ClassId} {n : Nat} {ad : Nat → Nat} {I : Nat → Nat → Int32} {o : Int64} {sa : Nat → Nat} {tL tM : Nat} {H : Heap} {locs : List Loc} {cells slots : Nat} {Q : State → Prop} {ls : Array Slot}
    (hE : tp_EV sa tL tM (tp_Al s) s s.heap) (hK : va_K D vwCl (tp_ty cy) s) (hW0 : tp_Wd D cy n ad I o s H locs) (hcs : cells + 100 ≤ 601024 ∧ slots + 1000 ≤ 7293034) (hl : lv_has ls 7 (tp_lv b ad i)) {P : (Nat → Nat → Int32) → Prop}
    (hJ : tp_J l yL_fact wsL_fact yX2_fact wsX2_fact D cy n ad sa tL tM [.ref (ad 0), .int (xs (i + 1)), .int (xs (i + 2)), .int (xs (i + 3)), .ref (ad 13)] [.ref (ad 2), .int (xs (i + 1)), .int (xs (i + 2)), .int (xs (i + 3))] (fun z => z.toInt64) I o P)
    (kk : ∀ (I2 : Nat → Nat → Int32) (o1 : Int64) (H1 : Heap) (locs1 : List Loc) (ls1 : Array Slot), P I2 → tp_Wd D cy n ad I2 o1 s H1 locs1 → lv_has ls1 7 (tp_lv b ad i) → W p l e room_1 s m #[Value.ref b] below meth c H1 locs1 (cells + 1) (slots + 6) Q (F0 m 1201 ls1 [])) : W p l e room_1 s m #[Value.ref b] below meth c H locs cells slots Q (F0 m 489 ls []) := by
  obtain ⟨hx, hb, hml, hown, hts, hX, hbl⟩ := C0
  obtain ⟨hP, hD, hS⟩ := hW0
  obtain ⟨fr, lo, mc, ms, fr2, lo2, k, r, I1, o1, I2, ⟨hr1, hr2, hr3, hr4, hr5, hr6⟩, hM1, hM2, hk, ho, hp2⟩ := hJ
  have hA : ∀ q : Nat, s.heap.size ≤ q → tp_Al s q := fun q h => h
  have hbA : ¬ tp_Al s b := Nat.not_le.mpr hbl
  change lv_has ls 7 [(4, .int (nI i)), (3, .ref (ad 13)), (2, .ref (ad 2)), (1, .ref (ad 0)), (0, .ref b)] at hl
  refine lv_aload_n hx hb dL_law_489 rfl (lv_at hl 3 rfl) ?_
  refine lv_aload_n hx hb dL_law_490 rfl (lv_at hl 4 rfl) ?_
  refine lv_iload hx hb dL_law_491 (lv_at hl 0 rfl) ?_
  refine lv_iconst (v := 1) hx hb dL_law_493 (by decide) ?_
  refine lv_iadd hx hb dL_law_494 ?_
  refine tp_sld hx hb hX hbl hbA hS (i + 1) (nI_add i 1) (by omega) hL dL_law_495 ?_
  refine lv_aload_n hx hb dL_law_496 rfl (lv_at hl 4 rfl) ?_
  refine lv_iload hx hb dL_law_497 (lv_at hl 0 rfl) ?_
  refine lv_iconst (v := 2) hx hb dL_law_499 (by decide) ?_
  refine lv_iadd hx hb dL_law_500 ?_
  refine tp_sld hx hb hX hbl hbA hS (i + 2) (nI_add i 2) (by omega) hL dL_law_501 ?_
  refine lv_aload_n hx hb dL_law_502 rfl (lv_at hl 4 rfl) ?_
  refine lv_iload hx hb dL_law_503 (lv_at hl 0 rfl) ?_
  refine lv_iconst (v := 3) hx hb dL_law_505 (by decide) ?_
  refine lv_iadd hx hb dL_law_506 ?_
  refine tp_sld hx hb hX hbl hbA hS (i + 3) (nI_add i 3) (by omega) hL dL_law_507 ?_
  refine lv_aload_n hx hb dL_law_508 rfl (lv_at hl 1 rfl) ?_
  refine tp_callL (As := [.ref (ad 0), .int (xs (i + 1)), .int (xs (i + 2)), .int (xs (i + 3)), .ref (ad 13)]) (rest := []) ⟨hx, hb, hml, hown, hts⟩ hM1 (vx_cwSW 5 hts gL_law_L_fact rfl rfl rfl (by decide +kernel) ⟨Nat.le_trans (Nat.add_le_add_right hr1 1) (Nat.le_of_ble_eq_true rfl), Nat.le_trans (Nat.add_le_add_left hr2 _) (Nat.le_of_ble_eq_true rfl)⟩) hE hK hP hD hS hA rfl hl.1 rfl (Nat.zero_le _) dL_law_509 ⟨Nat.le_trans (by omega : _ ≤ cells + 100) hcs.1, Nat.le_trans (by omega : _ ≤ slots + 1000) hcs.2⟩ (fun H locs hP hD hS => ?_)
  refine W.widen (k := cells + 1) (n := slots + 6) (by omega) (by omega) ?_
  refine lv_istore (lv' := (5, .int k) :: tp_lv b ad i) hx hb dL_law_512 hl (by decide) rfl (fun ls hl => ?_)
  refine lv_aload_n hx hb dL_law_514 rfl (lv_at hl 3 rfl) ?_
  refine lv_aload_n hx hb dL_law_515 rfl (lv_at hl 5 rfl) ?_
  refine lv_iload hx hb dL_law_516 (lv_at hl 1 rfl) ?_
  refine lv_iconst (v := 1) hx hb dL_law_518 (by decide) ?_
  refine lv_iadd hx hb dL_law_519 ?_
  refine tp_sld hx hb hX hbl hbA hS (i + 1) (nI_add i 1) (by omega) hL dL_law_520 ?_
  refine lv_aload_n hx hb dL_law_521 rfl (lv_at hl 5 rfl) ?_
  refine lv_iload hx hb dL_law_522 (lv_at hl 1 rfl) ?_
  refine lv_iconst (v := 2) hx hb dL_law_524 (by decide) ?_
  refine lv_iadd hx hb dL_law_525 ?_
  refine tp_sld hx hb hX hbl hbA hS (i + 2) (nI_add i 2) (by omega) hL dL_law_526 ?_
  refine lv_aload_n hx hb dL_law_527 rfl (lv_at hl 5 rfl) ?_
  refine lv_iload hx hb dL_law_528 (lv_at hl 1 rfl) ?_
  refine lv_iconst (v := 3) hx hb dL_law_530 (by decide) ?_
  refine lv_iadd hx hb dL_law_531 ?_
  refine tp_sld hx hb hX hbl hbA hS (i + 3) (nI_add i 3) (by omega) hL dL_law_532 ?_
  refine tp_callV (As := [.int (xs (i + 1)), .int (xs (i + 2)), .int (xs (i + 3))]) (rest := []) ⟨hx, hb, hml, hown, hts⟩ hM2 (cwV 3 hts gL_law_X2_fact rfl rfl rfl (by decide +kernel) ⟨Nat.le_trans (Nat.add_le_add_right hr5 1) (Nat.le_of_ble_eq_true rfl), Nat.le_trans (Nat.add_le_add_left hr6 _) (Nat.le_of_ble_eq_true rfl)⟩) hK hP hD hS hA 2 2 tp_e2 rfl rfl rfl hl.1 rfl (Nat.zero_le _) dL_law_533 ⟨Nat.le_trans (by omega : cells + 1 ≤ cells + 100) hcs.1, Nat.le_trans (by omega : slots + 6 ≤ slots + 1000) hcs.2⟩ (fun I9 e9 H locs hP hD hS => ?_)
  subst e9
  refine lv_istore (lv' := (6, .int r) :: (5, .int k) :: tp_lv b ad i) hx hb dL_law_536 hl (by decide) rfl (fun ls hl => ?_)
  refine lv_aload_n hx hb dL_law_538 rfl (lv_at hl 4 rfl) ?_
  refine tp_callV (As := []) (rest := []) ⟨hx, hb, hml, hown, hts⟩ (mc_thrown l D cy n ad o1 I2) (cwV 0 hts gL_law_X2_thrown rfl rfl rfl (by decide +kernel) ⟨(Nat.le_of_ble_eq_true rfl), (Nat.le_of_ble_eq_true rfl)⟩) hK hP hD hS hA 2 2 tp_e2 rfl rfl rfl hl.1 rfl (Nat.zero_le _) dL_law_539 ⟨Nat.le_trans (by omega : cells + 1 ≤ cells + 100) hcs.1, Nat.le_trans (by omega : slots + 6 ≤ slots + 1000) hcs.2⟩ (fun I9 e9 H locs hP hD hS => ?_)
  subst e9
  refine lv_iload hx hb dL_law_542 (lv_at hl 1 rfl) ?_
  refine lv_icmp_eq (tgt := 549) hx hb dL_law_544 (by decide) (fun c1 => ?_) (fun c1 => absurd hk c1)
  have hl5 : lv_has ls 7 (tp_lv b ad i) := lv_sub hl [2, 3, 4, 5, 6] rfl
  refine lv_iload hx hb dL_law_549 (lv_at hl 1 rfl) ?_
  refine lv_if_ne (tgt := 566) hx hb dL_law_551 (by decide) (fun c2 => ?_) (fun c2 => ?_)
  · refine lv_goto (tgt := 1201) hx hb dL_law_566 (by decide) ?_
    exact kk I2 o1 H locs ls hp2 ⟨hP, hD, hS⟩ hl5
  · have ho := ho (by first | exact c2 | exact Decidable.of_not_not c2)
    refine lv_aload_n hx hb dL_law_554 rfl (lv_at hl 3 rfl) ?_
    refine lv_iconst (v := 0) hx hb dL_law_555 (by decide) ?_
    refine va_lald hx hb hK hP 13 2 (tp_at (by omega)) rfl (vp_in_nI (n := 0) (by decide) (by decide)) dL_law_556 ?_
    refine lv_iload hx hb dL_law_557 (lv_at hl 0 rfl) ?_
    refine lv_i2l hx hb dL_law_559 rfl ?_
    refine W.lcmp hx hb dL_law_560 ?_
    refine lv_if_eq (tgt := 566) hx hb dL_law_561 (by decide) (fun c3 => ?_) (fun c3 => absurd ((lg_cmp_eq _ _).mpr ho) c3)
    refine lv_goto (tgt := 1201) hx hb dL_law_566 (by decide) ?_
    exact kk I2 o1 H locs ls hp2 ⟨hP, hD, hS⟩ hl5
set_option maxHeartbeats 4000000 in
set_option maxRecDepth 100000 in
/-- the case of need -/
theorem lc_need (l : Launch) {p : Program} {e : Env} {s : State} {m : MethodId} {below : List Frame} {meth : Method} {c : Code} {b L i : Nat} {xs : Nat → Int32} (C0 : tp_CX p s m meth c b L xs) (hi : i + 5 ≤ L) (hL : L ≤ 2560) {D : va_G} {cy : Nat → ClassId} {n : Nat} {ad : Nat → Nat} {I : Nat → Nat → Int32} {o : Int64} {sa : Nat → Nat} {tL tM : Nat} {H : Heap} {locs : List Loc} {cells slots : Nat} {Q : State → Prop} {ls : Array Slot}
    (hE : tp_EV sa tL tM (tp_Al s) s s.heap) (hK : va_K D vwCl (tp_ty cy) s) (hW0 : tp_Wd D cy n ad I o s H locs) (hcs : cells + 100 ≤ 601024 ∧ slots + 1000 ≤ 7293034) (hl : lv_has ls 7 (tp_lv b ad i)) {P : (Nat → Nat → Int32) → Prop}
    (hJ : tp_J l yL_need wsL_need yX2_need wsX2_need D cy n ad sa tL tM [.ref (ad 0), .int (xs (i + 1)), .int (xs (i + 2)), .ref (ad 13)] [.ref (ad 2), .int (xs (i + 1)), .int (xs (i + 2))] (fun z => z.toInt64) I o P)
    (kk : ∀ (I2 : Nat → Nat → Int32) (o1 : Int64) (H1 : Heap) (locs1 : List Loc) (ls1 : Array Slot), P I2 → tp_Wd D cy n ad I2 o1 s H1 locs1 → lv_has ls1 7 (tp_lv b ad i) → W p l e room_1 s m #[Value.ref b] below meth c H1 locs1 (cells + 1) (slots + 6) Q (F0 m 1201 ls1 [])) : W p l e room_1 s m #[Value.ref b] below meth c H locs cells slots Q (F0 m 569 ls []) := by
  obtain ⟨hx, hb, hml, hown, hts, hX, hbl⟩ := C0
  obtain ⟨hP, hD, hS⟩ := hW0
  obtain ⟨fr, lo, mc, ms, fr2, lo2, k, r, I1, o1, I2, ⟨hr1, hr2, hr3, hr4, hr5, hr6⟩, hM1, hM2, hk, ho, hp2⟩ := hJ
  have hA : ∀ q : Nat, s.heap.size ≤ q → tp_Al s q := fun q h => h
  have hbA : ¬ tp_Al s b := Nat.not_le.mpr hbl
  change lv_has ls 7 [(4, .int (nI i)), (3, .ref (ad 13)), (2, .ref (ad 2)), (1, .ref (ad 0)), (0, .ref b)] at hl
  refine lv_aload_n hx hb dL_law_569 rfl (lv_at hl 3 rfl) ?_
  refine lv_aload_n hx hb dL_law_570 rfl (lv_at hl 4 rfl) ?_
  refine lv_iload hx hb dL_law_571 (lv_at hl 0 rfl) ?_
  refine lv_iconst (v := 1) hx hb dL_law_573 (by decide) ?_
  refine lv_iadd hx hb dL_law_574 ?_
  refine tp_sld hx hb hX hbl hbA hS (i + 1) (nI_add i 1) (by omega) hL dL_law_575 ?_
  refine lv_aload_n hx hb dL_law_576 rfl (lv_at hl 4 rfl) ?_
  refine lv_iload hx hb dL_law_577 (lv_at hl 0 rfl) ?_
  refine lv_iconst (v := 2) hx hb dL_law_579 (by decide) ?_
  refine lv_iadd hx hb dL_law_580 ?_
  refine tp_sld hx hb hX hbl hbA hS (i + 2) (nI_add i 2) (by omega) hL dL_law_581 ?_
  refine lv_aload_n hx hb dL_law_582 rfl (lv_at hl 1 rfl) ?_
  refine tp_callL (As := [.ref (ad 0), .int (xs (i + 1)), .int (xs (i + 2)), .ref (ad 13)]) (rest := []) ⟨hx, hb, hml, hown, hts⟩ hM1 (vx_cwSW 4 hts gL_law_L_need rfl rfl rfl (by decide +kernel) ⟨Nat.le_trans (Nat.add_le_add_right hr1 1) (Nat.le_of_ble_eq_true rfl), Nat.le_trans (Nat.add_le_add_left hr2 _) (Nat.le_of_ble_eq_true rfl)⟩) hE hK hP hD hS hA rfl hl.1 rfl (Nat.zero_le _) dL_law_583 ⟨Nat.le_trans (by omega : _ ≤ cells + 100) hcs.1, Nat.le_trans (by omega : _ ≤ slots + 1000) hcs.2⟩ (fun H locs hP hD hS => ?_)
  refine W.widen (k := cells + 1) (n := slots + 6) (by omega) (by omega) ?_
  refine lv_istore (lv' := (5, .int k) :: tp_lv b ad i) hx hb dL_law_586 hl (by decide) rfl (fun ls hl => ?_)
  refine lv_aload_n hx hb dL_law_588 rfl (lv_at hl 3 rfl) ?_
  refine lv_aload_n hx hb dL_law_589 rfl (lv_at hl 5 rfl) ?_
  refine lv_iload hx hb dL_law_590 (lv_at hl 1 rfl) ?_
  refine lv_iconst (v := 1) hx hb dL_law_592 (by decide) ?_
  refine lv_iadd hx hb dL_law_593 ?_
  refine tp_sld hx hb hX hbl hbA hS (i + 1) (nI_add i 1) (by omega) hL dL_law_594 ?_
  refine lv_aload_n hx hb dL_law_595 rfl (lv_at hl 5 rfl) ?_
  refine lv_iload hx hb dL_law_596 (lv_at hl 1 rfl) ?_
  refine lv_iconst (v := 2) hx hb dL_law_598 (by decide) ?_
  refine lv_iadd hx hb dL_law_599 ?_
  refine tp_sld hx hb hX hbl hbA hS (i + 2) (nI_add i 2) (by omega) hL dL_law_600 ?_
  refine tp_callV (As := [.int (xs (i + 1)), .int (xs (i + 2))]) (rest := []) ⟨hx, hb, hml, hown, hts⟩ hM2 (cwV 2 hts gL_law_X2_need rfl rfl rfl (by decide +kernel) ⟨Nat.le_trans (Nat.add_le_add_right hr5 1) (Nat.le_of_ble_eq_true rfl), Nat.le_trans (Nat.add_le_add_left hr6 _) (Nat.le_of_ble_eq_true rfl)⟩) hK hP hD hS hA 2 2 tp_e2 rfl rfl rfl hl.1 rfl (Nat.zero_le _) dL_law_601 ⟨Nat.le_trans (by omega : cells + 1 ≤ cells + 100) hcs.1, Nat.le_trans (by omega : slots + 6 ≤ slots + 1000) hcs.2⟩ (fun I9 e9 H locs hP hD hS => ?_)
  subst e9
  refine lv_istore (lv' := (6, .int r) :: (5, .int k) :: tp_lv b ad i) hx hb dL_law_604 hl (by decide) rfl (fun ls hl => ?_)
  refine lv_aload_n hx hb dL_law_606 rfl (lv_at hl 4 rfl) ?_
  refine tp_callV (As := []) (rest := []) ⟨hx, hb, hml, hown, hts⟩ (mc_thrown l D cy n ad o1 I2) (cwV 0 hts gL_law_X2_thrown rfl rfl rfl (by decide +kernel) ⟨(Nat.le_of_ble_eq_true rfl), (Nat.le_of_ble_eq_true rfl)⟩) hK hP hD hS hA 2 2 tp_e2 rfl rfl rfl hl.1 rfl (Nat.zero_le _) dL_law_607 ⟨Nat.le_trans (by omega : cells + 1 ≤ cells + 100) hcs.1, Nat.le_trans (by omega : slots + 6 ≤ slots + 1000) hcs.2⟩ (fun I9 e9 H locs hP hD hS => ?_)
  subst e9
  refine lv_iload hx hb dL_law_610 (lv_at hl 1 rfl) ?_
  refine lv_icmp_eq (tgt := 617) hx hb dL_law_612 (by decide) (fun c1 => ?_) (fun c1 => absurd hk c1)
  have hl5 : lv_has ls 7 (tp_lv b ad i) := lv_sub hl [2, 3, 4, 5, 6] rfl
  refine lv_iload hx hb dL_law_617 (lv_at hl 1 rfl) ?_
  refine lv_if_ne (tgt := 634) hx hb dL_law_619 (by decide) (fun c2 => ?_) (fun c2 => ?_)
  · refine lv_goto (tgt := 1201) hx hb dL_law_634 (by decide) ?_
    exact kk I2 o1 H locs ls hp2 ⟨hP, hD, hS⟩ hl5
  · have ho := ho (by first | exact c2 | exact Decidable.of_not_not c2)
    refine lv_aload_n hx hb dL_law_622 rfl (lv_at hl 3 rfl) ?_
    refine lv_iconst (v := 0) hx hb dL_law_623 (by decide) ?_
    refine va_lald hx hb hK hP 13 2 (tp_at (by omega)) rfl (vp_in_nI (n := 0) (by decide) (by decide)) dL_law_624 ?_
    refine lv_iload hx hb dL_law_625 (lv_at hl 0 rfl) ?_
    refine lv_i2l hx hb dL_law_627 rfl ?_
    refine W.lcmp hx hb dL_law_628 ?_
    refine lv_if_eq (tgt := 634) hx hb dL_law_629 (by decide) (fun c3 => ?_) (fun c3 => absurd ((lg_cmp_eq _ _).mpr ho) c3)
    refine lv_goto (tgt := 1201) hx hb dL_law_634 (by decide) ?_
    exact kk I2 o1 H locs ls hp2 ⟨hP, hD, hS⟩ hl5
set_option maxHeartbeats 4000000 in
set_option maxRecDepth 100000 in
/-- the case of taper -/
theorem lc_taper (l : Launch) {p : Program} {e : Env} {s : State} {m : MethodId} {below : List Frame} {meth : Method} {c : Code} {b L i : Nat} {xs : Nat → Int32} (C0 : tp_CX p s m meth c b L xs) (hi : i + 5 ≤ L) (hL : L ≤ 2560) {D : va_G} {cy : Nat → ClassId} {n : Nat} {ad : Nat → Nat} {I : Nat → Nat → Int32} {o : Int64} {sa : Nat → Nat} {tL tM : Nat} {H : Heap} {locs : List Loc} {cells slots : Nat} {Q : State → Prop} {ls : Array Slot}
    (hE : tp_EV sa tL tM (tp_Al s) s s.heap) (hK : va_K D vwCl (tp_ty cy) s) (hW0 : tp_Wd D cy n ad I o s H locs) (hcs : cells + 100 ≤ 601024 ∧ slots + 1000 ≤ 7293034) (hl : lv_has ls 7 (tp_lv b ad i)) {P : (Nat → Nat → Int32) → Prop}
    (hJ : tp_J l yL_taper wsL_taper yX2_taper wsX2_taper D cy n ad sa tL tM [.ref (ad 0), .int (xs (i + 1)), .int (xs (i + 2)), .ref (ad 13)] [.ref (ad 2), .int (xs (i + 1)), .int (xs (i + 2))] (fun z => z.toInt64) I o P)
    (kk : ∀ (I2 : Nat → Nat → Int32) (o1 : Int64) (H1 : Heap) (locs1 : List Loc) (ls1 : Array Slot), P I2 → tp_Wd D cy n ad I2 o1 s H1 locs1 → lv_has ls1 7 (tp_lv b ad i) → W p l e room_1 s m #[Value.ref b] below meth c H1 locs1 (cells + 1) (slots + 6) Q (F0 m 1201 ls1 [])) : W p l e room_1 s m #[Value.ref b] below meth c H locs cells slots Q (F0 m 637 ls []) := by
  obtain ⟨hx, hb, hml, hown, hts, hX, hbl⟩ := C0
  obtain ⟨hP, hD, hS⟩ := hW0
  obtain ⟨fr, lo, mc, ms, fr2, lo2, k, r, I1, o1, I2, ⟨hr1, hr2, hr3, hr4, hr5, hr6⟩, hM1, hM2, hk, ho, hp2⟩ := hJ
  have hA : ∀ q : Nat, s.heap.size ≤ q → tp_Al s q := fun q h => h
  have hbA : ¬ tp_Al s b := Nat.not_le.mpr hbl
  change lv_has ls 7 [(4, .int (nI i)), (3, .ref (ad 13)), (2, .ref (ad 2)), (1, .ref (ad 0)), (0, .ref b)] at hl
  refine lv_aload_n hx hb dL_law_637 rfl (lv_at hl 3 rfl) ?_
  refine lv_aload_n hx hb dL_law_638 rfl (lv_at hl 4 rfl) ?_
  refine lv_iload hx hb dL_law_639 (lv_at hl 0 rfl) ?_
  refine lv_iconst (v := 1) hx hb dL_law_641 (by decide) ?_
  refine lv_iadd hx hb dL_law_642 ?_
  refine tp_sld hx hb hX hbl hbA hS (i + 1) (nI_add i 1) (by omega) hL dL_law_643 ?_
  refine lv_aload_n hx hb dL_law_644 rfl (lv_at hl 4 rfl) ?_
  refine lv_iload hx hb dL_law_645 (lv_at hl 0 rfl) ?_
  refine lv_iconst (v := 2) hx hb dL_law_647 (by decide) ?_
  refine lv_iadd hx hb dL_law_648 ?_
  refine tp_sld hx hb hX hbl hbA hS (i + 2) (nI_add i 2) (by omega) hL dL_law_649 ?_
  refine lv_aload_n hx hb dL_law_650 rfl (lv_at hl 1 rfl) ?_
  refine tp_callL (As := [.ref (ad 0), .int (xs (i + 1)), .int (xs (i + 2)), .ref (ad 13)]) (rest := []) ⟨hx, hb, hml, hown, hts⟩ hM1 (vx_cwSW 4 hts gL_law_L_taper rfl rfl rfl (by decide +kernel) ⟨Nat.le_trans (Nat.add_le_add_right hr1 1) (Nat.le_of_ble_eq_true rfl), Nat.le_trans (Nat.add_le_add_left hr2 _) (Nat.le_of_ble_eq_true rfl)⟩) hE hK hP hD hS hA rfl hl.1 rfl (Nat.zero_le _) dL_law_651 ⟨Nat.le_trans (by omega : _ ≤ cells + 100) hcs.1, Nat.le_trans (by omega : _ ≤ slots + 1000) hcs.2⟩ (fun H locs hP hD hS => ?_)
  refine W.widen (k := cells + 1) (n := slots + 6) (by omega) (by omega) ?_
  refine lv_istore (lv' := (5, .int k) :: tp_lv b ad i) hx hb dL_law_654 hl (by decide) rfl (fun ls hl => ?_)
  refine lv_aload_n hx hb dL_law_656 rfl (lv_at hl 3 rfl) ?_
  refine lv_aload_n hx hb dL_law_657 rfl (lv_at hl 5 rfl) ?_
  refine lv_iload hx hb dL_law_658 (lv_at hl 1 rfl) ?_
  refine lv_iconst (v := 1) hx hb dL_law_660 (by decide) ?_
  refine lv_iadd hx hb dL_law_661 ?_
  refine tp_sld hx hb hX hbl hbA hS (i + 1) (nI_add i 1) (by omega) hL dL_law_662 ?_
  refine lv_aload_n hx hb dL_law_663 rfl (lv_at hl 5 rfl) ?_
  refine lv_iload hx hb dL_law_664 (lv_at hl 1 rfl) ?_
  refine lv_iconst (v := 2) hx hb dL_law_666 (by decide) ?_
  refine lv_iadd hx hb dL_law_667 ?_
  refine tp_sld hx hb hX hbl hbA hS (i + 2) (nI_add i 2) (by omega) hL dL_law_668 ?_
  refine tp_callV (As := [.int (xs (i + 1)), .int (xs (i + 2))]) (rest := []) ⟨hx, hb, hml, hown, hts⟩ hM2 (cwV 2 hts gL_law_X2_taper rfl rfl rfl (by decide +kernel) ⟨Nat.le_trans (Nat.add_le_add_right hr5 1) (Nat.le_of_ble_eq_true rfl), Nat.le_trans (Nat.add_le_add_left hr6 _) (Nat.le_of_ble_eq_true rfl)⟩) hK hP hD hS hA 2 2 tp_e2 rfl rfl rfl hl.1 rfl (Nat.zero_le _) dL_law_669 ⟨Nat.le_trans (by omega : cells + 1 ≤ cells + 100) hcs.1, Nat.le_trans (by omega : slots + 6 ≤ slots + 1000) hcs.2⟩ (fun I9 e9 H locs hP hD hS => ?_)
  subst e9
  refine lv_istore (lv' := (6, .int r) :: (5, .int k) :: tp_lv b ad i) hx hb dL_law_672 hl (by decide) rfl (fun ls hl => ?_)
  refine lv_aload_n hx hb dL_law_674 rfl (lv_at hl 4 rfl) ?_
  refine tp_callV (As := []) (rest := []) ⟨hx, hb, hml, hown, hts⟩ (mc_thrown l D cy n ad o1 I2) (cwV 0 hts gL_law_X2_thrown rfl rfl rfl (by decide +kernel) ⟨(Nat.le_of_ble_eq_true rfl), (Nat.le_of_ble_eq_true rfl)⟩) hK hP hD hS hA 2 2 tp_e2 rfl rfl rfl hl.1 rfl (Nat.zero_le _) dL_law_675 ⟨Nat.le_trans (by omega : cells + 1 ≤ cells + 100) hcs.1, Nat.le_trans (by omega : slots + 6 ≤ slots + 1000) hcs.2⟩ (fun I9 e9 H locs hP hD hS => ?_)
  subst e9
  refine lv_iload hx hb dL_law_678 (lv_at hl 1 rfl) ?_
  refine lv_icmp_eq (tgt := 685) hx hb dL_law_680 (by decide) (fun c1 => ?_) (fun c1 => absurd hk c1)
  have hl5 : lv_has ls 7 (tp_lv b ad i) := lv_sub hl [2, 3, 4, 5, 6] rfl
  refine lv_iload hx hb dL_law_685 (lv_at hl 1 rfl) ?_
  refine lv_if_ne (tgt := 702) hx hb dL_law_687 (by decide) (fun c2 => ?_) (fun c2 => ?_)
  · refine lv_goto (tgt := 1201) hx hb dL_law_702 (by decide) ?_
    exact kk I2 o1 H locs ls hp2 ⟨hP, hD, hS⟩ hl5
  · have ho := ho (by first | exact c2 | exact Decidable.of_not_not c2)
    refine lv_aload_n hx hb dL_law_690 rfl (lv_at hl 3 rfl) ?_
    refine lv_iconst (v := 0) hx hb dL_law_691 (by decide) ?_
    refine va_lald hx hb hK hP 13 2 (tp_at (by omega)) rfl (vp_in_nI (n := 0) (by decide) (by decide)) dL_law_692 ?_
    refine lv_iload hx hb dL_law_693 (lv_at hl 0 rfl) ?_
    refine lv_i2l hx hb dL_law_695 rfl ?_
    refine W.lcmp hx hb dL_law_696 ?_
    refine lv_if_eq (tgt := 702) hx hb dL_law_697 (by decide) (fun c3 => ?_) (fun c3 => absurd ((lg_cmp_eq _ _).mpr ho) c3)
    refine lv_goto (tgt := 1201) hx hb dL_law_702 (by decide) ?_
    exact kk I2 o1 H locs ls hp2 ⟨hP, hD, hS⟩ hl5
set_option maxHeartbeats 4000000 in
set_option maxRecDepth 100000 in
/-- the case of tariff -/
theorem lc_tariff (l : Launch) {p : Program} {e : Env} {s : State} {m : MethodId} {below : List Frame} {meth : Method} {c : Code} {b L i : Nat} {xs : Nat → Int32} (C0 : tp_CX p s m meth c b L xs) (hi : i + 5 ≤ L) (hL : L ≤ 2560) {D : va_G} {cy : Nat → ClassId} {n : Nat} {ad : Nat → Nat} {I : Nat → Nat → Int32} {o : Int64} {sa : Nat → Nat} {tL tM : Nat} {H : Heap} {locs : List Loc} {cells slots : Nat} {Q : State → Prop} {ls : Array Slot}
    (hE : tp_EV sa tL tM (tp_Al s) s s.heap) (hK : va_K D vwCl (tp_ty cy) s) (hW0 : tp_Wd D cy n ad I o s H locs) (hcs : cells + 100 ≤ 601024 ∧ slots + 1000 ≤ 7293034) (hl : lv_has ls 7 (tp_lv b ad i)) {P : (Nat → Nat → Int32) → Prop}
    (hJ : tp_J l yL_tariff wsL_tariff yX2_tariff wsX2_tariff D cy n ad sa tL tM [.ref (ad 0), .int (xs (i + 1)), .int (xs (i + 2)), .ref (ad 13)] [.ref (ad 2), .int (xs (i + 1)), .int (xs (i + 2))] (fun z => z.toInt64) I o P)
    (kk : ∀ (I2 : Nat → Nat → Int32) (o1 : Int64) (H1 : Heap) (locs1 : List Loc) (ls1 : Array Slot), P I2 → tp_Wd D cy n ad I2 o1 s H1 locs1 → lv_has ls1 7 (tp_lv b ad i) → W p l e room_1 s m #[Value.ref b] below meth c H1 locs1 (cells + 1) (slots + 6) Q (F0 m 1201 ls1 [])) : W p l e room_1 s m #[Value.ref b] below meth c H locs cells slots Q (F0 m 705 ls []) := by
  obtain ⟨hx, hb, hml, hown, hts, hX, hbl⟩ := C0
  obtain ⟨hP, hD, hS⟩ := hW0
  obtain ⟨fr, lo, mc, ms, fr2, lo2, k, r, I1, o1, I2, ⟨hr1, hr2, hr3, hr4, hr5, hr6⟩, hM1, hM2, hk, ho, hp2⟩ := hJ
  have hA : ∀ q : Nat, s.heap.size ≤ q → tp_Al s q := fun q h => h
  have hbA : ¬ tp_Al s b := Nat.not_le.mpr hbl
  change lv_has ls 7 [(4, .int (nI i)), (3, .ref (ad 13)), (2, .ref (ad 2)), (1, .ref (ad 0)), (0, .ref b)] at hl
  refine lv_aload_n hx hb dL_law_705 rfl (lv_at hl 3 rfl) ?_
  refine lv_aload_n hx hb dL_law_706 rfl (lv_at hl 4 rfl) ?_
  refine lv_iload hx hb dL_law_707 (lv_at hl 0 rfl) ?_
  refine lv_iconst (v := 1) hx hb dL_law_709 (by decide) ?_
  refine lv_iadd hx hb dL_law_710 ?_
  refine tp_sld hx hb hX hbl hbA hS (i + 1) (nI_add i 1) (by omega) hL dL_law_711 ?_
  refine lv_aload_n hx hb dL_law_712 rfl (lv_at hl 4 rfl) ?_
  refine lv_iload hx hb dL_law_713 (lv_at hl 0 rfl) ?_
  refine lv_iconst (v := 2) hx hb dL_law_715 (by decide) ?_
  refine lv_iadd hx hb dL_law_716 ?_
  refine tp_sld hx hb hX hbl hbA hS (i + 2) (nI_add i 2) (by omega) hL dL_law_717 ?_
  refine lv_aload_n hx hb dL_law_718 rfl (lv_at hl 1 rfl) ?_
  refine tp_callL (As := [.ref (ad 0), .int (xs (i + 1)), .int (xs (i + 2)), .ref (ad 13)]) (rest := []) ⟨hx, hb, hml, hown, hts⟩ hM1 (vx_cwSW 4 hts gL_law_L_tariff rfl rfl rfl (by decide +kernel) ⟨Nat.le_trans (Nat.add_le_add_right hr1 1) (Nat.le_of_ble_eq_true rfl), Nat.le_trans (Nat.add_le_add_left hr2 _) (Nat.le_of_ble_eq_true rfl)⟩) hE hK hP hD hS hA rfl hl.1 rfl (Nat.zero_le _) dL_law_719 ⟨Nat.le_trans (by omega : _ ≤ cells + 100) hcs.1, Nat.le_trans (by omega : _ ≤ slots + 1000) hcs.2⟩ (fun H locs hP hD hS => ?_)
  refine W.widen (k := cells + 1) (n := slots + 6) (by omega) (by omega) ?_
  refine lv_istore (lv' := (5, .int k) :: tp_lv b ad i) hx hb dL_law_722 hl (by decide) rfl (fun ls hl => ?_)
  refine lv_aload_n hx hb dL_law_724 rfl (lv_at hl 3 rfl) ?_
  refine lv_aload_n hx hb dL_law_725 rfl (lv_at hl 5 rfl) ?_
  refine lv_iload hx hb dL_law_726 (lv_at hl 1 rfl) ?_
  refine lv_iconst (v := 1) hx hb dL_law_728 (by decide) ?_
  refine lv_iadd hx hb dL_law_729 ?_
  refine tp_sld hx hb hX hbl hbA hS (i + 1) (nI_add i 1) (by omega) hL dL_law_730 ?_
  refine lv_aload_n hx hb dL_law_731 rfl (lv_at hl 5 rfl) ?_
  refine lv_iload hx hb dL_law_732 (lv_at hl 1 rfl) ?_
  refine lv_iconst (v := 2) hx hb dL_law_734 (by decide) ?_
  refine lv_iadd hx hb dL_law_735 ?_
  refine tp_sld hx hb hX hbl hbA hS (i + 2) (nI_add i 2) (by omega) hL dL_law_736 ?_
  refine tp_callV (As := [.int (xs (i + 1)), .int (xs (i + 2))]) (rest := []) ⟨hx, hb, hml, hown, hts⟩ hM2 (cwV 2 hts gL_law_X2_tariff rfl rfl rfl (by decide +kernel) ⟨Nat.le_trans (Nat.add_le_add_right hr5 1) (Nat.le_of_ble_eq_true rfl), Nat.le_trans (Nat.add_le_add_left hr6 _) (Nat.le_of_ble_eq_true rfl)⟩) hK hP hD hS hA 2 2 tp_e2 rfl rfl rfl hl.1 rfl (Nat.zero_le _) dL_law_737 ⟨Nat.le_trans (by omega : cells + 1 ≤ cells + 100) hcs.1, Nat.le_trans (by omega : slots + 6 ≤ slots + 1000) hcs.2⟩ (fun I9 e9 H locs hP hD hS => ?_)
  subst e9
  refine lv_istore (lv' := (6, .int r) :: (5, .int k) :: tp_lv b ad i) hx hb dL_law_740 hl (by decide) rfl (fun ls hl => ?_)
  refine lv_aload_n hx hb dL_law_742 rfl (lv_at hl 4 rfl) ?_
  refine tp_callV (As := []) (rest := []) ⟨hx, hb, hml, hown, hts⟩ (mc_thrown l D cy n ad o1 I2) (cwV 0 hts gL_law_X2_thrown rfl rfl rfl (by decide +kernel) ⟨(Nat.le_of_ble_eq_true rfl), (Nat.le_of_ble_eq_true rfl)⟩) hK hP hD hS hA 2 2 tp_e2 rfl rfl rfl hl.1 rfl (Nat.zero_le _) dL_law_743 ⟨Nat.le_trans (by omega : cells + 1 ≤ cells + 100) hcs.1, Nat.le_trans (by omega : slots + 6 ≤ slots + 1000) hcs.2⟩ (fun I9 e9 H locs hP hD hS => ?_)
  subst e9
  refine lv_iload hx hb dL_law_746 (lv_at hl 1 rfl) ?_
  refine lv_icmp_eq (tgt := 753) hx hb dL_law_748 (by decide) (fun c1 => ?_) (fun c1 => absurd hk c1)
  have hl5 : lv_has ls 7 (tp_lv b ad i) := lv_sub hl [2, 3, 4, 5, 6] rfl
  refine lv_iload hx hb dL_law_753 (lv_at hl 1 rfl) ?_
  refine lv_if_ne (tgt := 770) hx hb dL_law_755 (by decide) (fun c2 => ?_) (fun c2 => ?_)
  · refine lv_goto (tgt := 1201) hx hb dL_law_770 (by decide) ?_
    exact kk I2 o1 H locs ls hp2 ⟨hP, hD, hS⟩ hl5
  · have ho := ho (by first | exact c2 | exact Decidable.of_not_not c2)
    refine lv_aload_n hx hb dL_law_758 rfl (lv_at hl 3 rfl) ?_
    refine lv_iconst (v := 0) hx hb dL_law_759 (by decide) ?_
    refine va_lald hx hb hK hP 13 2 (tp_at (by omega)) rfl (vp_in_nI (n := 0) (by decide) (by decide)) dL_law_760 ?_
    refine lv_iload hx hb dL_law_761 (lv_at hl 0 rfl) ?_
    refine lv_i2l hx hb dL_law_763 rfl ?_
    refine W.lcmp hx hb dL_law_764 ?_
    refine lv_if_eq (tgt := 770) hx hb dL_law_765 (by decide) (fun c3 => ?_) (fun c3 => absurd ((lg_cmp_eq _ _).mpr ho) c3)
    refine lv_goto (tgt := 1201) hx hb dL_law_770 (by decide) ?_
    exact kk I2 o1 H locs ls hp2 ⟨hP, hD, hS⟩ hl5
set_option maxHeartbeats 4000000 in
set_option maxRecDepth 100000 in
/-- the case of due -/
theorem lc_due (l : Launch) {p : Program} {e : Env} {s : State} {m : MethodId} {below : List Frame} {meth : Method} {c : Code} {b L i : Nat} {xs : Nat → Int32} (C0 : tp_CX p s m meth c b L xs) (hi : i + 5 ≤ L) (hL : L ≤ 2560) {D : va_G} {cy : Nat → ClassId} {n : Nat} {ad : Nat → Nat} {I : Nat → Nat → Int32} {o : Int64} {sa : Nat → Nat} {tL tM : Nat} {H : Heap} {locs : List Loc} {cells slots : Nat} {Q : State → Prop} {ls : Array Slot}
    (hE : tp_EV sa tL tM (tp_Al s) s s.heap) (hK : va_K D vwCl (tp_ty cy) s) (hW0 : tp_Wd D cy n ad I o s H locs) (hcs : cells + 100 ≤ 601024 ∧ slots + 1000 ≤ 7293034) (hl : lv_has ls 7 (tp_lv b ad i)) {P : (Nat → Nat → Int32) → Prop}
    (hJ : tp_J l yL_due wsL_due yX2_due wsX2_due D cy n ad sa tL tM [.ref (ad 0), .int (xs (i + 1)), .int (xs (i + 2)), .ref (ad 13)] [.ref (ad 2), .int (xs (i + 1)), .int (xs (i + 2))] (fun z => z.toInt64) I o P)
    (kk : ∀ (I2 : Nat → Nat → Int32) (o1 : Int64) (H1 : Heap) (locs1 : List Loc) (ls1 : Array Slot), P I2 → tp_Wd D cy n ad I2 o1 s H1 locs1 → lv_has ls1 7 (tp_lv b ad i) → W p l e room_1 s m #[Value.ref b] below meth c H1 locs1 (cells + 1) (slots + 6) Q (F0 m 1201 ls1 [])) : W p l e room_1 s m #[Value.ref b] below meth c H locs cells slots Q (F0 m 773 ls []) := by
  obtain ⟨hx, hb, hml, hown, hts, hX, hbl⟩ := C0
  obtain ⟨hP, hD, hS⟩ := hW0
  obtain ⟨fr, lo, mc, ms, fr2, lo2, k, r, I1, o1, I2, ⟨hr1, hr2, hr3, hr4, hr5, hr6⟩, hM1, hM2, hk, ho, hp2⟩ := hJ
  have hA : ∀ q : Nat, s.heap.size ≤ q → tp_Al s q := fun q h => h
  have hbA : ¬ tp_Al s b := Nat.not_le.mpr hbl
  change lv_has ls 7 [(4, .int (nI i)), (3, .ref (ad 13)), (2, .ref (ad 2)), (1, .ref (ad 0)), (0, .ref b)] at hl
  refine lv_aload_n hx hb dL_law_773 rfl (lv_at hl 3 rfl) ?_
  refine lv_aload_n hx hb dL_law_774 rfl (lv_at hl 4 rfl) ?_
  refine lv_iload hx hb dL_law_775 (lv_at hl 0 rfl) ?_
  refine lv_iconst (v := 1) hx hb dL_law_777 (by decide) ?_
  refine lv_iadd hx hb dL_law_778 ?_
  refine tp_sld hx hb hX hbl hbA hS (i + 1) (nI_add i 1) (by omega) hL dL_law_779 ?_
  refine lv_aload_n hx hb dL_law_780 rfl (lv_at hl 4 rfl) ?_
  refine lv_iload hx hb dL_law_781 (lv_at hl 0 rfl) ?_
  refine lv_iconst (v := 2) hx hb dL_law_783 (by decide) ?_
  refine lv_iadd hx hb dL_law_784 ?_
  refine tp_sld hx hb hX hbl hbA hS (i + 2) (nI_add i 2) (by omega) hL dL_law_785 ?_
  refine lv_aload_n hx hb dL_law_786 rfl (lv_at hl 1 rfl) ?_
  refine tp_callL (As := [.ref (ad 0), .int (xs (i + 1)), .int (xs (i + 2)), .ref (ad 13)]) (rest := []) ⟨hx, hb, hml, hown, hts⟩ hM1 (vx_cwSW 4 hts gL_law_L_due rfl rfl rfl (by decide +kernel) ⟨Nat.le_trans (Nat.add_le_add_right hr1 1) (Nat.le_of_ble_eq_true rfl), Nat.le_trans (Nat.add_le_add_left hr2 _) (Nat.le_of_ble_eq_true rfl)⟩) hE hK hP hD hS hA rfl hl.1 rfl (Nat.zero_le _) dL_law_787 ⟨Nat.le_trans (by omega : _ ≤ cells + 100) hcs.1, Nat.le_trans (by omega : _ ≤ slots + 1000) hcs.2⟩ (fun H locs hP hD hS => ?_)
  refine W.widen (k := cells + 1) (n := slots + 6) (by omega) (by omega) ?_
  refine lv_istore (lv' := (5, .int k) :: tp_lv b ad i) hx hb dL_law_790 hl (by decide) rfl (fun ls hl => ?_)
  refine lv_aload_n hx hb dL_law_792 rfl (lv_at hl 3 rfl) ?_
  refine lv_aload_n hx hb dL_law_793 rfl (lv_at hl 5 rfl) ?_
  refine lv_iload hx hb dL_law_794 (lv_at hl 1 rfl) ?_
  refine lv_iconst (v := 1) hx hb dL_law_796 (by decide) ?_
  refine lv_iadd hx hb dL_law_797 ?_
  refine tp_sld hx hb hX hbl hbA hS (i + 1) (nI_add i 1) (by omega) hL dL_law_798 ?_
  refine lv_aload_n hx hb dL_law_799 rfl (lv_at hl 5 rfl) ?_
  refine lv_iload hx hb dL_law_800 (lv_at hl 1 rfl) ?_
  refine lv_iconst (v := 2) hx hb dL_law_802 (by decide) ?_
  refine lv_iadd hx hb dL_law_803 ?_
  refine tp_sld hx hb hX hbl hbA hS (i + 2) (nI_add i 2) (by omega) hL dL_law_804 ?_
  refine tp_callV (As := [.int (xs (i + 1)), .int (xs (i + 2))]) (rest := []) ⟨hx, hb, hml, hown, hts⟩ hM2 (cwV 2 hts gL_law_X2_due rfl rfl rfl (by decide +kernel) ⟨Nat.le_trans (Nat.add_le_add_right hr5 1) (Nat.le_of_ble_eq_true rfl), Nat.le_trans (Nat.add_le_add_left hr6 _) (Nat.le_of_ble_eq_true rfl)⟩) hK hP hD hS hA 2 2 tp_e2 rfl rfl rfl hl.1 rfl (Nat.zero_le _) dL_law_805 ⟨Nat.le_trans (by omega : cells + 1 ≤ cells + 100) hcs.1, Nat.le_trans (by omega : slots + 6 ≤ slots + 1000) hcs.2⟩ (fun I9 e9 H locs hP hD hS => ?_)
  subst e9
  refine lv_istore (lv' := (6, .int r) :: (5, .int k) :: tp_lv b ad i) hx hb dL_law_808 hl (by decide) rfl (fun ls hl => ?_)
  refine lv_aload_n hx hb dL_law_810 rfl (lv_at hl 4 rfl) ?_
  refine tp_callV (As := []) (rest := []) ⟨hx, hb, hml, hown, hts⟩ (mc_thrown l D cy n ad o1 I2) (cwV 0 hts gL_law_X2_thrown rfl rfl rfl (by decide +kernel) ⟨(Nat.le_of_ble_eq_true rfl), (Nat.le_of_ble_eq_true rfl)⟩) hK hP hD hS hA 2 2 tp_e2 rfl rfl rfl hl.1 rfl (Nat.zero_le _) dL_law_811 ⟨Nat.le_trans (by omega : cells + 1 ≤ cells + 100) hcs.1, Nat.le_trans (by omega : slots + 6 ≤ slots + 1000) hcs.2⟩ (fun I9 e9 H locs hP hD hS => ?_)
  subst e9
  refine lv_iload hx hb dL_law_814 (lv_at hl 1 rfl) ?_
  refine lv_icmp_eq (tgt := 821) hx hb dL_law_816 (by decide) (fun c1 => ?_) (fun c1 => absurd hk c1)
  have hl5 : lv_has ls 7 (tp_lv b ad i) := lv_sub hl [2, 3, 4, 5, 6] rfl
  refine lv_iload hx hb dL_law_821 (lv_at hl 1 rfl) ?_
  refine lv_if_ne (tgt := 838) hx hb dL_law_823 (by decide) (fun c2 => ?_) (fun c2 => ?_)
  · refine lv_goto (tgt := 1201) hx hb dL_law_838 (by decide) ?_
    exact kk I2 o1 H locs ls hp2 ⟨hP, hD, hS⟩ hl5
  · have ho := ho (by first | exact c2 | exact Decidable.of_not_not c2)
    refine lv_aload_n hx hb dL_law_826 rfl (lv_at hl 3 rfl) ?_
    refine lv_iconst (v := 0) hx hb dL_law_827 (by decide) ?_
    refine va_lald hx hb hK hP 13 2 (tp_at (by omega)) rfl (vp_in_nI (n := 0) (by decide) (by decide)) dL_law_828 ?_
    refine lv_iload hx hb dL_law_829 (lv_at hl 0 rfl) ?_
    refine lv_i2l hx hb dL_law_831 rfl ?_
    refine W.lcmp hx hb dL_law_832 ?_
    refine lv_if_eq (tgt := 838) hx hb dL_law_833 (by decide) (fun c3 => ?_) (fun c3 => absurd ((lg_cmp_eq _ _).mpr ho) c3)
    refine lv_goto (tgt := 1201) hx hb dL_law_838 (by decide) ?_
    exact kk I2 o1 H locs ls hp2 ⟨hP, hD, hS⟩ hl5
set_option maxHeartbeats 4000000 in
set_option maxRecDepth 100000 in
/-- the case of unassessed -/
theorem lc_unassessed (l : Launch) {p : Program} {e : Env} {s : State} {m : MethodId} {below : List Frame} {meth : Method} {c : Code} {b L i : Nat} {xs : Nat → Int32} (C0 : tp_CX p s m meth c b L xs) (hi : i + 5 ≤ L) (hL : L ≤ 2560) {D : va_G} {cy : Nat → ClassId} {n : Nat} {ad : Nat → Nat} {I : Nat → Nat → Int32} {o : Int64} {sa : Nat → Nat} {tL tM : Nat} {H : Heap} {locs : List Loc} {cells slots : Nat} {Q : State → Prop} {ls : Array Slot}
    (hE : tp_EV sa tL tM (tp_Al s) s s.heap) (hK : va_K D vwCl (tp_ty cy) s) (hW0 : tp_Wd D cy n ad I o s H locs) (hcs : cells + 100 ≤ 601024 ∧ slots + 1000 ≤ 7293034) (hl : lv_has ls 7 (tp_lv b ad i)) {P : (Nat → Nat → Int32) → Prop}
    (hJ : tp_J l yL_unassessed wsL_unassessed yX2_unassessed wsX2_unassessed D cy n ad sa tL tM [.ref (ad 0), .int (xs (i + 1)), .ref (ad 13)] [.ref (ad 2), .int (xs (i + 1))] (fun z => z.toInt64) I o P)
    (kk : ∀ (I2 : Nat → Nat → Int32) (o1 : Int64) (H1 : Heap) (locs1 : List Loc) (ls1 : Array Slot), P I2 → tp_Wd D cy n ad I2 o1 s H1 locs1 → lv_has ls1 7 (tp_lv b ad i) → W p l e room_1 s m #[Value.ref b] below meth c H1 locs1 (cells + 1) (slots + 6) Q (F0 m 1201 ls1 [])) : W p l e room_1 s m #[Value.ref b] below meth c H locs cells slots Q (F0 m 841 ls []) := by
  obtain ⟨hx, hb, hml, hown, hts, hX, hbl⟩ := C0
  obtain ⟨hP, hD, hS⟩ := hW0
  obtain ⟨fr, lo, mc, ms, fr2, lo2, k, r, I1, o1, I2, ⟨hr1, hr2, hr3, hr4, hr5, hr6⟩, hM1, hM2, hk, ho, hp2⟩ := hJ
  have hA : ∀ q : Nat, s.heap.size ≤ q → tp_Al s q := fun q h => h
  have hbA : ¬ tp_Al s b := Nat.not_le.mpr hbl
  change lv_has ls 7 [(4, .int (nI i)), (3, .ref (ad 13)), (2, .ref (ad 2)), (1, .ref (ad 0)), (0, .ref b)] at hl
  refine lv_aload_n hx hb dL_law_841 rfl (lv_at hl 3 rfl) ?_
  refine lv_aload_n hx hb dL_law_842 rfl (lv_at hl 4 rfl) ?_
  refine lv_iload hx hb dL_law_843 (lv_at hl 0 rfl) ?_
  refine lv_iconst (v := 1) hx hb dL_law_845 (by decide) ?_
  refine lv_iadd hx hb dL_law_846 ?_
  refine tp_sld hx hb hX hbl hbA hS (i + 1) (nI_add i 1) (by omega) hL dL_law_847 ?_
  refine lv_aload_n hx hb dL_law_848 rfl (lv_at hl 1 rfl) ?_
  refine tp_callL (As := [.ref (ad 0), .int (xs (i + 1)), .ref (ad 13)]) (rest := []) ⟨hx, hb, hml, hown, hts⟩ hM1 (vx_cwSW 3 hts gL_law_L_unassessed rfl rfl rfl (by decide +kernel) ⟨Nat.le_trans (Nat.add_le_add_right hr1 1) (Nat.le_of_ble_eq_true rfl), Nat.le_trans (Nat.add_le_add_left hr2 _) (Nat.le_of_ble_eq_true rfl)⟩) hE hK hP hD hS hA rfl hl.1 rfl (Nat.zero_le _) dL_law_849 ⟨Nat.le_trans (by omega : _ ≤ cells + 100) hcs.1, Nat.le_trans (by omega : _ ≤ slots + 1000) hcs.2⟩ (fun H locs hP hD hS => ?_)
  refine W.widen (k := cells + 1) (n := slots + 6) (by omega) (by omega) ?_
  refine lv_istore (lv' := (5, .int k) :: tp_lv b ad i) hx hb dL_law_852 hl (by decide) rfl (fun ls hl => ?_)
  refine lv_aload_n hx hb dL_law_854 rfl (lv_at hl 3 rfl) ?_
  refine lv_aload_n hx hb dL_law_855 rfl (lv_at hl 5 rfl) ?_
  refine lv_iload hx hb dL_law_856 (lv_at hl 1 rfl) ?_
  refine lv_iconst (v := 1) hx hb dL_law_858 (by decide) ?_
  refine lv_iadd hx hb dL_law_859 ?_
  refine tp_sld hx hb hX hbl hbA hS (i + 1) (nI_add i 1) (by omega) hL dL_law_860 ?_
  refine tp_callV (As := [.int (xs (i + 1))]) (rest := []) ⟨hx, hb, hml, hown, hts⟩ hM2 (cwV 1 hts gL_law_X2_unassessed rfl rfl rfl (by decide +kernel) ⟨Nat.le_trans (Nat.add_le_add_right hr5 1) (Nat.le_of_ble_eq_true rfl), Nat.le_trans (Nat.add_le_add_left hr6 _) (Nat.le_of_ble_eq_true rfl)⟩) hK hP hD hS hA 2 2 tp_e2 rfl rfl rfl hl.1 rfl (Nat.zero_le _) dL_law_861 ⟨Nat.le_trans (by omega : cells + 1 ≤ cells + 100) hcs.1, Nat.le_trans (by omega : slots + 6 ≤ slots + 1000) hcs.2⟩ (fun I9 e9 H locs hP hD hS => ?_)
  subst e9
  refine lv_istore (lv' := (6, .int r) :: (5, .int k) :: tp_lv b ad i) hx hb dL_law_864 hl (by decide) rfl (fun ls hl => ?_)
  refine lv_aload_n hx hb dL_law_866 rfl (lv_at hl 4 rfl) ?_
  refine tp_callV (As := []) (rest := []) ⟨hx, hb, hml, hown, hts⟩ (mc_thrown l D cy n ad o1 I2) (cwV 0 hts gL_law_X2_thrown rfl rfl rfl (by decide +kernel) ⟨(Nat.le_of_ble_eq_true rfl), (Nat.le_of_ble_eq_true rfl)⟩) hK hP hD hS hA 2 2 tp_e2 rfl rfl rfl hl.1 rfl (Nat.zero_le _) dL_law_867 ⟨Nat.le_trans (by omega : cells + 1 ≤ cells + 100) hcs.1, Nat.le_trans (by omega : slots + 6 ≤ slots + 1000) hcs.2⟩ (fun I9 e9 H locs hP hD hS => ?_)
  subst e9
  refine lv_iload hx hb dL_law_870 (lv_at hl 1 rfl) ?_
  refine lv_icmp_eq (tgt := 877) hx hb dL_law_872 (by decide) (fun c1 => ?_) (fun c1 => absurd hk c1)
  have hl5 : lv_has ls 7 (tp_lv b ad i) := lv_sub hl [2, 3, 4, 5, 6] rfl
  refine lv_iload hx hb dL_law_877 (lv_at hl 1 rfl) ?_
  refine lv_if_ne (tgt := 894) hx hb dL_law_879 (by decide) (fun c2 => ?_) (fun c2 => ?_)
  · refine lv_goto (tgt := 1201) hx hb dL_law_894 (by decide) ?_
    exact kk I2 o1 H locs ls hp2 ⟨hP, hD, hS⟩ hl5
  · have ho := ho (by first | exact c2 | exact Decidable.of_not_not c2)
    refine lv_aload_n hx hb dL_law_882 rfl (lv_at hl 3 rfl) ?_
    refine lv_iconst (v := 0) hx hb dL_law_883 (by decide) ?_
    refine va_lald hx hb hK hP 13 2 (tp_at (by omega)) rfl (vp_in_nI (n := 0) (by decide) (by decide)) dL_law_884 ?_
    refine lv_iload hx hb dL_law_885 (lv_at hl 0 rfl) ?_
    refine lv_i2l hx hb dL_law_887 rfl ?_
    refine W.lcmp hx hb dL_law_888 ?_
    refine lv_if_eq (tgt := 894) hx hb dL_law_889 (by decide) (fun c3 => ?_) (fun c3 => absurd ((lg_cmp_eq _ _).mpr ho) c3)
    refine lv_goto (tgt := 1201) hx hb dL_law_894 (by decide) ?_
    exact kk I2 o1 H locs ls hp2 ⟨hP, hD, hS⟩ hl5
set_option maxHeartbeats 4000000 in
set_option maxRecDepth 100000 in
/-- the case of wouldPay -/
theorem lc_wouldPay (l : Launch) {p : Program} {e : Env} {s : State} {m : MethodId} {below : List Frame} {meth : Method} {c : Code} {b L i : Nat} {xs : Nat → Int32} (C0 : tp_CX p s m meth c b L xs) (hi : i + 5 ≤ L) (hL : L ≤ 2560) {D : va_G} {cy : Nat → ClassId} {n : Nat} {ad : Nat → Nat} {I : Nat → Nat → Int32} {o : Int64} {sa : Nat → Nat} {tL tM : Nat} {H : Heap} {locs : List Loc} {cells slots : Nat} {Q : State → Prop} {ls : Array Slot}
    (hE : tp_EV sa tL tM (tp_Al s) s s.heap) (hK : va_K D vwCl (tp_ty cy) s) (hW0 : tp_Wd D cy n ad I o s H locs) (hcs : cells + 100 ≤ 601024 ∧ slots + 1000 ≤ 7293034) (hl : lv_has ls 7 (tp_lv b ad i)) {P : (Nat → Nat → Int32) → Prop}
    (hJ : tp_J l yL_wouldPay wsL_wouldPay yX2_wouldPay wsX2_wouldPay D cy n ad sa tL tM [.ref (ad 0), .int (xs (i + 1)), .ref (ad 13)] [.ref (ad 2), .int (xs (i + 1))] (fun z => z.toInt64) I o P)
    (kk : ∀ (I2 : Nat → Nat → Int32) (o1 : Int64) (H1 : Heap) (locs1 : List Loc) (ls1 : Array Slot), P I2 → tp_Wd D cy n ad I2 o1 s H1 locs1 → lv_has ls1 7 (tp_lv b ad i) → W p l e room_1 s m #[Value.ref b] below meth c H1 locs1 (cells + 1) (slots + 6) Q (F0 m 1201 ls1 [])) : W p l e room_1 s m #[Value.ref b] below meth c H locs cells slots Q (F0 m 897 ls []) := by
  obtain ⟨hx, hb, hml, hown, hts, hX, hbl⟩ := C0
  obtain ⟨hP, hD, hS⟩ := hW0
  obtain ⟨fr, lo, mc, ms, fr2, lo2, k, r, I1, o1, I2, ⟨hr1, hr2, hr3, hr4, hr5, hr6⟩, hM1, hM2, hk, ho, hp2⟩ := hJ
  have hA : ∀ q : Nat, s.heap.size ≤ q → tp_Al s q := fun q h => h
  have hbA : ¬ tp_Al s b := Nat.not_le.mpr hbl
  change lv_has ls 7 [(4, .int (nI i)), (3, .ref (ad 13)), (2, .ref (ad 2)), (1, .ref (ad 0)), (0, .ref b)] at hl
  refine lv_aload_n hx hb dL_law_897 rfl (lv_at hl 3 rfl) ?_
  refine lv_aload_n hx hb dL_law_898 rfl (lv_at hl 4 rfl) ?_
  refine lv_iload hx hb dL_law_899 (lv_at hl 0 rfl) ?_
  refine lv_iconst (v := 1) hx hb dL_law_901 (by decide) ?_
  refine lv_iadd hx hb dL_law_902 ?_
  refine tp_sld hx hb hX hbl hbA hS (i + 1) (nI_add i 1) (by omega) hL dL_law_903 ?_
  refine lv_aload_n hx hb dL_law_904 rfl (lv_at hl 1 rfl) ?_
  refine tp_callL (As := [.ref (ad 0), .int (xs (i + 1)), .ref (ad 13)]) (rest := []) ⟨hx, hb, hml, hown, hts⟩ hM1 (vx_cwSW 3 hts gL_law_L_wouldPay rfl rfl rfl (by decide +kernel) ⟨Nat.le_trans (Nat.add_le_add_right hr1 1) (Nat.le_of_ble_eq_true rfl), Nat.le_trans (Nat.add_le_add_left hr2 _) (Nat.le_of_ble_eq_true rfl)⟩) hE hK hP hD hS hA rfl hl.1 rfl (Nat.zero_le _) dL_law_905 ⟨Nat.le_trans (by omega : _ ≤ cells + 100) hcs.1, Nat.le_trans (by omega : _ ≤ slots + 1000) hcs.2⟩ (fun H locs hP hD hS => ?_)
  refine W.widen (k := cells + 1) (n := slots + 6) (by omega) (by omega) ?_
  refine lv_istore (lv' := (5, .int k) :: tp_lv b ad i) hx hb dL_law_908 hl (by decide) rfl (fun ls hl => ?_)
  refine lv_aload_n hx hb dL_law_910 rfl (lv_at hl 3 rfl) ?_
  refine lv_aload_n hx hb dL_law_911 rfl (lv_at hl 5 rfl) ?_
  refine lv_iload hx hb dL_law_912 (lv_at hl 1 rfl) ?_
  refine lv_iconst (v := 1) hx hb dL_law_914 (by decide) ?_
  refine lv_iadd hx hb dL_law_915 ?_
  refine tp_sld hx hb hX hbl hbA hS (i + 1) (nI_add i 1) (by omega) hL dL_law_916 ?_
  refine tp_callV (As := [.int (xs (i + 1))]) (rest := []) ⟨hx, hb, hml, hown, hts⟩ hM2 (cwV 1 hts gL_law_X2_wouldPay rfl rfl rfl (by decide +kernel) ⟨Nat.le_trans (Nat.add_le_add_right hr5 1) (Nat.le_of_ble_eq_true rfl), Nat.le_trans (Nat.add_le_add_left hr6 _) (Nat.le_of_ble_eq_true rfl)⟩) hK hP hD hS hA 2 2 tp_e2 rfl rfl rfl hl.1 rfl (Nat.zero_le _) dL_law_917 ⟨Nat.le_trans (by omega : cells + 1 ≤ cells + 100) hcs.1, Nat.le_trans (by omega : slots + 6 ≤ slots + 1000) hcs.2⟩ (fun I9 e9 H locs hP hD hS => ?_)
  subst e9
  refine lv_istore (lv' := (6, .int r) :: (5, .int k) :: tp_lv b ad i) hx hb dL_law_920 hl (by decide) rfl (fun ls hl => ?_)
  refine lv_aload_n hx hb dL_law_922 rfl (lv_at hl 4 rfl) ?_
  refine tp_callV (As := []) (rest := []) ⟨hx, hb, hml, hown, hts⟩ (mc_thrown l D cy n ad o1 I2) (cwV 0 hts gL_law_X2_thrown rfl rfl rfl (by decide +kernel) ⟨(Nat.le_of_ble_eq_true rfl), (Nat.le_of_ble_eq_true rfl)⟩) hK hP hD hS hA 2 2 tp_e2 rfl rfl rfl hl.1 rfl (Nat.zero_le _) dL_law_923 ⟨Nat.le_trans (by omega : cells + 1 ≤ cells + 100) hcs.1, Nat.le_trans (by omega : slots + 6 ≤ slots + 1000) hcs.2⟩ (fun I9 e9 H locs hP hD hS => ?_)
  subst e9
  refine lv_iload hx hb dL_law_926 (lv_at hl 1 rfl) ?_
  refine lv_icmp_eq (tgt := 933) hx hb dL_law_928 (by decide) (fun c1 => ?_) (fun c1 => absurd hk c1)
  have hl5 : lv_has ls 7 (tp_lv b ad i) := lv_sub hl [2, 3, 4, 5, 6] rfl
  refine lv_iload hx hb dL_law_933 (lv_at hl 1 rfl) ?_
  refine lv_if_ne (tgt := 950) hx hb dL_law_935 (by decide) (fun c2 => ?_) (fun c2 => ?_)
  · refine lv_goto (tgt := 1201) hx hb dL_law_950 (by decide) ?_
    exact kk I2 o1 H locs ls hp2 ⟨hP, hD, hS⟩ hl5
  · have ho := ho (by first | exact c2 | exact Decidable.of_not_not c2)
    refine lv_aload_n hx hb dL_law_938 rfl (lv_at hl 3 rfl) ?_
    refine lv_iconst (v := 0) hx hb dL_law_939 (by decide) ?_
    refine va_lald hx hb hK hP 13 2 (tp_at (by omega)) rfl (vp_in_nI (n := 0) (by decide) (by decide)) dL_law_940 ?_
    refine lv_iload hx hb dL_law_941 (lv_at hl 0 rfl) ?_
    refine lv_i2l hx hb dL_law_943 rfl ?_
    refine W.lcmp hx hb dL_law_944 ?_
    refine lv_if_eq (tgt := 950) hx hb dL_law_945 (by decide) (fun c3 => ?_) (fun c3 => absurd ((lg_cmp_eq _ _).mpr ho) c3)
    refine lv_goto (tgt := 1201) hx hb dL_law_950 (by decide) ?_
    exact kk I2 o1 H locs ls hp2 ⟨hP, hD, hS⟩ hl5
set_option maxHeartbeats 4000000 in
set_option maxRecDepth 100000 in
/-- the case of assessed -/
theorem lc_assessed (l : Launch) {p : Program} {e : Env} {s : State} {m : MethodId} {below : List Frame} {meth : Method} {c : Code} {b L i : Nat} {xs : Nat → Int32} (C0 : tp_CX p s m meth c b L xs) (hi : i + 5 ≤ L) (hL : L ≤ 2560) {D : va_G} {cy : Nat → ClassId} {n : Nat} {ad : Nat → Nat} {I : Nat → Nat → Int32} {o : Int64} {sa : Nat → Nat} {tL tM : Nat} {H : Heap} {locs : List Loc} {cells slots : Nat} {Q : State → Prop} {ls : Array Slot}
    (hE : tp_EV sa tL tM (tp_Al s) s s.heap) (hK : va_K D vwCl (tp_ty cy) s) (hW0 : tp_Wd D cy n ad I o s H locs) (hcs : cells + 100 ≤ 601024 ∧ slots + 1000 ≤ 7293034) (hl : lv_has ls 7 (tp_lv b ad i)) {P : (Nat → Nat → Int32) → Prop}
    (hJ : tp_J l yL_assessed wsL_assessed yX2_assessed wsX2_assessed D cy n ad sa tL tM [.ref (ad 0), .int (xs (i + 1)), .int (xs (i + 2)), .ref (ad 13)] [.ref (ad 2), .int (xs (i + 1)), .int (xs (i + 2))] (fun z => z.toInt64) I o P)
    (kk : ∀ (I2 : Nat → Nat → Int32) (o1 : Int64) (H1 : Heap) (locs1 : List Loc) (ls1 : Array Slot), P I2 → tp_Wd D cy n ad I2 o1 s H1 locs1 → lv_has ls1 7 (tp_lv b ad i) → W p l e room_1 s m #[Value.ref b] below meth c H1 locs1 (cells + 1) (slots + 6) Q (F0 m 1201 ls1 [])) : W p l e room_1 s m #[Value.ref b] below meth c H locs cells slots Q (F0 m 953 ls []) := by
  obtain ⟨hx, hb, hml, hown, hts, hX, hbl⟩ := C0
  obtain ⟨hP, hD, hS⟩ := hW0
  obtain ⟨fr, lo, mc, ms, fr2, lo2, k, r, I1, o1, I2, ⟨hr1, hr2, hr3, hr4, hr5, hr6⟩, hM1, hM2, hk, ho, hp2⟩ := hJ
  have hA : ∀ q : Nat, s.heap.size ≤ q → tp_Al s q := fun q h => h
  have hbA : ¬ tp_Al s b := Nat.not_le.mpr hbl
  change lv_has ls 7 [(4, .int (nI i)), (3, .ref (ad 13)), (2, .ref (ad 2)), (1, .ref (ad 0)), (0, .ref b)] at hl
  refine lv_aload_n hx hb dL_law_953 rfl (lv_at hl 3 rfl) ?_
  refine lv_aload_n hx hb dL_law_954 rfl (lv_at hl 4 rfl) ?_
  refine lv_iload hx hb dL_law_955 (lv_at hl 0 rfl) ?_
  refine lv_iconst (v := 1) hx hb dL_law_957 (by decide) ?_
  refine lv_iadd hx hb dL_law_958 ?_
  refine tp_sld hx hb hX hbl hbA hS (i + 1) (nI_add i 1) (by omega) hL dL_law_959 ?_
  refine lv_aload_n hx hb dL_law_960 rfl (lv_at hl 4 rfl) ?_
  refine lv_iload hx hb dL_law_961 (lv_at hl 0 rfl) ?_
  refine lv_iconst (v := 2) hx hb dL_law_963 (by decide) ?_
  refine lv_iadd hx hb dL_law_964 ?_
  refine tp_sld hx hb hX hbl hbA hS (i + 2) (nI_add i 2) (by omega) hL dL_law_965 ?_
  refine lv_aload_n hx hb dL_law_966 rfl (lv_at hl 1 rfl) ?_
  refine tp_callL (As := [.ref (ad 0), .int (xs (i + 1)), .int (xs (i + 2)), .ref (ad 13)]) (rest := []) ⟨hx, hb, hml, hown, hts⟩ hM1 (vx_cwSW 4 hts gL_law_L_assessed rfl rfl rfl (by decide +kernel) ⟨Nat.le_trans (Nat.add_le_add_right hr1 1) (Nat.le_of_ble_eq_true rfl), Nat.le_trans (Nat.add_le_add_left hr2 _) (Nat.le_of_ble_eq_true rfl)⟩) hE hK hP hD hS hA rfl hl.1 rfl (Nat.zero_le _) dL_law_967 ⟨Nat.le_trans (by omega : _ ≤ cells + 100) hcs.1, Nat.le_trans (by omega : _ ≤ slots + 1000) hcs.2⟩ (fun H locs hP hD hS => ?_)
  refine W.widen (k := cells + 1) (n := slots + 6) (by omega) (by omega) ?_
  refine lv_istore (lv' := (5, .int k) :: tp_lv b ad i) hx hb dL_law_970 hl (by decide) rfl (fun ls hl => ?_)
  refine lv_aload_n hx hb dL_law_972 rfl (lv_at hl 3 rfl) ?_
  refine lv_aload_n hx hb dL_law_973 rfl (lv_at hl 5 rfl) ?_
  refine lv_iload hx hb dL_law_974 (lv_at hl 1 rfl) ?_
  refine lv_iconst (v := 1) hx hb dL_law_976 (by decide) ?_
  refine lv_iadd hx hb dL_law_977 ?_
  refine tp_sld hx hb hX hbl hbA hS (i + 1) (nI_add i 1) (by omega) hL dL_law_978 ?_
  refine lv_aload_n hx hb dL_law_979 rfl (lv_at hl 5 rfl) ?_
  refine lv_iload hx hb dL_law_980 (lv_at hl 1 rfl) ?_
  refine lv_iconst (v := 2) hx hb dL_law_982 (by decide) ?_
  refine lv_iadd hx hb dL_law_983 ?_
  refine tp_sld hx hb hX hbl hbA hS (i + 2) (nI_add i 2) (by omega) hL dL_law_984 ?_
  refine tp_callV (As := [.int (xs (i + 1)), .int (xs (i + 2))]) (rest := []) ⟨hx, hb, hml, hown, hts⟩ hM2 (cwV 2 hts gL_law_X2_assessed rfl rfl rfl (by decide +kernel) ⟨Nat.le_trans (Nat.add_le_add_right hr5 1) (Nat.le_of_ble_eq_true rfl), Nat.le_trans (Nat.add_le_add_left hr6 _) (Nat.le_of_ble_eq_true rfl)⟩) hK hP hD hS hA 2 2 tp_e2 rfl rfl rfl hl.1 rfl (Nat.zero_le _) dL_law_985 ⟨Nat.le_trans (by omega : cells + 1 ≤ cells + 100) hcs.1, Nat.le_trans (by omega : slots + 6 ≤ slots + 1000) hcs.2⟩ (fun I9 e9 H locs hP hD hS => ?_)
  subst e9
  refine lv_istore (lv' := (6, .int r) :: (5, .int k) :: tp_lv b ad i) hx hb dL_law_988 hl (by decide) rfl (fun ls hl => ?_)
  refine lv_aload_n hx hb dL_law_990 rfl (lv_at hl 4 rfl) ?_
  refine tp_callV (As := []) (rest := []) ⟨hx, hb, hml, hown, hts⟩ (mc_thrown l D cy n ad o1 I2) (cwV 0 hts gL_law_X2_thrown rfl rfl rfl (by decide +kernel) ⟨(Nat.le_of_ble_eq_true rfl), (Nat.le_of_ble_eq_true rfl)⟩) hK hP hD hS hA 2 2 tp_e2 rfl rfl rfl hl.1 rfl (Nat.zero_le _) dL_law_991 ⟨Nat.le_trans (by omega : cells + 1 ≤ cells + 100) hcs.1, Nat.le_trans (by omega : slots + 6 ≤ slots + 1000) hcs.2⟩ (fun I9 e9 H locs hP hD hS => ?_)
  subst e9
  refine lv_iload hx hb dL_law_994 (lv_at hl 1 rfl) ?_
  refine lv_icmp_eq (tgt := 1001) hx hb dL_law_996 (by decide) (fun c1 => ?_) (fun c1 => absurd hk c1)
  have hl5 : lv_has ls 7 (tp_lv b ad i) := lv_sub hl [2, 3, 4, 5, 6] rfl
  refine lv_iload hx hb dL_law_1001 (lv_at hl 1 rfl) ?_
  refine lv_if_ne (tgt := 1018) hx hb dL_law_1003 (by decide) (fun c2 => ?_) (fun c2 => ?_)
  · refine lv_goto (tgt := 1201) hx hb dL_law_1018 (by decide) ?_
    exact kk I2 o1 H locs ls hp2 ⟨hP, hD, hS⟩ hl5
  · have ho := ho (by first | exact c2 | exact Decidable.of_not_not c2)
    refine lv_aload_n hx hb dL_law_1006 rfl (lv_at hl 3 rfl) ?_
    refine lv_iconst (v := 0) hx hb dL_law_1007 (by decide) ?_
    refine va_lald hx hb hK hP 13 2 (tp_at (by omega)) rfl (vp_in_nI (n := 0) (by decide) (by decide)) dL_law_1008 ?_
    refine lv_iload hx hb dL_law_1009 (lv_at hl 0 rfl) ?_
    refine lv_i2l hx hb dL_law_1011 rfl ?_
    refine W.lcmp hx hb dL_law_1012 ?_
    refine lv_if_eq (tgt := 1018) hx hb dL_law_1013 (by decide) (fun c3 => ?_) (fun c3 => absurd ((lg_cmp_eq _ _).mpr ho) c3)
    refine lv_goto (tgt := 1201) hx hb dL_law_1018 (by decide) ?_
    exact kk I2 o1 H locs ls hp2 ⟨hP, hD, hS⟩ hl5
set_option maxHeartbeats 4000000 in
set_option maxRecDepth 100000 in
/-- the case of paid -/
theorem lc_paid (l : Launch) {p : Program} {e : Env} {s : State} {m : MethodId} {below : List Frame} {meth : Method} {c : Code} {b L i : Nat} {xs : Nat → Int32} (C0 : tp_CX p s m meth c b L xs) (hi : i + 5 ≤ L) (hL : L ≤ 2560) {D : va_G} {cy : Nat → ClassId} {n : Nat} {ad : Nat → Nat} {I : Nat → Nat → Int32} {o : Int64} {sa : Nat → Nat} {tL tM : Nat} {H : Heap} {locs : List Loc} {cells slots : Nat} {Q : State → Prop} {ls : Array Slot}
    (hE : tp_EV sa tL tM (tp_Al s) s s.heap) (hK : va_K D vwCl (tp_ty cy) s) (hW0 : tp_Wd D cy n ad I o s H locs) (hcs : cells + 100 ≤ 601024 ∧ slots + 1000 ≤ 7293034) (hl : lv_has ls 7 (tp_lv b ad i)) {P : (Nat → Nat → Int32) → Prop}
    (hJ : tp_J l yL_paid wsL_paid yX2_paid wsX2_paid D cy n ad sa tL tM [.ref (ad 0), .int (xs (i + 1)), .int (xs (i + 2)), .ref (ad 13)] [.ref (ad 2), .int (xs (i + 1)), .int (xs (i + 2))] (fun z => z.toInt64) I o P)
    (kk : ∀ (I2 : Nat → Nat → Int32) (o1 : Int64) (H1 : Heap) (locs1 : List Loc) (ls1 : Array Slot), P I2 → tp_Wd D cy n ad I2 o1 s H1 locs1 → lv_has ls1 7 (tp_lv b ad i) → W p l e room_1 s m #[Value.ref b] below meth c H1 locs1 (cells + 1) (slots + 6) Q (F0 m 1201 ls1 [])) : W p l e room_1 s m #[Value.ref b] below meth c H locs cells slots Q (F0 m 1021 ls []) := by
  obtain ⟨hx, hb, hml, hown, hts, hX, hbl⟩ := C0
  obtain ⟨hP, hD, hS⟩ := hW0
  obtain ⟨fr, lo, mc, ms, fr2, lo2, k, r, I1, o1, I2, ⟨hr1, hr2, hr3, hr4, hr5, hr6⟩, hM1, hM2, hk, ho, hp2⟩ := hJ
  have hA : ∀ q : Nat, s.heap.size ≤ q → tp_Al s q := fun q h => h
  have hbA : ¬ tp_Al s b := Nat.not_le.mpr hbl
  change lv_has ls 7 [(4, .int (nI i)), (3, .ref (ad 13)), (2, .ref (ad 2)), (1, .ref (ad 0)), (0, .ref b)] at hl
  refine lv_aload_n hx hb dL_law_1021 rfl (lv_at hl 3 rfl) ?_
  refine lv_aload_n hx hb dL_law_1022 rfl (lv_at hl 4 rfl) ?_
  refine lv_iload hx hb dL_law_1023 (lv_at hl 0 rfl) ?_
  refine lv_iconst (v := 1) hx hb dL_law_1025 (by decide) ?_
  refine lv_iadd hx hb dL_law_1026 ?_
  refine tp_sld hx hb hX hbl hbA hS (i + 1) (nI_add i 1) (by omega) hL dL_law_1027 ?_
  refine lv_aload_n hx hb dL_law_1028 rfl (lv_at hl 4 rfl) ?_
  refine lv_iload hx hb dL_law_1029 (lv_at hl 0 rfl) ?_
  refine lv_iconst (v := 2) hx hb dL_law_1031 (by decide) ?_
  refine lv_iadd hx hb dL_law_1032 ?_
  refine tp_sld hx hb hX hbl hbA hS (i + 2) (nI_add i 2) (by omega) hL dL_law_1033 ?_
  refine lv_aload_n hx hb dL_law_1034 rfl (lv_at hl 1 rfl) ?_
  refine tp_callL (As := [.ref (ad 0), .int (xs (i + 1)), .int (xs (i + 2)), .ref (ad 13)]) (rest := []) ⟨hx, hb, hml, hown, hts⟩ hM1 (vx_cwSW 4 hts gL_law_L_paid rfl rfl rfl (by decide +kernel) ⟨Nat.le_trans (Nat.add_le_add_right hr1 1) (Nat.le_of_ble_eq_true rfl), Nat.le_trans (Nat.add_le_add_left hr2 _) (Nat.le_of_ble_eq_true rfl)⟩) hE hK hP hD hS hA rfl hl.1 rfl (Nat.zero_le _) dL_law_1035 ⟨Nat.le_trans (by omega : _ ≤ cells + 100) hcs.1, Nat.le_trans (by omega : _ ≤ slots + 1000) hcs.2⟩ (fun H locs hP hD hS => ?_)
  refine W.widen (k := cells + 1) (n := slots + 6) (by omega) (by omega) ?_
  refine lv_istore (lv' := (5, .int k) :: tp_lv b ad i) hx hb dL_law_1038 hl (by decide) rfl (fun ls hl => ?_)
  refine lv_aload_n hx hb dL_law_1040 rfl (lv_at hl 3 rfl) ?_
  refine lv_aload_n hx hb dL_law_1041 rfl (lv_at hl 5 rfl) ?_
  refine lv_iload hx hb dL_law_1042 (lv_at hl 1 rfl) ?_
  refine lv_iconst (v := 1) hx hb dL_law_1044 (by decide) ?_
  refine lv_iadd hx hb dL_law_1045 ?_
  refine tp_sld hx hb hX hbl hbA hS (i + 1) (nI_add i 1) (by omega) hL dL_law_1046 ?_
  refine lv_aload_n hx hb dL_law_1047 rfl (lv_at hl 5 rfl) ?_
  refine lv_iload hx hb dL_law_1048 (lv_at hl 1 rfl) ?_
  refine lv_iconst (v := 2) hx hb dL_law_1050 (by decide) ?_
  refine lv_iadd hx hb dL_law_1051 ?_
  refine tp_sld hx hb hX hbl hbA hS (i + 2) (nI_add i 2) (by omega) hL dL_law_1052 ?_
  refine tp_callV (As := [.int (xs (i + 1)), .int (xs (i + 2))]) (rest := []) ⟨hx, hb, hml, hown, hts⟩ hM2 (cwV 2 hts gL_law_X2_paid rfl rfl rfl (by decide +kernel) ⟨Nat.le_trans (Nat.add_le_add_right hr5 1) (Nat.le_of_ble_eq_true rfl), Nat.le_trans (Nat.add_le_add_left hr6 _) (Nat.le_of_ble_eq_true rfl)⟩) hK hP hD hS hA 2 2 tp_e2 rfl rfl rfl hl.1 rfl (Nat.zero_le _) dL_law_1053 ⟨Nat.le_trans (by omega : cells + 1 ≤ cells + 100) hcs.1, Nat.le_trans (by omega : slots + 6 ≤ slots + 1000) hcs.2⟩ (fun I9 e9 H locs hP hD hS => ?_)
  subst e9
  refine lv_istore (lv' := (6, .int r) :: (5, .int k) :: tp_lv b ad i) hx hb dL_law_1056 hl (by decide) rfl (fun ls hl => ?_)
  refine lv_aload_n hx hb dL_law_1058 rfl (lv_at hl 4 rfl) ?_
  refine tp_callV (As := []) (rest := []) ⟨hx, hb, hml, hown, hts⟩ (mc_thrown l D cy n ad o1 I2) (cwV 0 hts gL_law_X2_thrown rfl rfl rfl (by decide +kernel) ⟨(Nat.le_of_ble_eq_true rfl), (Nat.le_of_ble_eq_true rfl)⟩) hK hP hD hS hA 2 2 tp_e2 rfl rfl rfl hl.1 rfl (Nat.zero_le _) dL_law_1059 ⟨Nat.le_trans (by omega : cells + 1 ≤ cells + 100) hcs.1, Nat.le_trans (by omega : slots + 6 ≤ slots + 1000) hcs.2⟩ (fun I9 e9 H locs hP hD hS => ?_)
  subst e9
  refine lv_iload hx hb dL_law_1062 (lv_at hl 1 rfl) ?_
  refine lv_icmp_eq (tgt := 1069) hx hb dL_law_1064 (by decide) (fun c1 => ?_) (fun c1 => absurd hk c1)
  have hl5 : lv_has ls 7 (tp_lv b ad i) := lv_sub hl [2, 3, 4, 5, 6] rfl
  refine lv_iload hx hb dL_law_1069 (lv_at hl 1 rfl) ?_
  refine lv_if_ne (tgt := 1086) hx hb dL_law_1071 (by decide) (fun c2 => ?_) (fun c2 => ?_)
  · refine lv_goto (tgt := 1201) hx hb dL_law_1086 (by decide) ?_
    exact kk I2 o1 H locs ls hp2 ⟨hP, hD, hS⟩ hl5
  · have ho := ho (by first | exact c2 | exact Decidable.of_not_not c2)
    refine lv_aload_n hx hb dL_law_1074 rfl (lv_at hl 3 rfl) ?_
    refine lv_iconst (v := 0) hx hb dL_law_1075 (by decide) ?_
    refine va_lald hx hb hK hP 13 2 (tp_at (by omega)) rfl (vp_in_nI (n := 0) (by decide) (by decide)) dL_law_1076 ?_
    refine lv_iload hx hb dL_law_1077 (lv_at hl 0 rfl) ?_
    refine lv_i2l hx hb dL_law_1079 rfl ?_
    refine W.lcmp hx hb dL_law_1080 ?_
    refine lv_if_eq (tgt := 1086) hx hb dL_law_1081 (by decide) (fun c3 => ?_) (fun c3 => absurd ((lg_cmp_eq _ _).mpr ho) c3)
    refine lv_goto (tgt := 1201) hx hb dL_law_1086 (by decide) ?_
    exact kk I2 o1 H locs ls hp2 ⟨hP, hD, hS⟩ hl5
set_option maxHeartbeats 4000000 in
set_option maxRecDepth 100000 in
/-- the case of debt -/
theorem lc_debt (l : Launch) {p : Program} {e : Env} {s : State} {m : MethodId} {below : List Frame} {meth : Method} {c : Code} {b L i : Nat} {xs : Nat → Int32} (C0 : tp_CX p s m meth c b L xs) (hi : i + 5 ≤ L) (hL : L ≤ 2560) {D : va_G} {cy : Nat → ClassId} {n : Nat} {ad : Nat → Nat} {I : Nat → Nat → Int32} {o : Int64} {sa : Nat → Nat} {tL tM : Nat} {H : Heap} {locs : List Loc} {cells slots : Nat} {Q : State → Prop} {ls : Array Slot}
    (hE : tp_EV sa tL tM (tp_Al s) s s.heap) (hK : va_K D vwCl (tp_ty cy) s) (hW0 : tp_Wd D cy n ad I o s H locs) (hcs : cells + 100 ≤ 601024 ∧ slots + 1000 ≤ 7293034) (hl : lv_has ls 7 (tp_lv b ad i)) {P : (Nat → Nat → Int32) → Prop}
    (hJ : tp_J l yL_debt wsL_debt yX2_debt wsX2_debt D cy n ad sa tL tM [.ref (ad 0), .int (xs (i + 1)), .ref (ad 13)] [.ref (ad 2), .int (xs (i + 1))] (fun z => z.toInt64) I o P)
    (kk : ∀ (I2 : Nat → Nat → Int32) (o1 : Int64) (H1 : Heap) (locs1 : List Loc) (ls1 : Array Slot), P I2 → tp_Wd D cy n ad I2 o1 s H1 locs1 → lv_has ls1 7 (tp_lv b ad i) → W p l e room_1 s m #[Value.ref b] below meth c H1 locs1 (cells + 1) (slots + 6) Q (F0 m 1201 ls1 [])) : W p l e room_1 s m #[Value.ref b] below meth c H locs cells slots Q (F0 m 1089 ls []) := by
  obtain ⟨hx, hb, hml, hown, hts, hX, hbl⟩ := C0
  obtain ⟨hP, hD, hS⟩ := hW0
  obtain ⟨fr, lo, mc, ms, fr2, lo2, k, r, I1, o1, I2, ⟨hr1, hr2, hr3, hr4, hr5, hr6⟩, hM1, hM2, hk, ho, hp2⟩ := hJ
  have hA : ∀ q : Nat, s.heap.size ≤ q → tp_Al s q := fun q h => h
  have hbA : ¬ tp_Al s b := Nat.not_le.mpr hbl
  change lv_has ls 7 [(4, .int (nI i)), (3, .ref (ad 13)), (2, .ref (ad 2)), (1, .ref (ad 0)), (0, .ref b)] at hl
  refine lv_aload_n hx hb dL_law_1089 rfl (lv_at hl 3 rfl) ?_
  refine lv_aload_n hx hb dL_law_1090 rfl (lv_at hl 4 rfl) ?_
  refine lv_iload hx hb dL_law_1091 (lv_at hl 0 rfl) ?_
  refine lv_iconst (v := 1) hx hb dL_law_1093 (by decide) ?_
  refine lv_iadd hx hb dL_law_1094 ?_
  refine tp_sld hx hb hX hbl hbA hS (i + 1) (nI_add i 1) (by omega) hL dL_law_1095 ?_
  refine lv_aload_n hx hb dL_law_1096 rfl (lv_at hl 1 rfl) ?_
  refine tp_callL (As := [.ref (ad 0), .int (xs (i + 1)), .ref (ad 13)]) (rest := []) ⟨hx, hb, hml, hown, hts⟩ hM1 (vx_cwSW 3 hts gL_law_L_debt rfl rfl rfl (by decide +kernel) ⟨Nat.le_trans (Nat.add_le_add_right hr1 1) (Nat.le_of_ble_eq_true rfl), Nat.le_trans (Nat.add_le_add_left hr2 _) (Nat.le_of_ble_eq_true rfl)⟩) hE hK hP hD hS hA rfl hl.1 rfl (Nat.zero_le _) dL_law_1097 ⟨Nat.le_trans (by omega : _ ≤ cells + 100) hcs.1, Nat.le_trans (by omega : _ ≤ slots + 1000) hcs.2⟩ (fun H locs hP hD hS => ?_)
  refine W.widen (k := cells + 1) (n := slots + 6) (by omega) (by omega) ?_
  refine lv_istore (lv' := (5, .int k) :: tp_lv b ad i) hx hb dL_law_1100 hl (by decide) rfl (fun ls hl => ?_)
  refine lv_aload_n hx hb dL_law_1102 rfl (lv_at hl 3 rfl) ?_
  refine lv_aload_n hx hb dL_law_1103 rfl (lv_at hl 5 rfl) ?_
  refine lv_iload hx hb dL_law_1104 (lv_at hl 1 rfl) ?_
  refine lv_iconst (v := 1) hx hb dL_law_1106 (by decide) ?_
  refine lv_iadd hx hb dL_law_1107 ?_
  refine tp_sld hx hb hX hbl hbA hS (i + 1) (nI_add i 1) (by omega) hL dL_law_1108 ?_
  refine tp_callV (As := [.int (xs (i + 1))]) (rest := []) ⟨hx, hb, hml, hown, hts⟩ hM2 (cwV 1 hts gL_law_X2_debt rfl rfl rfl (by decide +kernel) ⟨Nat.le_trans (Nat.add_le_add_right hr5 1) (Nat.le_of_ble_eq_true rfl), Nat.le_trans (Nat.add_le_add_left hr6 _) (Nat.le_of_ble_eq_true rfl)⟩) hK hP hD hS hA 2 2 tp_e2 rfl rfl rfl hl.1 rfl (Nat.zero_le _) dL_law_1109 ⟨Nat.le_trans (by omega : cells + 1 ≤ cells + 100) hcs.1, Nat.le_trans (by omega : slots + 6 ≤ slots + 1000) hcs.2⟩ (fun I9 e9 H locs hP hD hS => ?_)
  subst e9
  refine lv_istore (lv' := (6, .int r) :: (5, .int k) :: tp_lv b ad i) hx hb dL_law_1112 hl (by decide) rfl (fun ls hl => ?_)
  refine lv_aload_n hx hb dL_law_1114 rfl (lv_at hl 4 rfl) ?_
  refine tp_callV (As := []) (rest := []) ⟨hx, hb, hml, hown, hts⟩ (mc_thrown l D cy n ad o1 I2) (cwV 0 hts gL_law_X2_thrown rfl rfl rfl (by decide +kernel) ⟨(Nat.le_of_ble_eq_true rfl), (Nat.le_of_ble_eq_true rfl)⟩) hK hP hD hS hA 2 2 tp_e2 rfl rfl rfl hl.1 rfl (Nat.zero_le _) dL_law_1115 ⟨Nat.le_trans (by omega : cells + 1 ≤ cells + 100) hcs.1, Nat.le_trans (by omega : slots + 6 ≤ slots + 1000) hcs.2⟩ (fun I9 e9 H locs hP hD hS => ?_)
  subst e9
  refine lv_iload hx hb dL_law_1118 (lv_at hl 1 rfl) ?_
  refine lv_icmp_eq (tgt := 1125) hx hb dL_law_1120 (by decide) (fun c1 => ?_) (fun c1 => absurd hk c1)
  have hl5 : lv_has ls 7 (tp_lv b ad i) := lv_sub hl [2, 3, 4, 5, 6] rfl
  refine lv_iload hx hb dL_law_1125 (lv_at hl 1 rfl) ?_
  refine lv_if_ne (tgt := 1142) hx hb dL_law_1127 (by decide) (fun c2 => ?_) (fun c2 => ?_)
  · refine lv_goto (tgt := 1201) hx hb dL_law_1142 (by decide) ?_
    exact kk I2 o1 H locs ls hp2 ⟨hP, hD, hS⟩ hl5
  · have ho := ho (by first | exact c2 | exact Decidable.of_not_not c2)
    refine lv_aload_n hx hb dL_law_1130 rfl (lv_at hl 3 rfl) ?_
    refine lv_iconst (v := 0) hx hb dL_law_1131 (by decide) ?_
    refine va_lald hx hb hK hP 13 2 (tp_at (by omega)) rfl (vp_in_nI (n := 0) (by decide) (by decide)) dL_law_1132 ?_
    refine lv_iload hx hb dL_law_1133 (lv_at hl 0 rfl) ?_
    refine lv_i2l hx hb dL_law_1135 rfl ?_
    refine W.lcmp hx hb dL_law_1136 ?_
    refine lv_if_eq (tgt := 1142) hx hb dL_law_1137 (by decide) (fun c3 => ?_) (fun c3 => absurd ((lg_cmp_eq _ _).mpr ho) c3)
    refine lv_goto (tgt := 1201) hx hb dL_law_1142 (by decide) ?_
    exact kk I2 o1 H locs ls hp2 ⟨hP, hD, hS⟩ hl5
set_option maxHeartbeats 4000000 in
set_option maxRecDepth 100000 in
/-- the case of recovered -/
theorem lc_recovered (l : Launch) {p : Program} {e : Env} {s : State} {m : MethodId} {below : List Frame} {meth : Method} {c : Code} {b L i : Nat} {xs : Nat → Int32} (C0 : tp_CX p s m meth c b L xs) (hi : i + 5 ≤ L) (hL : L ≤ 2560) {D : va_G} {cy : Nat → ClassId} {n : Nat} {ad : Nat → Nat} {I : Nat → Nat → Int32} {o : Int64} {sa : Nat → Nat} {tL tM : Nat} {H : Heap} {locs : List Loc} {cells slots : Nat} {Q : State → Prop} {ls : Array Slot}
    (hE : tp_EV sa tL tM (tp_Al s) s s.heap) (hK : va_K D vwCl (tp_ty cy) s) (hW0 : tp_Wd D cy n ad I o s H locs) (hcs : cells + 100 ≤ 601024 ∧ slots + 1000 ≤ 7293034) (hl : lv_has ls 7 (tp_lv b ad i)) {P : (Nat → Nat → Int32) → Prop}
    (hJ : tp_J l yL_recovered wsL_recovered yX2_recovered wsX2_recovered D cy n ad sa tL tM [.ref (ad 0), .int (xs (i + 1)), .ref (ad 13)] [.ref (ad 2), .int (xs (i + 1))] (fun z => z.toInt64) I o P)
    (kk : ∀ (I2 : Nat → Nat → Int32) (o1 : Int64) (H1 : Heap) (locs1 : List Loc) (ls1 : Array Slot), P I2 → tp_Wd D cy n ad I2 o1 s H1 locs1 → lv_has ls1 7 (tp_lv b ad i) → W p l e room_1 s m #[Value.ref b] below meth c H1 locs1 (cells + 1) (slots + 6) Q (F0 m 1201 ls1 [])) : W p l e room_1 s m #[Value.ref b] below meth c H locs cells slots Q (F0 m 1145 ls []) := by
  obtain ⟨hx, hb, hml, hown, hts, hX, hbl⟩ := C0
  obtain ⟨hP, hD, hS⟩ := hW0
  obtain ⟨fr, lo, mc, ms, fr2, lo2, k, r, I1, o1, I2, ⟨hr1, hr2, hr3, hr4, hr5, hr6⟩, hM1, hM2, hk, ho, hp2⟩ := hJ
  have hA : ∀ q : Nat, s.heap.size ≤ q → tp_Al s q := fun q h => h
  have hbA : ¬ tp_Al s b := Nat.not_le.mpr hbl
  change lv_has ls 7 [(4, .int (nI i)), (3, .ref (ad 13)), (2, .ref (ad 2)), (1, .ref (ad 0)), (0, .ref b)] at hl
  refine lv_aload_n hx hb dL_law_1145 rfl (lv_at hl 3 rfl) ?_
  refine lv_aload_n hx hb dL_law_1146 rfl (lv_at hl 4 rfl) ?_
  refine lv_iload hx hb dL_law_1147 (lv_at hl 0 rfl) ?_
  refine lv_iconst (v := 1) hx hb dL_law_1149 (by decide) ?_
  refine lv_iadd hx hb dL_law_1150 ?_
  refine tp_sld hx hb hX hbl hbA hS (i + 1) (nI_add i 1) (by omega) hL dL_law_1151 ?_
  refine lv_aload_n hx hb dL_law_1152 rfl (lv_at hl 1 rfl) ?_
  refine tp_callL (As := [.ref (ad 0), .int (xs (i + 1)), .ref (ad 13)]) (rest := []) ⟨hx, hb, hml, hown, hts⟩ hM1 (vx_cwSW 3 hts gL_law_L_recovered rfl rfl rfl (by decide +kernel) ⟨Nat.le_trans (Nat.add_le_add_right hr1 1) (Nat.le_of_ble_eq_true rfl), Nat.le_trans (Nat.add_le_add_left hr2 _) (Nat.le_of_ble_eq_true rfl)⟩) hE hK hP hD hS hA rfl hl.1 rfl (Nat.zero_le _) dL_law_1153 ⟨Nat.le_trans (by omega : _ ≤ cells + 100) hcs.1, Nat.le_trans (by omega : _ ≤ slots + 1000) hcs.2⟩ (fun H locs hP hD hS => ?_)
  refine W.widen (k := cells + 1) (n := slots + 6) (by omega) (by omega) ?_
  refine lv_istore (lv' := (5, .int k) :: tp_lv b ad i) hx hb dL_law_1156 hl (by decide) rfl (fun ls hl => ?_)
  refine lv_aload_n hx hb dL_law_1158 rfl (lv_at hl 3 rfl) ?_
  refine lv_aload_n hx hb dL_law_1159 rfl (lv_at hl 5 rfl) ?_
  refine lv_iload hx hb dL_law_1160 (lv_at hl 1 rfl) ?_
  refine lv_iconst (v := 1) hx hb dL_law_1162 (by decide) ?_
  refine lv_iadd hx hb dL_law_1163 ?_
  refine tp_sld hx hb hX hbl hbA hS (i + 1) (nI_add i 1) (by omega) hL dL_law_1164 ?_
  refine tp_callV (As := [.int (xs (i + 1))]) (rest := []) ⟨hx, hb, hml, hown, hts⟩ hM2 (cwV 1 hts gL_law_X2_recovered rfl rfl rfl (by decide +kernel) ⟨Nat.le_trans (Nat.add_le_add_right hr5 1) (Nat.le_of_ble_eq_true rfl), Nat.le_trans (Nat.add_le_add_left hr6 _) (Nat.le_of_ble_eq_true rfl)⟩) hK hP hD hS hA 2 2 tp_e2 rfl rfl rfl hl.1 rfl (Nat.zero_le _) dL_law_1165 ⟨Nat.le_trans (by omega : cells + 1 ≤ cells + 100) hcs.1, Nat.le_trans (by omega : slots + 6 ≤ slots + 1000) hcs.2⟩ (fun I9 e9 H locs hP hD hS => ?_)
  subst e9
  refine lv_istore (lv' := (6, .int r) :: (5, .int k) :: tp_lv b ad i) hx hb dL_law_1168 hl (by decide) rfl (fun ls hl => ?_)
  refine lv_aload_n hx hb dL_law_1170 rfl (lv_at hl 4 rfl) ?_
  refine tp_callV (As := []) (rest := []) ⟨hx, hb, hml, hown, hts⟩ (mc_thrown l D cy n ad o1 I2) (cwV 0 hts gL_law_X2_thrown rfl rfl rfl (by decide +kernel) ⟨(Nat.le_of_ble_eq_true rfl), (Nat.le_of_ble_eq_true rfl)⟩) hK hP hD hS hA 2 2 tp_e2 rfl rfl rfl hl.1 rfl (Nat.zero_le _) dL_law_1171 ⟨Nat.le_trans (by omega : cells + 1 ≤ cells + 100) hcs.1, Nat.le_trans (by omega : slots + 6 ≤ slots + 1000) hcs.2⟩ (fun I9 e9 H locs hP hD hS => ?_)
  subst e9
  refine lv_iload hx hb dL_law_1174 (lv_at hl 1 rfl) ?_
  refine lv_icmp_eq (tgt := 1181) hx hb dL_law_1176 (by decide) (fun c1 => ?_) (fun c1 => absurd hk c1)
  have hl5 : lv_has ls 7 (tp_lv b ad i) := lv_sub hl [2, 3, 4, 5, 6] rfl
  refine lv_iload hx hb dL_law_1181 (lv_at hl 1 rfl) ?_
  refine lv_if_ne (tgt := 1198) hx hb dL_law_1183 (by decide) (fun c2 => ?_) (fun c2 => ?_)
  · refine lv_goto (tgt := 1201) hx hb dL_law_1198 (by decide) ?_
    exact kk I2 o1 H locs ls hp2 ⟨hP, hD, hS⟩ hl5
  · have ho := ho (by first | exact c2 | exact Decidable.of_not_not c2)
    refine lv_aload_n hx hb dL_law_1186 rfl (lv_at hl 3 rfl) ?_
    refine lv_iconst (v := 0) hx hb dL_law_1187 (by decide) ?_
    refine va_lald hx hb hK hP 13 2 (tp_at (by omega)) rfl (vp_in_nI (n := 0) (by decide) (by decide)) dL_law_1188 ?_
    refine lv_iload hx hb dL_law_1189 (lv_at hl 0 rfl) ?_
    refine lv_i2l hx hb dL_law_1191 rfl ?_
    refine W.lcmp hx hb dL_law_1192 ?_
    refine lv_if_eq (tgt := 1198) hx hb dL_law_1193 (by decide) (fun c3 => ?_) (fun c3 => absurd ((lg_cmp_eq _ _).mpr ho) c3)
    refine lv_goto (tgt := 1201) hx hb dL_law_1198 (by decide) ?_
    exact kk I2 o1 H locs ls hp2 ⟨hP, hD, hS⟩ hl5
set_option maxHeartbeats 4000000 in
set_option maxRecDepth 100000 in
/-- the case of households -/
theorem lc_households (l : Launch) {p : Program} {e : Env} {s : State} {m : MethodId} {below : List Frame} {meth : Method} {c : Code} {b L i : Nat} {xs : Nat → Int32} (C0 : tp_CX p s m meth c b L xs) {D : va_G} {cy : Nat → ClassId} {n : Nat} {ad : Nat → Nat} {I : Nat → Nat → Int32} {o : Int64} {H : Heap} {locs : List Loc} {cells slots : Nat} {Q : State → Prop} {ls : Array Slot}
    (hK : va_K D vwCl (tp_ty cy) s) (hW0 : tp_Wd D cy n ad I o s H locs) (hcs : cells + 100 ≤ 601024 ∧ slots + 1000 ≤ 7293034) (hl : lv_has ls 7 (tp_lv b ad i)) (hr : (I 0 1) = I 2 2)
    (kk : ∀ (H1 : Heap) (locs1 : List Loc), tp_Wd D cy n ad (tp_u I 2 0 0) o s H1 locs1 → W p l e room_1 s m #[Value.ref b] below meth c H1 locs1 cells slots Q (F0 m 1201 ls [])) : W p l e room_1 s m #[Value.ref b] below meth c H locs cells slots Q (F0 m 419 ls []) := by
  obtain ⟨hx, hb, hml, hown, hts, hX, hbl⟩ := C0
  obtain ⟨hP, hD, hS⟩ := hW0
  have hA : ∀ q : Nat, s.heap.size ≤ q → tp_Al s q := fun q h => h
  change lv_has ls 7 [(4, .int (nI i)), (3, .ref (ad 13)), (2, .ref (ad 2)), (1, .ref (ad 0)), (0, .ref b)] at hl
  refine lv_aload_n hx hb dL_law_419 rfl (lv_at hl 3 rfl) ?_
  refine tp_callV (As := []) (rest := []) ⟨hx, hb, hml, hown, hts⟩ (op_households l D cy n ad o I) (cwV 0 hts gL_law_X1_households rfl rfl rfl (by decide +kernel) ⟨(Nat.le_of_ble_eq_true rfl), (Nat.le_of_ble_eq_true rfl)⟩) hK hP hD hS hA 0 1 tp_e0 rfl rfl rfl hl.1 rfl (Nat.zero_le _) dL_law_420 ⟨Nat.le_trans (by omega : cells ≤ cells + 100) hcs.1, Nat.le_trans (by omega : slots ≤ slots + 1000) hcs.2⟩ (fun I9 e9 H locs hP hD hS => ?_)
  subst e9
  refine lv_aload_n hx hb dL_law_423 rfl (lv_at hl 2 rfl) ?_
  refine tp_callV (As := []) (rest := [.int (I 0 1)]) ⟨hx, hb, hml, hown, hts⟩ (mp_households_all l D cy n ad o I) (cwV 0 hts gL_law_X2_households rfl rfl rfl (by decide +kernel) ⟨(Nat.le_of_ble_eq_true rfl), (Nat.le_of_ble_eq_true rfl)⟩) hK hP hD hS hA 2 2 tp_e2 rfl rfl rfl hl.1 rfl (Nat.le_of_ble_eq_true rfl) dL_law_424 ⟨Nat.le_trans (by omega : cells ≤ cells + 100) hcs.1, Nat.le_trans (by omega : slots ≤ slots + 1000) hcs.2⟩ (fun I9 e9 H locs hP hD hS => ?_)
  subst e9
  refine lv_icmp_eq (tgt := 1201) hx hb dL_law_427 (by decide) (fun c1 => ?_) (fun c1 => absurd hr c1)
  exact kk H locs ⟨hP, hD, hS⟩
set_option maxHeartbeats 4000000 in
set_option maxRecDepth 100000 in
/-- the case of month -/
theorem lc_month (l : Launch) {p : Program} {e : Env} {s : State} {m : MethodId} {below : List Frame} {meth : Method} {c : Code} {b L i : Nat} {xs : Nat → Int32} (C0 : tp_CX p s m meth c b L xs) {D : va_G} {cy : Nat → ClassId} {n : Nat} {ad : Nat → Nat} {I : Nat → Nat → Int32} {o : Int64} {H : Heap} {locs : List Loc} {cells slots : Nat} {Q : State → Prop} {ls : Array Slot}
    (hK : va_K D vwCl (tp_ty cy) s) (hW0 : tp_Wd D cy n ad I o s H locs) (hcs : cells + 100 ≤ 601024 ∧ slots + 1000 ≤ 7293034) (hl : lv_has ls 7 (tp_lv b ad i)) (hr : ((if 48 ≤ I 0 2 then -1 else I 0 2)) = (if 48 ≤ I 2 1 then -1 else I 2 1))
    (kk : ∀ (H1 : Heap) (locs1 : List Loc), tp_Wd D cy n ad (tp_u I 2 0 0) o s H1 locs1 → W p l e room_1 s m #[Value.ref b] below meth c H1 locs1 cells slots Q (F0 m 1201 ls [])) : W p l e room_1 s m #[Value.ref b] below meth c H locs cells slots Q (F0 m 476 ls []) := by
  obtain ⟨hx, hb, hml, hown, hts, hX, hbl⟩ := C0
  obtain ⟨hP, hD, hS⟩ := hW0
  have hA : ∀ q : Nat, s.heap.size ≤ q → tp_Al s q := fun q h => h
  change lv_has ls 7 [(4, .int (nI i)), (3, .ref (ad 13)), (2, .ref (ad 2)), (1, .ref (ad 0)), (0, .ref b)] at hl
  refine lv_aload_n hx hb dL_law_476 rfl (lv_at hl 3 rfl) ?_
  refine tp_callV (As := []) (rest := []) ⟨hx, hb, hml, hown, hts⟩ (op_month l D cy n ad o I) (cwV 0 hts gL_law_X1_month rfl rfl rfl (by decide +kernel) ⟨(Nat.le_of_ble_eq_true rfl), (Nat.le_of_ble_eq_true rfl)⟩) hK hP hD hS hA 0 1 tp_e0 rfl rfl rfl hl.1 rfl (Nat.zero_le _) dL_law_477 ⟨Nat.le_trans (by omega : cells ≤ cells + 100) hcs.1, Nat.le_trans (by omega : slots ≤ slots + 1000) hcs.2⟩ (fun I9 e9 H locs hP hD hS => ?_)
  subst e9
  refine lv_aload_n hx hb dL_law_480 rfl (lv_at hl 2 rfl) ?_
  refine tp_callV (As := []) (rest := [.int ((if 48 ≤ I 0 2 then -1 else I 0 2))]) ⟨hx, hb, hml, hown, hts⟩ (mp_month_all l D cy n ad o I) (cwV 0 hts gL_law_X2_month rfl rfl rfl (by decide +kernel) ⟨(Nat.le_of_ble_eq_true rfl), (Nat.le_of_ble_eq_true rfl)⟩) hK hP hD hS hA 2 2 tp_e2 rfl rfl rfl hl.1 rfl (Nat.le_of_ble_eq_true rfl) dL_law_481 ⟨Nat.le_trans (by omega : cells ≤ cells + 100) hcs.1, Nat.le_trans (by omega : slots ≤ slots + 1000) hcs.2⟩ (fun I9 e9 H locs hP hD hS => ?_)
  subst e9
  refine lv_icmp_eq (tgt := 1201) hx hb dL_law_484 (by decide) (fun c1 => ?_) (fun c1 => absurd hr c1)
  exact kk H locs ⟨hP, hD, hS⟩
