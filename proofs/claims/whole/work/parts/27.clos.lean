/-! CLOSING, AND ADDING -/
theorem tc_oth {I : Nat → Nat → Int32} {a : Nat → Nat} {e c : Nat} : ∀ k, (∀ j, j < k → c ≠ 14 + 15 * j ∧ c ≠ 14 + 15 * j + 13 ∧ c ≠ 14 + 15 * j + 14) → tp_ost I a e k c = I c
  | 0, _ => rfl
  | k + 1, h => by
    show tp_settle (tp_ost I a e k) (14 + 15 * k) (a k) e c = I c
    obtain ⟨h0, h1, h2⟩ := h k (by omega)
    rw [tp_settle_oth h0 h1 h2]
    exact tc_oth k (fun j hj => h j (by omega))
theorem tc_at {I : Nat → Nat → Int32} {a : Nat → Nat} {e h d : Nat} (hd : d < 15) : ∀ k, h < k → tp_ost I a e k (14 + 15 * h + d) = tp_settle (tp_ost I a e h) (14 + 15 * h) (a h) e (14 + 15 * h + d)
  | 0, hk => by omega
  | k + 1, hk => by
    by_cases ek : h = k
    · subst ek
      rfl
    · show tp_settle (tp_ost I a e k) (14 + 15 * k) (a k) e (14 + 15 * h + d) = _
      rw [tp_settle_oth (by omega) (by omega) (by omega)]
      exact tc_at hd k (by omega)
def tc_own (c j h : Nat) : Prop := ((c = 10 ∨ c = 11) ∧ j = h) ∨ ((c = 8 ∨ c = 9) ∧ 48 * h ≤ j ∧ j < 48 * h + 48)
theorem tc_mcl {I : Nat → Nat → Int32} {a e k c j h : Nat} (ha : a ≤ e) (he : e < 48) (hkh : k ≠ h) (ho : tc_own c j h) : tp_mcl I a e k c j = I c j := by
  unfold tp_mcl tp_reck
  rcases ho with ⟨h1 | h1, h2⟩ | ⟨h1 | h1, h2, h3⟩
  · subst h1
    subst h2
    rw [tp_fill_oth (by decide), tp_u_oth (by decide), tp_u_oth (by decide), tp_u_n (Ne.symm hkh), tp_u_oth (by decide), tp_u_oth (by decide), tp_u_oth (by decide)]
  · subst h1
    subst h2
    rw [tp_fill_oth (by decide), tp_u_oth (by decide), tp_u_n (Ne.symm hkh), tp_u_oth (by decide), tp_u_oth (by decide), tp_u_oth (by decide), tp_u_oth (by decide)]
  · subst h1
    rw [tp_fill_at]
    dsimp only
    rw [if_neg (by omega), tp_u_oth (by decide), tp_u_oth (by decide), tp_u_oth (by decide), tp_u_oth (by decide), tp_u_oth (by decide), tp_u_oth (by decide)]
  · subst h1
    rw [tp_fill_oth (by decide), tp_u_n (by omega), tp_u_oth (by decide), tp_u_oth (by decide), tp_u_oth (by decide), tp_u_oth (by decide), tp_u_oth (by decide)]
theorem tc_lo {I : Nat → Nat → Int32} {a : Nat → Nat} {e c j h : Nat} (he : e < 48) (ho : tc_own c j h) : ∀ k, k ≤ h → (∀ i, i < k → a i ≤ e) → tp_cls I a e k c j = I c j
  | 0, _, _ => by
    show tp_u I 2 0 0 c j = I c j
    rw [tp_u_oth (by unfold tc_own at ho; omega)]
  | k + 1, hk, ha => by
    show tp_mcl (tp_cls I a e k) (a k) e k c j = I c j
    rw [tc_mcl (ha k (by omega)) he (by omega : k ≠ h) ho]
    exact tc_lo he ho k (by omega) (fun i hi => ha i (by omega))
theorem tc_hi {I : Nat → Nat → Int32} {a : Nat → Nat} {e c j h : Nat} (he : e < 48) (ho : tc_own c j h) : ∀ k, h < k → (∀ i, i < k → a i ≤ e) → tp_cls I a e k c j = tp_mcl (tp_cls I a e h) (a h) e h c j
  | 0, hk, _ => by omega
  | k + 1, hk, ha => by
    by_cases ek : h = k
    · subst ek
      rfl
    · show tp_mcl (tp_cls I a e k) (a k) e k c j = _
      rw [tc_mcl (ha k (by omega)) he (by omega : k ≠ h) ho]
      exact tc_hi he ho k (by omega) (fun i hi => ha i (by omega))
theorem tc_20 {I : Nat → Nat → Int32} {a : Nat → Nat} {e : Nat} : ∀ k, tp_cls I a e k 2 0 = 0
  | 0 => tp_u_s
  | k + 1 => (tp_mcl_keep2 (by decide)).trans (tc_20 k)
section TPK
variable {I I1 : Nat → Nat → Int32} {n e : Nat} {aF cF : Nat → Nat}
/-- the household that is closed next, as it stood -/
theorem tc_J (RH : ∀ h, h < n → tp_relH I e h (aF h) (cF h)) {h : Nat} (hh : h < n) (hn : n ≤ 6) : tp_relH (tp_ost I aF e h) e h (aF h) (cF h) := by
  have m : ∀ c, c < 14 → tp_ost I aF e h c = I c := fun c hc => tc_oth h (fun j hj => by omega)
  exact tr_same (RH h hh) (fun j hj => tc_oth h (fun i hi => by omega)) (by rw [m 3 (by decide)]) (by rw [m 4 (by decide)]) (fun j hj => by rw [m 5 (by decide), m 6 (by decide), m 7 (by decide)]; exact ⟨rfl, rfl, rfl⟩) (fun i hi => by rw [m 8 (by decide), m 9 (by decide)]; exact ⟨rfl, rfl⟩) (by rw [m 10 (by decide)]) (by rw [m 11 (by decide)]) (by rw [m 12 (by decide)])
/-- the model, as it stood then -/
theorem tc_K (hI : ∀ c, 3 ≤ c → c < 14 → I1 c = I c) (he : e < 48) {h : Nat} (ha : ∀ i, i < h → aF i ≤ e) : (∀ c, 3 ≤ c → c < 8 → tp_cls I1 aF e h c = I c) ∧ tp_cls I1 aF e h 12 = I 12 ∧ tp_cls I1 aF e h 10 h = I 10 h ∧ tp_cls I1 aF e h 11 h = I 11 h ∧ ∀ m, m < 48 → tp_cls I1 aF e h 8 (48 * h + m) = I 8 (48 * h + m) ∧ tp_cls I1 aF e h 9 (48 * h + m) = I 9 (48 * h + m) := by
  refine ⟨fun c h1 h2 => ?_, ?_, ?_, ?_, fun m hm => ⟨?_, ?_⟩⟩
  · rw [tp_cls_keep (by omega) (by omega) (by omega) (by omega) (by omega) h, hI c h1 (by omega)]
  · rw [tp_cls_keep (by omega) (by omega) (by omega) (by omega) (by omega) h, hI 12 (by omega) (by omega)]
  · rw [tc_lo he (h := h) (Or.inl ⟨Or.inl rfl, rfl⟩) h (Nat.le_refl _) ha, hI 10 (by decide) (by decide)]
  · rw [tc_lo he (h := h) (Or.inl ⟨Or.inr rfl, rfl⟩) h (Nat.le_refl _) ha, hI 11 (by decide) (by decide)]
  · rw [tc_lo he (h := h) (Or.inr ⟨Or.inl rfl, by omega, by omega⟩) h (Nat.le_refl _) ha, hI 8 (by decide) (by decide)]
  · rw [tc_lo he (h := h) (Or.inr ⟨Or.inr rfl, by omega, by omega⟩) h (Nat.le_refl _) ha, hI 9 (by decide) (by decide)]
/-- what both reckon for a household -/
theorem tc_same (RH : ∀ h, h < n → tp_relH I e h (aF h) (cF h)) (hn : n ≤ 6) (hI : ∀ c, 3 ≤ c → c < 14 → I1 c = I c) (he : e < 48) {h : Nat} (hh : h < n) :
    tp_mopen (tp_cls I1 aF e h) h (aF h) e = tp_mopen (tp_ost I aF e h) h (aF h) e ∧ (∀ X, tp_rthen (tp_cls I1 aF e h) h X = tp_rthen (tp_ost I aF e h) h X ∧ tp_rtaken (tp_cls I1 aF e h) h (nI e) X = tp_rtaken (tp_ost I aF e h) h (nI e) X ∧ tp_rpay (tp_cls I1 aF e h) h (nI e) X = tp_rpay (tp_ost I aF e h) h (nI e) X) ∧ ∀ m, tp_mdue (tp_cls I1 aF e h) h m = tp_mdue (tp_ost I aF e h) h m := by
  have m : ∀ c, c < 14 → tp_ost I aF e h c = I c := fun c hc => tc_oth h (fun j hj => by omega)
  obtain ⟨k1, k12, k10, k11, k8⟩ := tc_K (I := I) (I1 := I1) hI he (h := h) (fun i hi => (RH i (by omega)).1.1)
  have e4 : tp_cls I1 aF e h 4 = tp_ost I aF e h 4 := by rw [k1 4 (by decide) (by decide), m 4 (by decide)]
  have e5 : tp_cls I1 aF e h 5 = tp_ost I aF e h 5 := by rw [k1 5 (by decide) (by decide), m 5 (by decide)]
  have e6 : tp_cls I1 aF e h 6 = tp_ost I aF e h 6 := by rw [k1 6 (by decide) (by decide), m 6 (by decide)]
  have e7 : tp_cls I1 aF e h 7 = tp_ost I aF e h 7 := by rw [k1 7 (by decide) (by decide), m 7 (by decide)]
  refine ⟨tp_mopen_cong e4 e5 e6 e7 (fun j hj => by rw [(k8 j hj).1, m 8 (by decide)]) (by omega), fun X => tm_rec_cong e4 e5 e6 e7 (by rw [k10, m 10 (by decide)]) (by rw [k12, m 12 (by decide)]) (nI e) X, fun q => tp_mdue_cong e4 e5 e6 e7⟩
theorem tc_sum (RH : ∀ h, h < n → tp_relH I e h (aF h) (cF h)) (hn : n ≤ 6) (hI : ∀ c, 3 ≤ c → c < 14 → I1 c = I c) (he : e < 48) : ∀ k, k ≤ n → tp_osum I aF e k = tp_clsum I1 aF e k
  | 0, _ => rfl
  | k + 1, hk => by
    show tp_osum I aF e k + tp_paym (tp_ost I aF e k) (14 + 15 * k) (aF k) e = tp_clsum I1 aF e k + tp_rpay (tp_cls I1 aF e k) k (nI e) (tp_mopen (tp_cls I1 aF e k) k (aF k) e)
    obtain ⟨s1, s2, -⟩ := tc_same RH hn hI he (show k < n by omega)
    rw [tc_sum RH hn hI he k (by omega), s1, (s2 _).2.2, tr_pay (tc_J RH (show k < n by omega) hn) he]
theorem tc_rel (RH : ∀ h, h < n → tp_relH I e h (aF h) (cF h)) (hn : n ≤ 6) (he : e < 48) (h01 : I 0 1 = nI n) (h22 : I 2 2 = nI n) (RF : ∀ h, n ≤ h → h < 6 → tp_fh I h) (hI1 : I1 = tp_u (tp_ost I aF e n) 0 2 (nI (e + 1))) : tp_rel n (tp_u (tp_cls I1 aF e n) 2 1 (nI (e + 1))) := by
  have i1 : ∀ c, c ≠ 0 → I1 c = tp_ost I aF e n c := fun c hc => by rw [hI1, tp_u_oth hc]
  have i2 : ∀ c, 3 ≤ c → c < 14 → I1 c = I c := fun c h1 h2 => by rw [i1 c (by omega), tc_oth n (fun j hj => by omega)]
  have ha : ∀ i, i < n → aF i ≤ e := fun i hi => (RH i hi).1.1
  have j0 : ∀ c, c ≠ 2 → tp_u (tp_cls I1 aF e n) 2 1 (nI (e + 1)) c = tp_cls I1 aF e n c := fun c hc => tp_u_oth hc
  have jk : ∀ c, c ≠ 2 → c ≠ 8 → c ≠ 9 → c ≠ 10 → c ≠ 11 → tp_u (tp_cls I1 aF e n) 2 1 (nI (e + 1)) c = I1 c := fun c h2 h8 h9 h10 h11 => by rw [j0 c h2, tp_cls_keep h2 h8 h9 h10 h11 n]
  have jm : ∀ c, 3 ≤ c → c < 8 ∨ c = 12 → tp_u (tp_cls I1 aF e n) 2 1 (nI (e + 1)) c = I c := fun c h1 h2 => by rw [jk c (by omega) (by omega) (by omega) (by omega) (by omega), i2 c h1 (by omega)]
  have z1 : tp_u (tp_cls I1 aF e n) 2 1 (nI (e + 1)) 0 = upd (I 0) 2 (nI (e + 1)) := by rw [jk 0 (by decide) (by decide) (by decide) (by decide) (by decide), hI1, tp_u_at, tc_oth n (fun j hj => by omega)]
  refine ⟨hn, by rw [z1, pk_un (by decide)]; exact h01, ?_, e + 1, aF, cF, by omega, by rw [z1, pk_us], tp_u_s, fun h q1 q2 => ?_, fun h hh => ?_⟩
  · rw [tp_u_n (by decide), tp_cls_keep2 (by decide) (by decide) n, i1 2 (by decide), tc_oth n (fun j hj => by omega)]
    exact h22
  · refine tp_fh_cong (RF h q1 q2) (by rw [jm 4 (by decide) (by decide)]) ?_ ?_ (by rw [jm 12 (by decide) (by decide)]) (fun m hm => ⟨?_, ?_⟩)
    · rw [j0 10 (by decide), tc_lo he (h := h) (Or.inl ⟨Or.inl rfl, rfl⟩) n q1 ha, i2 10 (by decide) (by decide)]
    · rw [j0 11 (by decide), tc_lo he (h := h) (Or.inl ⟨Or.inr rfl, rfl⟩) n q1 ha, i2 11 (by decide) (by decide)]
    · rw [j0 8 (by decide), tc_lo he (h := h) (Or.inr ⟨Or.inl rfl, by omega, by omega⟩) n q1 ha, i2 8 (by decide) (by decide)]
    · rw [j0 9 (by decide), tc_lo he (h := h) (Or.inr ⟨Or.inr rfl, by omega, by omega⟩) n q1 ha, i2 9 (by decide) (by decide)]
  · have R := RH h hh
    have RJ := tc_J RH hh hn
    obtain ⟨s1, s2, s3⟩ := tc_same RH hn i2 he hh
    obtain ⟨k1, k12, k10, k11, k8⟩ := tc_K (I := I) (I1 := I1) i2 he (h := h) (fun i hi => ha i (by omega))
    obtain ⟨p1, p2, p3⟩ := tr_open RJ (x := aF h) (y := e) (by omega)
    obtain ⟨t1, t2, t3, t4, t5⟩ := tr_reck RJ he (tp_mopen (tp_ost I aF e h) h (aF h) e) p2 p3
    have tp := tr_pay RJ he (aF h)
    have jb : ∀ d, d < 15 → tp_u (tp_cls I1 aF e n) 2 1 (nI (e + 1)) (14 + 15 * h + d) = tp_settle (tp_ost I aF e h) (14 + 15 * h) (aF h) e (14 + 15 * h + d) := fun d hd => by
      rw [jk _ (by omega) (by omega) (by omega) (by omega) (by omega), i1 _ (by omega), tc_at hd n hh]
    have jb0 := jb 0 (by decide)
    simp only [Nat.add_zero] at jb0
    have ob : ∀ d, d < 15 → tp_ost I aF e h (14 + 15 * h + d) = I (14 + 15 * h + d) := fun d hd => tc_oth h (fun j hj => by omega)
    have ob0 := ob 0 (by decide)
    simp only [Nat.add_zero] at ob0
    have om : ∀ c, c < 14 → tp_ost I aF e h c = I c := fun c hc => tc_oth h (fun j hj => by omega)
    have sb : ∀ j, j ≠ 6 → j ≠ 7 → tp_settle (tp_ost I aF e h) (14 + 15 * h) (aF h) e (14 + 15 * h) j = I (14 + 15 * h) j := fun j q6 q7 => by
      unfold tp_settle
      rw [tp_u_oth (by omega), tp_fill_oth (by omega), tp_u_n q7, tp_u_n q6, tp_u_n q6, ob0]
    have m10 : tp_u (tp_cls I1 aF e n) 2 1 (nI (e + 1)) 10 h = tp_rthen (tp_ost I aF e h) h (tp_mopen (tp_ost I aF e h) h (aF h) e) - tp_rtaken (tp_ost I aF e h) h (nI e) (tp_mopen (tp_ost I aF e h) h (aF h) e) := by
      rw [j0 10 (by decide), tc_hi he (h := h) (Or.inl ⟨Or.inl rfl, rfl⟩) n hh ha]
      unfold tp_mcl
      rw [tp_fill_oth (by decide), tp_u_oth (by decide), tp_u_oth (by decide), tp_u_s, s1, (s2 _).1, (s2 _).2.1]
    have m11 : tp_u (tp_cls I1 aF e n) 2 1 (nI (e + 1)) 11 h = I 11 h + tp_rtaken (tp_ost I aF e h) h (nI e) (tp_mopen (tp_ost I aF e h) h (aF h) e) := by
      rw [j0 11 (by decide), tc_hi he (h := h) (Or.inl ⟨Or.inr rfl, rfl⟩) n hh ha]
      unfold tp_mcl
      rw [tp_fill_oth (by decide), tp_u_oth (by decide), tp_u_s, s1, (s2 _).2.1, k11]
    have m8 : ∀ m, m < 48 → tp_u (tp_cls I1 aF e n) 2 1 (nI (e + 1)) 8 (48 * h + m) = if aF h ≤ m ∧ m ≤ e then tp_mdue (tp_ost I aF e h) h (nI m) else I 8 (48 * h + m) := fun m hm => by
      rw [j0 8 (by decide), tc_hi he (h := h) (Or.inr ⟨Or.inl rfl, by omega, by omega⟩) n hh ha]
      have hah := ha h hh
      unfold tp_mcl
      rw [tp_fill_at]
      dsimp only
      by_cases q : aF h ≤ m ∧ m ≤ e
      · rw [if_pos (by omega), if_pos q, s3, show aF h + (48 * h + m - (48 * h + aF h)) = m by omega]
      · rw [if_neg (by omega), if_neg q, tp_u_oth (by decide), tp_u_oth (by decide), tp_u_oth (by decide)]
        unfold tp_reck
        rw [tp_u_oth (by decide), tp_u_oth (by decide), tp_u_oth (by decide), (k8 m hm).1]
    have m9 : ∀ m, m < 48 → tp_u (tp_cls I1 aF e n) 2 1 (nI (e + 1)) 9 (48 * h + m) = if m = e then tp_paym (tp_ost I aF e h) (14 + 15 * h) (aF h) e else I 9 (48 * h + m) := fun m hm => by
      rw [j0 9 (by decide), tc_hi he (h := h) (Or.inr ⟨Or.inr rfl, by omega, by omega⟩) n hh ha]
      unfold tp_mcl
      rw [tp_fill_oth (by decide)]
      by_cases q : m = e
      · subst q
        rw [tp_u_s, if_pos rfl, s1, (s2 _).2.2, tp]
      · rw [tp_u_n (by omega), if_neg q, tp_u_oth (by decide), tp_u_oth (by decide)]
        unfold tp_reck
        rw [tp_u_oth (by decide), tp_u_oth (by decide), tp_u_oth (by decide), (k8 m hm).2]
    refine tr_gen R (by have := R.1.1; omega) (by rw [jb0, sb 2 (by decide) (by decide)]) (by rw [jb0, sb 3 (by decide) (by decide)]) (by rw [jm 3 (by decide) (by decide)]) (by rw [jm 4 (by decide) (by decide)]) (fun f hf => ⟨?_, ?_⟩) (fun j hj => by rw [jm 5 (by decide) (by decide), jm 6 (by decide) (by decide), jm 7 (by decide) (by decide)]; exact ⟨rfl, rfl, rfl⟩) (fun m hm => ?_) ?_
    · rw [Nat.add_assoc, jb (2 + f) (by omega), tp_settle_oth (by omega) (by omega) (by omega), ob (2 + f) (by omega)]
    · rw [Nat.add_assoc, jb (8 + f) (by omega), tp_settle_oth (by omega) (by omega) (by omega), ob (8 + f) (by omega)]
    · obtain ⟨w1, w2, w3, w4⟩ := R.2.2.2.1 m hm
      have hah := ha h hh
      rw [jb 13 (by decide), jb 14 (by decide), m8 m hm, m9 m hm]
      obtain ⟨d1, k, hk, d2⟩ := tr_due RJ hm
      refine ⟨?_, ?_, ?_⟩
      · unfold tp_settle
        rw [tp_u_oth (by omega), tp_fill_at]
        dsimp only
        by_cases q : aF h ≤ m ∧ m ≤ e
        · rw [if_pos (by omega), if_pos q, show aF h + (m - aF h) = m by omega, d1]
        · rw [if_neg (by omega), if_neg q, tp_u_oth (by omega), tp_u_oth (by omega), tp_u_oth (by omega), ob 13 (by decide), w1]
      · unfold tp_settle
        by_cases q : m = e
        · subst q
          rw [tp_u_s, if_pos rfl]
        · rw [tp_u_n q, if_neg q, tp_fill_oth (by omega), tp_u_oth (by omega), tp_u_oth (by omega), tp_u_oth (by omega), ob 14 (by decide), w2]
      · by_cases q : aF h ≤ m ∧ m ≤ e
        · rw [if_pos q, d2, nI_toInt (by omega)]
          omega
        · rw [if_neg q]
          exact ⟨w3, w4⟩
    · obtain ⟨y6, y7, y8, y12, y10, y11⟩ := R.2.2.2.2
      rw [jb0, sb 8 (by decide) (by decide), m10, m11, jm 12 (by decide) (by decide)]
      refine ⟨?_, ?_, y8, y12, t4, t5⟩
      · unfold tp_settle
        rw [tp_u_oth (by omega), tp_fill_oth (by omega), tp_u_n (by decide), tp_u_s, p1, t3, t1]
      · unfold tp_settle
        rw [tp_u_oth (by omega), tp_fill_oth (by omega), tp_u_s, p1, t3, ob0, y7]
end TPK
section TPJ5
theorem tj_close (l : Launch) (hlt : l.stackTraces = false) (D : va_G) (cy : Nat → ClassId) {n : Nat} (ad : Nat → Nat) (o : Int64) {I : Nat → Nat → Int32} (sa : Nat → Nat) (tL tM : Nat) (R : tp_rel n I) : tp_J l yL_close wsL_close yX2_close wsX2_close D cy n ad sa tL tM [.ref (ad 0), .ref (ad 13)] [.ref (ad 2)] (fun z => z.toInt64) I o (tp_rel n) := by
  obtain ⟨hn6, h01, h22, e, aF, cF, he, h02, h21, RF, RH⟩ := id R
  by_cases e8 : e < 48
  · have i1 : ∀ c, c ≠ 0 → tp_u (tp_ost I aF e n) 0 2 (nI (e + 1)) c = tp_ost I aF e n c := fun c hc => tp_u_oth hc
    have i3 : ∀ c, 0 < c → c < 14 → tp_u (tp_ost I aF e n) 0 2 (nI (e + 1)) c = I c := fun c h1 h2 => by rw [i1 c (by omega), tc_oth n (fun j hj => by omega)]
    refine ⟨_, _, _, _, _, _, _, _, _, _, _, ⟨by decide, by decide, by decide, by decide, by decide, by decide⟩, lp_close_ok l D cy n ad o I sa tL tM hlt aF e hn6 h02 e8 (fun h hh => (RH h hh).1.2.2.1) (fun h hh => (RH h hh).1.1), mp_close_ok l D cy n ad _ (tp_u (tp_ost I aF e n) 0 2 (nI (e + 1))) aF n e (by rw [i3 2 (by decide) (by decide)]; exact h22) hn6 (by rw [i3 2 (by decide) (by decide)]; exact h21) e8 (fun h hh => ⟨cF h, (RH h hh).1.2.1, by rw [i3 4 (by decide) (by decide)]; exact (RH h hh).1.2.2.2.2.2⟩) (fun h hh => by rw [i3 3 (by decide) (by decide)]; exact (RH h hh).1.2.2.2.1) (fun h hh => (RH h hh).1.1), ?_, fun _ => ?_, ?_⟩
    · rw [tp_u_n (by decide)]
      exact tc_20 n
    · rw [tc_sum RH hn6 (fun c h1 h2 => i3 c (by omega) h2) e8 n (Nat.le_refl _)]
    · exact tc_rel RH hn6 e8 h01 h22 RF rfl
  · have e48 : e = 48 := by omega
    exact ⟨_, _, _, _, _, _, _, _, _, _, _, ⟨by decide, by decide, by decide, by decide, by decide, by decide⟩, lp_close_end l D cy n ad o I sa tL tM hlt (by rw [h02, e48]; decide), mp_close_end l D cy n ad o I (by rw [h21, e48]; rfl), by rw [tp_u_s], fun q => absurd q (by decide), tp_rel_u (by decide) (tp_rel_u (by decide) R)⟩
theorem tr_add {n e0 : Nat} {I : Nat → Nat → Int32} (R : tp_rel n I) (hn : n < 6) (h02' : I 0 2 = nI e0) (he0 : e0 < 48) : tp_rel (n + 1) (tp_u (tp_u (tp_u (tp_u (tp_gI n I (nI e0)) 0 1 (nI (n + 1))) 2 0 0) 3 n (nI e0)) 2 2 (nI (n + 1))) := by
  obtain ⟨hn6, h01, h22, e, aF, cF, he, h02, h21, RF, RH⟩ := R
  obtain rfl : e = e0 := tp_nIj (h02.symm.trans h02') (by omega) (by omega)
  have go : ∀ c, c ≠ 0 → c ≠ 2 → c ≠ 3 → tp_u (tp_u (tp_u (tp_u (tp_gI n I (nI e)) 0 1 (nI (n + 1))) 2 0 0) 3 n (nI e)) 2 2 (nI (n + 1)) c = tp_gI n I (nI e) c := fun c q0 q2 q3 => by rw [tp_u_oth q2, tp_u_oth q3, tp_u_oth q2, tp_u_oth q0]
  have gl : ∀ c, c ≠ 0 → c ≠ 2 → c ≠ 3 → c < 14 + 15 * n → tp_u (tp_u (tp_u (tp_u (tp_gI n I (nI e)) 0 1 (nI (n + 1))) 2 0 0) 3 n (nI e)) 2 2 (nI (n + 1)) c = I c := fun c q0 q2 q3 q => by rw [go c q0 q2 q3, tp_gI_lo q]
  have g0 : tp_u (tp_u (tp_u (tp_u (tp_gI n I (nI e)) 0 1 (nI (n + 1))) 2 0 0) 3 n (nI e)) 2 2 (nI (n + 1)) 0 = upd (I 0) 1 (nI (n + 1)) := by rw [tp_u_oth (by decide), tp_u_oth (by decide), tp_u_oth (by decide), tp_u_at, tp_gI_lo (by omega)]
  have g3 : tp_u (tp_u (tp_u (tp_u (tp_gI n I (nI e)) 0 1 (nI (n + 1))) 2 0 0) 3 n (nI e)) 2 2 (nI (n + 1)) 3 = upd (I 3) n (nI e) := by rw [tp_u_oth (by decide), tp_u_at, tp_u_oth (by decide), tp_u_oth (by decide), tp_gI_lo (by omega)]
  have g22 : tp_u (tp_u (tp_u (tp_u (tp_gI n I (nI e)) 0 1 (nI (n + 1))) 2 0 0) 3 n (nI e)) 2 2 (nI (n + 1)) 2 2 = nI (n + 1) := tp_u_s
  have g21 : tp_u (tp_u (tp_u (tp_u (tp_gI n I (nI e)) 0 1 (nI (n + 1))) 2 0 0) 3 n (nI e)) 2 2 (nI (n + 1)) 2 1 = I 2 1 := by rw [tp_u_n (by decide), tp_u_oth (by decide), tp_u_n (by decide), tp_u_oth (by decide), tp_gI_lo (by omega)]
  have gh : ∀ d, d < 15 → tp_u (tp_u (tp_u (tp_u (tp_gI n I (nI e)) 0 1 (nI (n + 1))) 2 0 0) 3 n (nI e)) 2 2 (nI (n + 1)) (14 + 15 * n + d) = tp_hI (nI e) d := fun d hd => by rw [go _ (by omega) (by omega) (by omega), tp_gI_hi]
  generalize tp_u (tp_u (tp_u (tp_u (tp_gI n I (nI e)) 0 1 (nI (n + 1))) 2 0 0) 3 n (nI e)) 2 2 (nI (n + 1)) = J at gl g0 g3 g22 g21 gh ⊢
  have f4 := gl 4 (by decide) (by decide) (by decide) (by omega)
  have f5 := gl 5 (by decide) (by decide) (by decide) (by omega)
  have f6 := gl 6 (by decide) (by decide) (by decide) (by omega)
  have f7 := gl 7 (by decide) (by decide) (by decide) (by omega)
  have f8 := gl 8 (by decide) (by decide) (by decide) (by omega)
  have f9 := gl 9 (by decide) (by decide) (by decide) (by omega)
  have f10 := gl 10 (by decide) (by decide) (by decide) (by omega)
  have f11 := gl 11 (by decide) (by decide) (by decide) (by omega)
  have f12 := gl 12 (by decide) (by decide) (by decide) (by omega)
  refine ⟨by omega, by rw [g0, pk_us], g22, e, tp_updN aF n e, tp_updN cF n 0, he, by rw [g0, pk_un (by decide)]; exact h02, by rw [g21]; exact h21, fun h q1 q2 => tp_fh_cong (RF h (by omega) q2) (by rw [f4]) (by rw [f10]) (by rw [f11]) (by rw [f12]) (fun m hm => by rw [f8, f9]; exact ⟨rfl, rfl⟩), fun h hh => ?_⟩
  by_cases eh : h = n
  · subst eh
    rw [show tp_updN aF h e h = e from if_pos rfl, show tp_updN cF h 0 h = 0 from if_pos rfl]
    obtain ⟨z4, z10, z11, z12, z8⟩ := RF h (Nat.le_refl _) hn
    have b0 := gh 0 (by decide)
    simp only [Nat.add_zero] at b0
    have c0 : (0 : Int32).toInt = 0 := rfl
    refine ⟨⟨Nat.le_refl _, by decide, by rw [b0]; rfl, by rw [g3, pk_us], by rw [b0]; rfl, by rw [f4, z4]; rfl⟩, fun f hf m hm => ?_, fun j hj => by omega, fun m hm => ?_, ?_⟩
    · rw [Nat.add_assoc (14 + 15 * h) 2 f, Nat.add_assoc (14 + 15 * h) 8 f, gh (2 + f) (by omega), gh (8 + f) (by omega)]
      show _ = tp_low (nI f) ∧ _ = tp_z (-1)
      rcases (show f = 0 ∨ f = 1 ∨ f = 2 ∨ f = 3 ∨ f = 4 by omega) with rfl | rfl | rfl | rfl | rfl
      · refine ⟨?_, rfl⟩
        show (if m < 48 then (1 : Int32) else 0) = tp_low (nI 0)
        rw [if_pos hm]
        decide
      all_goals exact ⟨by show (0 : Int32) = _; decide, rfl⟩
    · rw [gh 13 (by decide), gh 14 (by decide), f8, f9, (z8 m hm).1, (z8 m hm).2]
      exact ⟨rfl, rfl, by omega, by omega⟩
    · rw [b0, f10, f11, f12, z10, z11, z12]
      exact ⟨rfl, rfl, rfl, Or.inl rfl, by omega, by omega⟩
  · rw [show tp_updN aF n e h = aF h from if_neg eh, show tp_updN cF n 0 h = cF h from if_neg eh]
    exact tr_same (RH h (by omega)) (fun j hj => gl _ (by omega) (by omega) (by omega) (by omega)) (by rw [g3, pk_un eh]) (by rw [f4]) (fun j hj => by rw [f5, f6, f7]; exact ⟨rfl, rfl, rfl⟩) (fun m hm => by rw [f8, f9]; exact ⟨rfl, rfl⟩) (by rw [f10]) (by rw [f11]) (by rw [f12])
end TPJ5
