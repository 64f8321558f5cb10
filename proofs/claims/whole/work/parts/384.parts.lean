theorem k_X12_view {l : Launch} {g : AG} {h : AH} {y s : Nat} {D : AD} {S : AS} {Q : Int64 → AH → Prop} (hr : Refs h) (hy : isB y) (hD : WfD D) (hB : RepB h y D) (hs : WS (D 0 0) S) (hs4 : s < 400) (v1 : h.2.1 133 s = Int64.ofNat (ea S 5)) (v2 : h.2.1 134 s = Int64.ofNat (eb S.2.2.2.2 6)) (hq : ∀ h', Refs h' → FrS h h' → Q (viewM D S) h') : C_X12_view l g h 103 y (Int32.ofNat s) Q := by
  have hyu : y = 105 ∨ y = 154 ∨ y = 174 := hy
  have hf := fault_le hs
  have h5 := hs.2.1
  have h8 := hD.1.2.1
  have h6 := hD.1.2.2.2
  refine c_X12_view (s_X12_view_0 ?_)
  simp (disch := first | assumption | omega) only [true_and, and_true, forall_eq, true_implies, false_implies, implies_true, not_true_eq_false, not_false_eq_true, false_and, and_false, ne_eq, ite_true, ite_false, Nat.reduceLeDiff, Nat.reduceEqDiff, Nat.reduceLT, Nat.reduceAdd, Nat.reduceMul, Nat.reduceSub, Nat.le_refl, eq_self, li_0, li_1, li_2, li_3, li_4, li_5, li_6, li_7, li_8, li_9, li_10, li_11, li_12, li_13, li_14, li_15, li_16, li_17, li_18, li_19, li_20, li_21, li_22, li_23, li_24, li_25, li_26, li_27, li_28, li_29, li_30, li_31, li_32, li_44, li_48, li_57, li_59, li_60, li_61, li_62, li_63, li_97, li_100, li_122, li_123, li_125, li_127, li_255, li_400, li_401, li_800, li_1023, li_1024, li_10827, i_add, i_mul, i_sub, i_p1, i_m1, i_nm, i_nm2, i_cl, i_cl0, vi_ok, i_lt, i_le, i_eq, lg_e, rf_103_4, rf_103_6, rf_103_7, rf_103_8, rf_103_9, rf_103_10, rf_103_21, rf_103_22, rf_103_23, rf_103_26, rf_103_27, rf_103_28, rf_103_29, rf_103_30, rf_103_31, rf_103_32, rf_103_33, rf_103_34, rf_103_35, rf_103_37, rf_103_38, rf_103_39, rf_103_44, rf_103_45, rf_103_46, rf_103_47, rf_103_48, rf_103_49, rf_103_54, rf_103_55, is_103, is_104, sz_104, is_125, sz_125, is_126, sz_126, is_127, sz_127, is_128, sz_128, is_129, sz_129, is_130, sz_130, is_131, sz_131, is_132, sz_132, is_133, sz_133, is_134, sz_134, is_135, sz_135, is_136, sz_136, is_137, sz_137, is_138, sz_138, is_139, sz_139, is_140, sz_140, is_141, sz_141, is_142, sz_142, is_143, sz_143, is_144, sz_144, is_145, sz_145, is_146, sz_146, is_147, sz_147, is_148, sz_148, is_149, sz_149, is_150, sz_150, is_151, sz_151, is_152, sz_152, is_153, sz_153, v1, v2]
  refine k_X12_unpack hr hs (fun h1 f1 s1 => ?_)
  have r1 := f1.refs hr
  have hB1 := f1.repB hy hB
  have hq := hq h1 r1 f1
  unfold viewM at hq
  rw [s1.1]
  by_cases c : S.2.1 = 0
  · have := (hs.2.2.1 c).1
    rw [if_pos c] at hq
    simp (disch := first | assumption | omega) only [true_and, and_true, forall_eq, true_implies, false_implies, implies_true, not_true_eq_false, not_false_eq_true, false_and, and_false, ne_eq, ite_true, ite_false, Nat.reduceLeDiff, Nat.reduceEqDiff, Nat.reduceLT, Nat.reduceAdd, Nat.reduceMul, Nat.reduceSub, Nat.le_refl, eq_self, li_0, li_1, li_2, li_3, li_4, li_5, li_6, li_7, li_8, li_9, li_10, li_11, li_12, li_13, li_14, li_15, li_16, li_17, li_18, li_19, li_20, li_21, li_22, li_23, li_24, li_25, li_26, li_27, li_28, li_29, li_30, li_31, li_32, li_44, li_48, li_57, li_59, li_60, li_61, li_62, li_63, li_97, li_100, li_122, li_123, li_125, li_127, li_255, li_400, li_401, li_800, li_1023, li_1024, li_10827, i_add, i_mul, i_sub, i_p1, i_m1, i_nm, i_nm2, i_cl, i_cl0, vi_ok, i_lt, i_le, i_eq, lg_e, show ¬ S.1 ≤ 0 by omega]
    rw [l_negof (by omega)]
    exact hq
  · have f0 := hs.2.2.2.1 (by omega)
    rw [if_neg c] at hq
    have hw := (hs.2.2.2.2.1 (S.2.1 - 1) (by omega)).1
    have sw := (s1.2.2.1 (S.2.1 - 1) (by omega)).1
    simp (disch := first | assumption | omega) only [true_and, and_true, forall_eq, true_implies, false_implies, implies_true, not_true_eq_false, not_false_eq_true, false_and, and_false, ne_eq, ite_true, ite_false, Nat.reduceLeDiff, Nat.reduceEqDiff, Nat.reduceLT, Nat.reduceAdd, Nat.reduceMul, Nat.reduceSub, Nat.le_refl, eq_self, li_0, li_1, li_2, li_3, li_4, li_5, li_6, li_7, li_8, li_9, li_10, li_11, li_12, li_13, li_14, li_15, li_16, li_17, li_18, li_19, li_20, li_21, li_22, li_23, li_24, li_25, li_26, li_27, li_28, li_29, li_30, li_31, li_32, li_44, li_48, li_57, li_59, li_60, li_61, li_62, li_63, li_97, li_100, li_122, li_123, li_125, li_127, li_255, li_400, li_401, li_800, li_1023, li_1024, li_10827, i_add, i_mul, i_sub, i_p1, i_m1, i_nm, i_nm2, i_cl, i_cl0, vi_ok, i_lt, i_le, i_eq, lg_e, show S.1 ≤ 0 by omega, rf_103_4, rf_103_6, rf_103_7, rf_103_8, rf_103_9, rf_103_10, rf_103_21, rf_103_22, rf_103_23, rf_103_26, rf_103_27, rf_103_28, rf_103_29, rf_103_30, rf_103_31, rf_103_32, rf_103_33, rf_103_34, rf_103_35, rf_103_37, rf_103_38, rf_103_39, rf_103_44, rf_103_45, rf_103_46, rf_103_47, rf_103_48, rf_103_49, rf_103_54, rf_103_55, is_103, is_104, sz_104, is_125, sz_125, is_126, sz_126, is_127, sz_127, is_128, sz_128, is_129, sz_129, is_130, sz_130, is_131, sz_131, is_132, sz_132, is_133, sz_133, is_134, sz_134, is_135, sz_135, is_136, sz_136, is_137, sz_137, is_138, sz_138, is_139, sz_139, is_140, sz_140, is_141, sz_141, is_142, sz_142, is_143, sz_143, is_144, sz_144, is_145, sz_145, is_146, sz_146, is_147, sz_147, is_148, sz_148, is_149, sz_149, is_150, sz_150, is_151, sz_151, is_152, sz_152, is_153, sz_153, s1.2.1, sw]
    revert hq hw
    generalize S.2.2.1 (S.2.1 - 1) = w
    intro hq hw
    rw [l_of (by omega)]
    have q := hD.2.1 w hw
    have vB := hB1.2.1 w hw
    have loop : ∀ d k, k + d = 6 → L_X12_view_49 l g h1 103 y (Int32.ofNat w) (Int64.ofNat (shD D S w k)) (Int32.ofNat k) Q := by
      intro d
      induction d with
      | zero =>
        intro k hk
        have : k = 6 := by omega
        subst this
        refine s_X12_view_49 ?_
        simp (disch := first | assumption | omega) only [true_and, and_true, forall_eq, true_implies, false_implies, implies_true, not_true_eq_false, not_false_eq_true, false_and, and_false, ne_eq, ite_true, ite_false, Nat.reduceLeDiff, Nat.reduceEqDiff, Nat.reduceLT, Nat.reduceAdd, Nat.reduceMul, Nat.reduceSub, Nat.le_refl, eq_self, li_0, li_1, li_2, li_3, li_4, li_5, li_6, li_7, li_8, li_9, li_10, li_11, li_12, li_13, li_14, li_15, li_16, li_17, li_18, li_19, li_20, li_21, li_22, li_23, li_24, li_25, li_26, li_27, li_28, li_29, li_30, li_31, li_32, li_44, li_48, li_57, li_59, li_60, li_61, li_62, li_63, li_97, li_100, li_122, li_123, li_125, li_127, li_255, li_400, li_401, li_800, li_1023, li_1024, li_10827, i_add, i_mul, i_sub, i_p1, i_m1, i_nm, i_nm2, i_cl, i_cl0, vi_ok, i_lt, i_le, i_eq, lg_e, is_103, isB_x hy]
        refine k_X12_pressed r1 hy hs s1 hD hB1 ?_
        have hb := bsum_lt (pressD D S) 24
        rw [l_shl _ (by decide), l_of (by omega), l_or, n_or hb]
        exact hq
      | succ d ih =>
        intro k hk
        have ih := ih (k + 1) (by omega)
        have e : shD D S w (k + 1) = shD D S w k * 16 + (if k < D 6 w then S.2.2.2.2 (D 7 (6 * w + k)) else 0) := rfl
        rw [e] at ih
        refine s_X12_view_49 ?_
        simp (disch := first | assumption | omega) only [true_and, and_true, forall_eq, true_implies, false_implies, implies_true, not_true_eq_false, not_false_eq_true, false_and, and_false, ne_eq, ite_true, ite_false, Nat.reduceLeDiff, Nat.reduceEqDiff, Nat.reduceLT, Nat.reduceAdd, Nat.reduceMul, Nat.reduceSub, Nat.le_refl, eq_self, li_0, li_1, li_2, li_3, li_4, li_5, li_6, li_7, li_8, li_9, li_10, li_11, li_12, li_13, li_14, li_15, li_16, li_17, li_18, li_19, li_20, li_21, li_22, li_23, li_24, li_25, li_26, li_27, li_28, li_29, li_30, li_31, li_32, li_44, li_48, li_57, li_59, li_60, li_61, li_62, li_63, li_97, li_100, li_122, li_123, li_125, li_127, li_255, li_400, li_401, li_800, li_1023, li_1024, li_10827, i_add, i_mul, i_sub, i_p1, i_m1, i_nm, i_nm2, i_cl, i_cl0, vi_ok, i_lt, i_le, i_eq, lg_e, isB_x, rfB_3, rfB_4, rfB_5, rfB_6, rfB_7, rfB_8, rfB_9, rfB_10, rfB_11, rfB_12, rfB_13, rfB_14, rfB_15, rfB_16, rfB_17, rfB_18, rfB_19, rfB_20, rfB_21, isB_1, szB_1, isB_2, szB_2, isB_3, szB_3, isB_4, szB_4, isB_5, szB_5, isB_6, szB_6, isB_7, szB_7, isB_8, szB_8, isB_9, szB_9, isB_10, szB_10, isB_11, szB_11, isB_12, szB_12, isB_13, szB_13, isB_14, szB_14, isB_15, szB_15, isB_16, szB_16, isB_17, szB_17, isB_18, szB_18, isB_19, szB_19, show ¬ 6 ≤ k by omega, vB.2.1]
        refine ⟨fun z => ?_, fun z => ?_⟩
        · rw [if_neg (by omega)] at ih
          rw [l_shl _ (by decide), l_of (by omega), l_or, n_or (k := 4) (by omega)]
          exact ih
        · have v7 := q.2.1 k (by omega)
          have sl := show_lt hD hs hw k (by omega)
          rw [if_pos (by omega)] at ih
          simp (disch := first | assumption | omega) only [true_and, and_true, forall_eq, true_implies, false_implies, implies_true, not_true_eq_false, not_false_eq_true, false_and, and_false, ne_eq, ite_true, ite_false, Nat.reduceLeDiff, Nat.reduceEqDiff, Nat.reduceLT, Nat.reduceAdd, Nat.reduceMul, Nat.reduceSub, Nat.le_refl, eq_self, li_0, li_1, li_2, li_3, li_4, li_5, li_6, li_7, li_8, li_9, li_10, li_11, li_12, li_13, li_14, li_15, li_16, li_17, li_18, li_19, li_20, li_21, li_22, li_23, li_24, li_25, li_26, li_27, li_28, li_29, li_30, li_31, li_32, li_44, li_48, li_57, li_59, li_60, li_61, li_62, li_63, li_97, li_100, li_122, li_123, li_125, li_127, li_255, li_400, li_401, li_800, li_1023, li_1024, li_10827, i_add, i_mul, i_sub, i_p1, i_m1, i_nm, i_nm2, i_cl, i_cl0, vi_ok, i_lt, i_le, i_eq, lg_e, isB_x, rfB_3, rfB_4, rfB_5, rfB_6, rfB_7, rfB_8, rfB_9, rfB_10, rfB_11, rfB_12, rfB_13, rfB_14, rfB_15, rfB_16, rfB_17, rfB_18, rfB_19, rfB_20, rfB_21, isB_1, szB_1, isB_2, szB_2, isB_3, szB_3, isB_4, szB_4, isB_5, szB_5, isB_6, szB_6, isB_7, szB_7, isB_8, szB_8, isB_9, szB_9, isB_10, szB_10, isB_11, szB_11, isB_12, szB_12, isB_13, szB_13, isB_14, szB_14, isB_15, szB_15, isB_16, szB_16, isB_17, szB_17, isB_18, szB_18, isB_19, szB_19, rf_103_4, rf_103_6, rf_103_7, rf_103_8, rf_103_9, rf_103_10, rf_103_21, rf_103_22, rf_103_23, rf_103_26, rf_103_27, rf_103_28, rf_103_29, rf_103_30, rf_103_31, rf_103_32, rf_103_33, rf_103_34, rf_103_35, rf_103_37, rf_103_38, rf_103_39, rf_103_44, rf_103_45, rf_103_46, rf_103_47, rf_103_48, rf_103_49, rf_103_54, rf_103_55, is_103, is_104, sz_104, is_125, sz_125, is_126, sz_126, is_127, sz_127, is_128, sz_128, is_129, sz_129, is_130, sz_130, is_131, sz_131, is_132, sz_132, is_133, sz_133, is_134, sz_134, is_135, sz_135, is_136, sz_136, is_137, sz_137, is_138, sz_138, is_139, sz_139, is_140, sz_140, is_141, sz_141, is_142, sz_142, is_143, sz_143, is_144, sz_144, is_145, sz_145, is_146, sz_146, is_147, sz_147, is_148, sz_148, is_149, sz_149, is_150, sz_150, is_151, sz_151, is_152, sz_152, is_153, sz_153, vB.2.2.1 k (by omega), s1.2.2.2 (D 7 (6 * w + k)) (by omega)]
          rw [l_shl _ (by decide), l_of (by omega), l_or, n_or (k := 4) (by omega)]
          exact ih
    exact loop 6 0 rfl
/-- alike, one step on -/
def Lk (D : AD) (ST : Nat → AS) (LD f : Nat → Nat) (s t : Nat) : Prop := f s = f t ∧ viewM D (ST s) = viewM D (ST t) ∧ (∀ a, a < 27 → (possD D (ST s) a ↔ possD D (ST t) a)) ∧ ∀ a, a < 27 → possD D (ST s) a → f (LD (27 * s + a)) = f (LD (27 * t + a))
theorem Lk.rf (D : AD) (ST : Nat → AS) (LD f : Nat → Nat) (s : Nat) : Lk D ST LD f s s := ⟨rfl, rfl, fun _ _ => Iff.rfl, fun _ _ _ => rfl⟩
theorem Lk.sy {D : AD} {ST : Nat → AS} {LD f : Nat → Nat} (s t : Nat) (h : Lk D ST LD f s t) : Lk D ST LD f t s := ⟨h.1.symm, h.2.1.symm, fun a ha => (h.2.2.1 a ha).symm, fun a ha p => (h.2.2.2 a ha ((h.2.2.1 a ha).2 p)).symm⟩
theorem Lk.tr {D : AD} {ST : Nat → AS} {LD f : Nat → Nat} (s t u : Nat) (h : Lk D ST LD f s t) (k : Lk D ST LD f t u) : Lk D ST LD f s u := ⟨h.1.trans k.1, h.2.1.trans k.2.1, fun a ha => (h.2.2.1 a ha).trans (k.2.2.1 a ha), fun a ha p => (h.2.2.2 a ha p).trans (k.2.2.2 a ha ((h.2.2.1 a ha).1 p))⟩
theorem lk_next {D : AD} {n m m2 : Nat} {ST : Nat → AS} {LD f f2 : Nat → Nat} (hL : ∀ s a, s < n → a < 27 → possD D (ST s) a → LD (27 * s + a) < n) (hc : Canon n m f (fun s t => f s = f t)) (lk : ∀ s t, Like D n ST LD s t → f s = f t) (h2 : Canon n m2 f2 (Lk D ST LD f)) : (∀ s t, Like D n ST LD s t → f2 s = f2 t) ∧ m ≤ m2 ∧ (m2 = m → ∀ s t, s < n → t < n → f2 s = f2 t → Lk D ST LD f2 s t) := by
  have fine : ∀ s t, s < n → t < n → f2 s = f2 t → f s = f t := fun s t h1 h3 e => ((h2.1 s t h1 h3).1 e).1
  refine ⟨fun s t e => ?_, ?_, fun em s t h1 h3 e => ?_⟩
  · obtain ⟨B, b1, b2, b3⟩ := e
    obtain ⟨h1, h3⟩ := b2 s t b3
    obtain ⟨q1, q2, q3⟩ := b1 s t b3
    exact (h2.1 s t h1 h3).2 ⟨lk s t ⟨B, b1, b2, b3⟩, q1, q2, fun a ha p => lk _ _ ⟨B, b1, b2, q3 a ha p⟩⟩
  · rw [← canon_cnt n m hc, ← canon_cnt n m2 h2]
    exact pops_mono n (fun s hs z t ht e => z t ht (fine t s (by omega) hs e))
  · subst em
    have same := canon_fine hc (canon_self h2) fine
    have q := (h2.1 s t h1 h3).1 e
    exact ⟨e, q.2.1, q.2.2.1, fun a ha p => same _ _ (hL s a h1 ha p) (hL t a h3 ha ((q.2.2.1 a ha).1 p)) (q.2.2.2 a ha p)⟩
theorem like_of_lk {D : AD} {n m : Nat} {ST : Nat → AS} {LD f : Nat → Nat} (hL : ∀ s a, s < n → a < 27 → possD D (ST s) a → LD (27 * s + a) < n) (hc : Canon n m f (fun s t => f s = f t)) (lk : ∀ s t, Like D n ST LD s t → f s = f t) (cl : ∀ s t, s < n → t < n → f s = f t → Lk D ST LD f s t) : Canon n m f (Like D n ST LD) := by
  refine ⟨fun s t h1 h2 => ⟨fun e => ⟨fun s t => s < n ∧ t < n ∧ f s = f t, ?_, fun s t z => ⟨z.1, z.2.1⟩, h1, h2, e⟩, lk s t⟩, hc.2⟩
  intro s t ⟨h1, h2, e⟩
  have q := cl s t h1 h2 e
  exact ⟨q.2.1, q.2.2.1, fun a ha p => ⟨hL s a h1 ha p, hL t a h2 ha ((q.2.2.1 a ha).1 p), q.2.2.2 a ha p⟩⟩
/-- what the model reads of THE MAP while it looks for the kinds -/
def MKr (h : AH) (D : AD) (n : Nat) (ST : Nat → AS) (LD : Nat → Nat) : Prop := h.1 103 25 = Int32.ofNat n ∧ (∀ i, i < n → h.1 138 i = Int32.ofNat (bsum (possD D (ST i)) 27) ∧ h.2.1 143 i = viewM D (ST i)) ∧ ∀ i a, i < n → a < 27 → possD D (ST i) a → LD (27 * i + a) < n ∧ h.1 142 (27 * i + a) = Int32.ofNat (LD (27 * i + a))
theorem MKr.fr {P : Nat → Nat → Prop} {h h1 : AH} {D : AD} {n : Nat} {ST : Nat → AS} {LD : Nat → Nat} (m : MKr h D n ST LD) (f : Fr P h h1) (e : ∀ c p, P c p → c ≠ 138 ∧ c ≠ 142 ∧ c ≠ 143 ∧ ¬ (c = 103 ∧ p = 25)) : MKr h1 D n ST LD := by
  obtain ⟨a, b, c⟩ := m
  refine ⟨?_, fun i hi => ?_, fun i k hi hk p => ?_⟩
  · rw [(f 103 25 (fun q => (e _ _ q).2.2.2 ⟨rfl, rfl⟩)).1]; exact a
  · rw [(f 138 i (fun q => (e _ _ q).1 rfl)).1, (f 143 i (fun q => (e _ _ q).2.2.1 rfl)).2.1]; exact b i hi
  · rw [(f 142 _ (fun q => (e _ _ q).2.1 rfl)).1]; exact c i k hi hk p
theorem k_isLike {l : Launch} {g : AG} {h : AH} {D : AD} {n s t : Nat} {ST : Nat → AS} {LD f : Nat → Nat} {Q : Int32 → AH → Prop} (hr : Refs h) (hn : n ≤ 400) (mk : MKr h D n ST LD) (hf : ∀ i, i < n → f i < 400 ∧ h.1 139 i = Int32.ofNat (f i)) (hs : s < n) (ht : t < n) (q1 : Lk D ST LD f s t → Q 1 h) (q0 : ¬ Lk D ST LD f s t → Q 0 h) : C_X12_isLike l g h 103 (Int32.ofNat s) (Int32.ofNat t) Q := by
  obtain ⟨mk1, mk2, mk3⟩ := mk
  have fs := hf s hs
  have ft := hf t ht
  have bs := bsum_lt (possD D (ST s)) 27
  have bt := bsum_lt (possD D (ST t)) 27
  have out : ¬ Lk D ST LD f s t → ∀ a, a ≤ 27 → L_X12_isLike_55 l g h 103 (Int32.ofNat s) (Int32.ofNat t) (Int32.ofNat 0) (Int32.ofNat a) Q := by
    intro z a ha
    exact s_X12_isLike_55 ⟨fun _ => ⟨Or.inl rfl, q0 z⟩, fun _ => ⟨fun _ => ⟨Or.inl rfl, q0 z⟩, fun c => absurd rfl c⟩⟩
  have loop : f s = f t → viewM D (ST s) = viewM D (ST t) → (∀ a, a < 27 → (possD D (ST s) a ↔ possD D (ST t) a)) → ∀ d a, a + d = 27 → (∀ b, b < a → possD D (ST s) b → f (LD (27 * s + b)) = f (LD (27 * t + b))) → L_X12_isLike_55 l g h 103 (Int32.ofNat s) (Int32.ofNat t) (Int32.ofNat 1) (Int32.ofNat a) Q := by
    intro e1 e2 e3 d
    induction d with
    | zero =>
      intro a ha hl
      have : a = 27 := by omega
      subst this
      exact s_X12_isLike_55 ⟨fun _ => ⟨Or.inr rfl, q1 ⟨e1, e2, e3, hl⟩⟩, fun c => absurd (by decide) c⟩
    | succ d ih =>
      intro a ha hl
      refine s_X12_isLike_55 ?_
      by_cases p : possD D (ST s) a
      · have p2 := (e3 a (by omega)).1 p
        have l1 := mk3 s a hs (by omega) p
        have l2 := mk3 t a ht (by omega) p2
        have g1 := hf _ l1.1
        have g2 := hf _ l2.1
        simp (disch := first | assumption | omega) only [true_and, and_true, forall_eq, true_implies, false_implies, implies_true, not_true_eq_false, not_false_eq_true, false_and, and_false, ne_eq, ite_true, ite_false, Nat.reduceLeDiff, Nat.reduceEqDiff, Nat.reduceLT, Nat.reduceAdd, Nat.reduceMul, Nat.reduceSub, Nat.le_refl, eq_self, li_0, li_1, li_2, li_3, li_4, li_5, li_6, li_7, li_8, li_9, li_10, li_11, li_12, li_13, li_14, li_15, li_16, li_17, li_18, li_19, li_20, li_21, li_22, li_23, li_24, li_25, li_26, li_27, li_28, li_29, li_30, li_31, li_32, li_44, li_48, li_57, li_59, li_60, li_61, li_62, li_63, li_97, li_100, li_122, li_123, li_125, li_127, li_255, li_400, li_401, li_800, li_1023, li_1024, li_10827, i_add, i_mul, i_sub, i_p1, i_m1, i_nm, i_nm2, i_cl, i_cl0, vi_ok, i_lt, i_le, i_eq, lg_e, rf_103_4, rf_103_6, rf_103_7, rf_103_8, rf_103_9, rf_103_10, rf_103_21, rf_103_22, rf_103_23, rf_103_26, rf_103_27, rf_103_28, rf_103_29, rf_103_30, rf_103_31, rf_103_32, rf_103_33, rf_103_34, rf_103_35, rf_103_37, rf_103_38, rf_103_39, rf_103_44, rf_103_45, rf_103_46, rf_103_47, rf_103_48, rf_103_49, rf_103_54, rf_103_55, is_103, is_104, sz_104, is_125, sz_125, is_126, sz_126, is_127, sz_127, is_128, sz_128, is_129, sz_129, is_130, sz_130, is_131, sz_131, is_132, sz_132, is_133, sz_133, is_134, sz_134, is_135, sz_135, is_136, sz_136, is_137, sz_137, is_138, sz_138, is_139, sz_139, is_140, sz_140, is_141, sz_141, is_142, sz_142, is_143, sz_143, is_144, sz_144, is_145, sz_145, is_146, sz_146, is_147, sz_147, is_148, sz_148, is_149, sz_149, is_150, sz_150, is_151, sz_151, is_152, sz_152, is_153, sz_153, show ¬ 27 ≤ a by omega, (mk2 s hs).1, i_bit (show a < 27 by omega), bI_t p, l1.2, l2.2, g1.2, g2.2]
        refine ⟨fun z => out (fun y => z (y.2.2.2 a (by omega) p)) (a + 1) (by omega), fun z => ih (a + 1) (by omega) (fun b hb pb => ?_)⟩
        by_cases c : b = a
        · rw [c]; exact z
        · exact hl b (by omega) pb
      · simp (disch := first | assumption | omega) only [true_and, and_true, forall_eq, true_implies, false_implies, implies_true, not_true_eq_false, not_false_eq_true, false_and, and_false, ne_eq, ite_true, ite_false, Nat.reduceLeDiff, Nat.reduceEqDiff, Nat.reduceLT, Nat.reduceAdd, Nat.reduceMul, Nat.reduceSub, Nat.le_refl, eq_self, li_0, li_1, li_2, li_3, li_4, li_5, li_6, li_7, li_8, li_9, li_10, li_11, li_12, li_13, li_14, li_15, li_16, li_17, li_18, li_19, li_20, li_21, li_22, li_23, li_24, li_25, li_26, li_27, li_28, li_29, li_30, li_31, li_32, li_44, li_48, li_57, li_59, li_60, li_61, li_62, li_63, li_97, li_100, li_122, li_123, li_125, li_127, li_255, li_400, li_401, li_800, li_1023, li_1024, li_10827, i_add, i_mul, i_sub, i_p1, i_m1, i_nm, i_nm2, i_cl, i_cl0, vi_ok, i_lt, i_le, i_eq, lg_e, rf_103_4, rf_103_6, rf_103_7, rf_103_8, rf_103_9, rf_103_10, rf_103_21, rf_103_22, rf_103_23, rf_103_26, rf_103_27, rf_103_28, rf_103_29, rf_103_30, rf_103_31, rf_103_32, rf_103_33, rf_103_34, rf_103_35, rf_103_37, rf_103_38, rf_103_39, rf_103_44, rf_103_45, rf_103_46, rf_103_47, rf_103_48, rf_103_49, rf_103_54, rf_103_55, is_103, is_104, sz_104, is_125, sz_125, is_126, sz_126, is_127, sz_127, is_128, sz_128, is_129, sz_129, is_130, sz_130, is_131, sz_131, is_132, sz_132, is_133, sz_133, is_134, sz_134, is_135, sz_135, is_136, sz_136, is_137, sz_137, is_138, sz_138, is_139, sz_139, is_140, sz_140, is_141, sz_141, is_142, sz_142, is_143, sz_143, is_144, sz_144, is_145, sz_145, is_146, sz_146, is_147, sz_147, is_148, sz_148, is_149, sz_149, is_150, sz_150, is_151, sz_151, is_152, sz_152, is_153, sz_153, show ¬ 27 ≤ a by omega, (mk2 s hs).1, i_bit (show a < 27 by omega), bI_f p]
        refine ih (a + 1) (by omega) (fun b hb pb => ?_)
        by_cases c : b = a
        · rw [c] at pb; exact absurd pb p
        · exact hl b (by omega) pb
  refine c_X12_isLike (s_X12_isLike_0 ?_)
  simp (disch := first | assumption | omega) only [true_and, and_true, forall_eq, true_implies, false_implies, implies_true, not_true_eq_false, not_false_eq_true, false_and, and_false, ne_eq, ite_true, ite_false, Nat.reduceLeDiff, Nat.reduceEqDiff, Nat.reduceLT, Nat.reduceAdd, Nat.reduceMul, Nat.reduceSub, Nat.le_refl, eq_self, li_0, li_1, li_2, li_3, li_4, li_5, li_6, li_7, li_8, li_9, li_10, li_11, li_12, li_13, li_14, li_15, li_16, li_17, li_18, li_19, li_20, li_21, li_22, li_23, li_24, li_25, li_26, li_27, li_28, li_29, li_30, li_31, li_32, li_44, li_48, li_57, li_59, li_60, li_61, li_62, li_63, li_97, li_100, li_122, li_123, li_125, li_127, li_255, li_400, li_401, li_800, li_1023, li_1024, li_10827, i_add, i_mul, i_sub, i_p1, i_m1, i_nm, i_nm2, i_cl, i_cl0, vi_ok, i_lt, i_le, i_eq, lg_e, rf_103_4, rf_103_6, rf_103_7, rf_103_8, rf_103_9, rf_103_10, rf_103_21, rf_103_22, rf_103_23, rf_103_26, rf_103_27, rf_103_28, rf_103_29, rf_103_30, rf_103_31, rf_103_32, rf_103_33, rf_103_34, rf_103_35, rf_103_37, rf_103_38, rf_103_39, rf_103_44, rf_103_45, rf_103_46, rf_103_47, rf_103_48, rf_103_49, rf_103_54, rf_103_55, is_103, is_104, sz_104, is_125, sz_125, is_126, sz_126, is_127, sz_127, is_128, sz_128, is_129, sz_129, is_130, sz_130, is_131, sz_131, is_132, sz_132, is_133, sz_133, is_134, sz_134, is_135, sz_135, is_136, sz_136, is_137, sz_137, is_138, sz_138, is_139, sz_139, is_140, sz_140, is_141, sz_141, is_142, sz_142, is_143, sz_143, is_144, sz_144, is_145, sz_145, is_146, sz_146, is_147, sz_147, is_148, sz_148, is_149, sz_149, is_150, sz_150, is_151, sz_151, is_152, sz_152, is_153, sz_153, fs.2, ft.2, (mk2 s hs).1, (mk2 t ht).1, (mk2 s hs).2, (mk2 t ht).2]
  refine ⟨fun z => out (fun y => z y.1) 0 (by omega), fun z => ⟨fun z2 => out (fun y => z2 y.2.1) 0 (by omega), fun z2 => ⟨fun z3 => out (fun y => z3 (bsum_congr 27 y.2.2.1)) 0 (by omega), fun z3 => ?_⟩⟩⟩
  exact loop z z2 (bsum_inj z3) 27 0 rfl (fun b hb => absurd hb (Nat.not_lt_zero b))
def PP (c p : Nat) : Prop := PS c p ∨ (139 ≤ c ∧ c ≤ 141) ∨ c = 143 ∨ (c = 103 ∧ p = 36)
theorem PP_no {c p : Nat} (h : PP c p) : (130 ≤ c ∧ c ≤ 132) ∨ (139 ≤ c ∧ c ≤ 141) ∨ c = 143 ∨ (c = 103 ∧ (p = 19 ∨ p = 20 ∨ p = 36)) := by
  unfold PP PS at h
  omega
def PQ2 (c p : Nat) : Prop := (139 ≤ c ∧ c ≤ 141) ∨ (c = 103 ∧ p = 36)
theorem k_parts52 {l : Launch} {g : AG} {h0 : AH} {D : AD} {n : Nat} {ST : Nat → AS} {LD : Nat → Nat} {Q : AH → Prop} (hn0 : 0 < n) (hn : n ≤ 400) (mk0 : MKr h0 D n ST LD) (hq : ∀ h' m f, Refs h' → Fr PQ2 h0 h' → h'.1 103 36 = Int32.ofNat m → (∀ i, i < n → h'.1 139 i = Int32.ofNat (f i)) → Canon n m f (Like D n ST LD) → Q h') : ∀ e had m f h, 2 * (n - m) + (if had = m then 0 else 1) ≤ e → had ≤ 400 → Refs h → Fr PQ2 h0 h → h.1 103 36 = Int32.ofNat m → (∀ i, i < n → h.1 139 i = Int32.ofNat (f i)) → Canon n m f (fun s t => f s = f t) → (∀ s t, Like D n ST LD s t → f s = f t) → (had = m → ∀ s t, s < n → t < n → f s = f t → Lk D ST LD f s t) → L_X12_parts_52 l g h 103 (Int32.ofNat had) Q := by
  have hL : ∀ s a, s < n → a < 27 → possD D (ST s) a → LD (27 * s + a) < n := fun s a hs ha p => (mk0.2.2 s a hs ha p).1
  intro e
  induction e using Nat.strongRecOn with
  | ind e ihe =>
  intro had m f h he hh hr hf e36 hv hc lk cl
  have hle := canon_le hc
  have hfb : ∀ i, i < n → f i < 400 := fun i hi => by have := hc.2.1 i hi; omega
  refine s_X12_parts_52 ?_
  rw [e36]
  refine ⟨is_103, fun z => ?_, fun z => ?_⟩
  · have z := (i_eq (by omega) (by omega)).1 z
    exact hq h m f hr hf e36 hv (like_of_lk hL hc lk (cl z.symm))
  have hne : m ≠ had := fun y => z (by rw [y])
  intro v28 e28
  rw [e28]
  -- the copy loop
  have copy : ∀ (m2 : Nat) (f2 : Nat → Nat), Canon n m2 f2 (Lk D ST LD f) → ∀ d i, i + d = n → ∀ h, Refs h → Fr PQ2 h0 h → h.1 103 36 = Int32.ofNat m2 → (∀ k, k < n → h.1 140 k = Int32.ofNat (f2 k)) → (∀ k, k < i → h.1 139 k = Int32.ofNat (f2 k)) → L_X12_parts_156 l g h 103 (Int32.ofNat m) (Int32.ofNat i) Q := by
    intro m2 f2 c2 d
    have hle2 := canon_le c2
    induction d with
    | zero =>
      intro i hi h hr hf e36 h140 h139
      have mk := mk0.fr hf (fun c p q => by unfold PQ2 at q; omega)
      refine s_X12_parts_156 ?_
      simp (disch := first | assumption | omega) only [true_and, and_true, forall_eq, true_implies, false_implies, implies_true, not_true_eq_false, not_false_eq_true, false_and, and_false, ne_eq, ite_true, ite_false, Nat.reduceLeDiff, Nat.reduceEqDiff, Nat.reduceLT, Nat.reduceAdd, Nat.reduceMul, Nat.reduceSub, Nat.le_refl, eq_self, li_0, li_1, li_2, li_3, li_4, li_5, li_6, li_7, li_8, li_9, li_10, li_11, li_12, li_13, li_14, li_15, li_16, li_17, li_18, li_19, li_20, li_21, li_22, li_23, li_24, li_25, li_26, li_27, li_28, li_29, li_30, li_31, li_32, li_44, li_48, li_57, li_59, li_60, li_61, li_62, li_63, li_97, li_100, li_122, li_123, li_125, li_127, li_255, li_400, li_401, li_800, li_1023, li_1024, li_10827, i_add, i_mul, i_sub, i_p1, i_m1, i_nm, i_nm2, i_cl, i_cl0, vi_ok, i_lt, i_le, i_eq, lg_e, is_103, mk.1, show n ≤ i by omega]
      obtain ⟨k1, k2, k3⟩ := lk_next hL hc lk c2
      have hmm := lk_next hL hc lk c2
      refine ihe (2 * (n - m2) + (if m = m2 then 0 else 1)) ?_ m m2 f2 h (Nat.le_refl _) (by omega) hr hf e36 (fun k hk => h139 k (by omega)) (canon_self c2) k1 (fun y => k3 y.symm)
      have hn2 : ¬ had = m := fun y => hne y.symm
      rw [if_neg hn2] at he
      by_cases y : m = m2
      · rw [if_pos y]; omega
      · rw [if_neg y]; omega
    | succ d ih =>
      intro i hi h hr hf e36 h140 h139
      have mk := mk0.fr hf (fun c p q => by unfold PQ2 at q; omega)
      refine s_X12_parts_156 ?_
      simp (disch := first | assumption | omega) only [true_and, and_true, forall_eq, true_implies, false_implies, implies_true, not_true_eq_false, not_false_eq_true, false_and, and_false, ne_eq, ite_true, ite_false, Nat.reduceLeDiff, Nat.reduceEqDiff, Nat.reduceLT, Nat.reduceAdd, Nat.reduceMul, Nat.reduceSub, Nat.le_refl, eq_self, li_0, li_1, li_2, li_3, li_4, li_5, li_6, li_7, li_8, li_9, li_10, li_11, li_12, li_13, li_14, li_15, li_16, li_17, li_18, li_19, li_20, li_21, li_22, li_23, li_24, li_25, li_26, li_27, li_28, li_29, li_30, li_31, li_32, li_44, li_48, li_57, li_59, li_60, li_61, li_62, li_63, li_97, li_100, li_122, li_123, li_125, li_127, li_255, li_400, li_401, li_800, li_1023, li_1024, li_10827, i_add, i_mul, i_sub, i_p1, i_m1, i_nm, i_nm2, i_cl, i_cl0, vi_ok, i_lt, i_le, i_eq, lg_e, rf_103_4, rf_103_6, rf_103_7, rf_103_8, rf_103_9, rf_103_10, rf_103_21, rf_103_22, rf_103_23, rf_103_26, rf_103_27, rf_103_28, rf_103_29, rf_103_30, rf_103_31, rf_103_32, rf_103_33, rf_103_34, rf_103_35, rf_103_37, rf_103_38, rf_103_39, rf_103_44, rf_103_45, rf_103_46, rf_103_47, rf_103_48, rf_103_49, rf_103_54, rf_103_55, is_103, is_104, sz_104, is_125, sz_125, is_126, sz_126, is_127, sz_127, is_128, sz_128, is_129, sz_129, is_130, sz_130, is_131, sz_131, is_132, sz_132, is_133, sz_133, is_134, sz_134, is_135, sz_135, is_136, sz_136, is_137, sz_137, is_138, sz_138, is_139, sz_139, is_140, sz_140, is_141, sz_141, is_142, sz_142, is_143, sz_143, is_144, sz_144, is_145, sz_145, is_146, sz_146, is_147, sz_147, is_148, sz_148, is_149, sz_149, is_150, sz_150, is_151, sz_151, is_152, sz_152, is_153, sz_153, mk.1, show ¬ n ≤ i by omega, h140 i (by omega)]
      refine ih (i + 1) (by omega) _ hr.setI (hf.setI (Or.inl ⟨by omega, by omega⟩)) (by rw [gI_c (by omega)]; exact e36) (fun k hk => by rw [gI_c (by omega)]; exact h140 k hk) (fun k hk => ?_)
      by_cases c : k = i
      · rw [gI_t rfl c, c]
      · rw [gI_p c]; exact h139 k (by omega)
  have num : ∀ d s, s + d = n → ∀ (h : AH) (m2 : Nat) (f2 fo : Nat → Nat), Refs h → Fr PQ2 h0 h → h.1 103 36 = Int32.ofNat m2 → (∀ i, i < n → h.1 139 i = Int32.ofNat (f i)) → Canon s m2 f2 (Lk D ST LD f) → (∀ k, k < s → h.1 140 k = Int32.ofNat (f2 k)) → (∀ k, k < m2 → fo k < s ∧ f2 (fo k) = k ∧ h.1 141 k = Int32.ofNat (fo k)) → L_X12_parts_72 l g h 103 (Int32.ofNat m) (Int32.ofNat s) Q := by
    intro d
    induction d with
    | zero =>
      intro s hs h m2 f2 fo hr hf e36 h139 c2 h140 hfo
      have mk := mk0.fr hf (fun c p q => by unfold PQ2 at q; omega)
      refine s_X12_parts_72 ?_
      simp (disch := first | assumption | omega) only [true_and, and_true, forall_eq, true_implies, false_implies, implies_true, not_true_eq_false, not_false_eq_true, false_and, and_false, ne_eq, ite_true, ite_false, Nat.reduceLeDiff, Nat.reduceEqDiff, Nat.reduceLT, Nat.reduceAdd, Nat.reduceMul, Nat.reduceSub, Nat.le_refl, eq_self, li_0, li_1, li_2, li_3, li_4, li_5, li_6, li_7, li_8, li_9, li_10, li_11, li_12, li_13, li_14, li_15, li_16, li_17, li_18, li_19, li_20, li_21, li_22, li_23, li_24, li_25, li_26, li_27, li_28, li_29, li_30, li_31, li_32, li_44, li_48, li_57, li_59, li_60, li_61, li_62, li_63, li_97, li_100, li_122, li_123, li_125, li_127, li_255, li_400, li_401, li_800, li_1023, li_1024, li_10827, i_add, i_mul, i_sub, i_p1, i_m1, i_nm, i_nm2, i_cl, i_cl0, vi_ok, i_lt, i_le, i_eq, lg_e, is_103, mk.1, show n ≤ s by omega]
      rw [show s = n by omega] at c2 h140
      exact copy m2 f2 c2 n 0 (Nat.zero_add _) h hr hf e36 h140 (fun k hk => absurd hk (Nat.not_lt_zero k))
    | succ d ih =>
      intro s hs h m2 f2 fo hr hf e36 h139 c2 h140 hfo
      have mk := mk0.fr hf (fun c p q => by unfold PQ2 at q; omega)
      have hle2 := canon_le c2
      refine s_X12_parts_72 ?_
      simp (disch := first | assumption | omega) only [true_and, and_true, forall_eq, true_implies, false_implies, implies_true, not_true_eq_false, not_false_eq_true, false_and, and_false, ne_eq, ite_true, ite_false, Nat.reduceLeDiff, Nat.reduceEqDiff, Nat.reduceLT, Nat.reduceAdd, Nat.reduceMul, Nat.reduceSub, Nat.le_refl, eq_self, li_0, li_1, li_2, li_3, li_4, li_5, li_6, li_7, li_8, li_9, li_10, li_11, li_12, li_13, li_14, li_15, li_16, li_17, li_18, li_19, li_20, li_21, li_22, li_23, li_24, li_25, li_26, li_27, li_28, li_29, li_30, li_31, li_32, li_44, li_48, li_57, li_59, li_60, li_61, li_62, li_63, li_97, li_100, li_122, li_123, li_125, li_127, li_255, li_400, li_401, li_800, li_1023, li_1024, li_10827, i_add, i_mul, i_sub, i_p1, i_m1, i_nm, i_nm2, i_cl, i_cl0, vi_ok, i_lt, i_le, i_eq, lg_e, is_103, mk.1, show ¬ n ≤ s by omega]
      have search : ∀ e2 k, k + e2 = m2 → (∀ j, j < k → ¬ Lk D ST LD f s (fo j)) → L_X12_parts_83 l g h 103 (Int32.ofNat m) (Int32.ofNat s) (Int32.ofNat k) Q := by
        intro e2
        induction e2 with
        | zero =>
          intro k hk hl
          have : k = m2 := by omega
          subst this
          refine s_X12_parts_83 ?_
          simp (disch := first | assumption | omega) only [true_and, and_true, forall_eq, true_implies, false_implies, implies_true, not_true_eq_false, not_false_eq_true, false_and, and_false, ne_eq, ite_true, ite_false, Nat.reduceLeDiff, Nat.reduceEqDiff, Nat.reduceLT, Nat.reduceAdd, Nat.reduceMul, Nat.reduceSub, Nat.le_refl, eq_self, li_0, li_1, li_2, li_3, li_4, li_5, li_6, li_7, li_8, li_9, li_10, li_11, li_12, li_13, li_14, li_15, li_16, li_17, li_18, li_19, li_20, li_21, li_22, li_23, li_24, li_25, li_26, li_27, li_28, li_29, li_30, li_31, li_32, li_44, li_48, li_57, li_59, li_60, li_61, li_62, li_63, li_97, li_100, li_122, li_123, li_125, li_127, li_255, li_400, li_401, li_800, li_1023, li_1024, li_10827, i_add, i_mul, i_sub, i_p1, i_m1, i_nm, i_nm2, i_cl, i_cl0, vi_ok, i_lt, i_le, i_eq, lg_e, is_103, e36]
          refine s_X12_parts_113 ?_
          simp (disch := first | assumption | omega) only [true_and, and_true, forall_eq, true_implies, false_implies, implies_true, not_true_eq_false, not_false_eq_true, false_and, and_false, ne_eq, ite_true, ite_false, Nat.reduceLeDiff, Nat.reduceEqDiff, Nat.reduceLT, Nat.reduceAdd, Nat.reduceMul, Nat.reduceSub, Nat.le_refl, eq_self, li_0, li_1, li_2, li_3, li_4, li_5, li_6, li_7, li_8, li_9, li_10, li_11, li_12, li_13, li_14, li_15, li_16, li_17, li_18, li_19, li_20, li_21, li_22, li_23, li_24, li_25, li_26, li_27, li_28, li_29, li_30, li_31, li_32, li_44, li_48, li_57, li_59, li_60, li_61, li_62, li_63, li_97, li_100, li_122, li_123, li_125, li_127, li_255, li_400, li_401, li_800, li_1023, li_1024, li_10827, i_add, i_mul, i_sub, i_p1, i_m1, i_nm, i_nm2, i_cl, i_cl0, vi_ok, i_lt, i_le, i_eq, lg_e, rf_103_4, rf_103_6, rf_103_7, rf_103_8, rf_103_9, rf_103_10, rf_103_21, rf_103_22, rf_103_23, rf_103_26, rf_103_27, rf_103_28, rf_103_29, rf_103_30, rf_103_31, rf_103_32, rf_103_33, rf_103_34, rf_103_35, rf_103_37, rf_103_38, rf_103_39, rf_103_44, rf_103_45, rf_103_46, rf_103_47, rf_103_48, rf_103_49, rf_103_54, rf_103_55, is_103, is_104, sz_104, is_125, sz_125, is_126, sz_126, is_127, sz_127, is_128, sz_128, is_129, sz_129, is_130, sz_130, is_131, sz_131, is_132, sz_132, is_133, sz_133, is_134, sz_134, is_135, sz_135, is_136, sz_136, is_137, sz_137, is_138, sz_138, is_139, sz_139, is_140, sz_140, is_141, sz_141, is_142, sz_142, is_143, sz_143, is_144, sz_144, is_145, sz_145, is_146, sz_146, is_147, sz_147, is_148, sz_148, is_149, sz_149, is_150, sz_150, is_151, sz_151, is_152, sz_152, is_153, sz_153, gI_s, gI_c, gI_p, gI_L, gI_R, gL_s, gL_c, gL_p, gL_I, gL_R, gR_s, gR_c, gR_p, gR_I, gR_L, e36]
          refine ih (s + 1) (by omega) _ (k + 1) (nup f2 s k) (nup fo k s) hr.setI.setI.setI (((hf.setI (Or.inl ⟨by omega, by omega⟩)).setI (Or.inr ⟨rfl, rfl⟩)).setI (Or.inl ⟨by omega, by omega⟩)) (by simp (disch := first | assumption | omega) only [true_and, and_true, forall_eq, true_implies, false_implies, implies_true, not_true_eq_false, not_false_eq_true, false_and, and_false, ne_eq, ite_true, ite_false, Nat.reduceLeDiff, Nat.reduceEqDiff, Nat.reduceLT, Nat.reduceAdd, Nat.reduceMul, Nat.reduceSub, Nat.le_refl, eq_self, li_0, li_1, li_2, li_3, li_4, li_5, li_6, li_7, li_8, li_9, li_10, li_11, li_12, li_13, li_14, li_15, li_16, li_17, li_18, li_19, li_20, li_21, li_22, li_23, li_24, li_25, li_26, li_27, li_28, li_29, li_30, li_31, li_32, li_44, li_48, li_57, li_59, li_60, li_61, li_62, li_63, li_97, li_100, li_122, li_123, li_125, li_127, li_255, li_400, li_401, li_800, li_1023, li_1024, li_10827, i_add, i_mul, i_sub, i_p1, i_m1, i_nm, i_nm2, i_cl, i_cl0, vi_ok, i_lt, i_le, i_eq, lg_e, gI_s, gI_c, gI_p, gI_L, gI_R, gL_s, gL_c, gL_p, gL_I, gL_R, gR_s, gR_c, gR_p, gR_I, gR_L]) (fun i hi => by simp (disch := first | assumption | omega) only [true_and, and_true, forall_eq, true_implies, false_implies, implies_true, not_true_eq_false, not_false_eq_true, false_and, and_false, ne_eq, ite_true, ite_false, Nat.reduceLeDiff, Nat.reduceEqDiff, Nat.reduceLT, Nat.reduceAdd, Nat.reduceMul, Nat.reduceSub, Nat.le_refl, eq_self, li_0, li_1, li_2, li_3, li_4, li_5, li_6, li_7, li_8, li_9, li_10, li_11, li_12, li_13, li_14, li_15, li_16, li_17, li_18, li_19, li_20, li_21, li_22, li_23, li_24, li_25, li_26, li_27, li_28, li_29, li_30, li_31, li_32, li_44, li_48, li_57, li_59, li_60, li_61, li_62, li_63, li_97, li_100, li_122, li_123, li_125, li_127, li_255, li_400, li_401, li_800, li_1023, li_1024, li_10827, i_add, i_mul, i_sub, i_p1, i_m1, i_nm, i_nm2, i_cl, i_cl0, vi_ok, i_lt, i_le, i_eq, lg_e, gI_s, gI_c, gI_p, gI_L, gI_R, gL_s, gL_c, gL_p, gL_I, gL_R, gR_s, gR_c, gR_p, gR_I, gR_L]; exact h139 i hi) (canon_new c2 Lk.sy (Lk.rf D ST LD f s) (fun u hu e => ?_)) (fun i hi => ?_) (fun i hi => ?_)
          · have q := hfo (f2 u) (c2.2.1 u hu)
            exact hl (f2 u) (c2.2.1 u hu) (Lk.tr _ _ _ e ((c2.1 u _ hu q.1).1 q.2.1.symm))
          · by_cases c : i = s
            · rw [gI_t rfl c, c, nup_s]
            · rw [gI_p c, nup_n c, gI_c (by omega), gI_c (by omega)]; exact h140 i (by omega)
          · by_cases c : i = k
            · rw [c, nup_s, nup_s, gI_c (by omega), gI_c (by omega), gI_s]
              exact ⟨by omega, rfl, rfl⟩
            · have q := hfo i (by omega)
              rw [nup_n c, nup_n (by omega), gI_c (by omega), gI_c (by omega), gI_p c]
              exact ⟨by omega, q.2.1, q.2.2⟩
        | succ e2 ih2 =>
          intro k hk hl
          have q := hfo k (by omega)
          refine s_X12_parts_83 ?_
          simp (disch := first | assumption | omega) only [true_and, and_true, forall_eq, true_implies, false_implies, implies_true, not_true_eq_false, not_false_eq_true, false_and, and_false, ne_eq, ite_true, ite_false, Nat.reduceLeDiff, Nat.reduceEqDiff, Nat.reduceLT, Nat.reduceAdd, Nat.reduceMul, Nat.reduceSub, Nat.le_refl, eq_self, li_0, li_1, li_2, li_3, li_4, li_5, li_6, li_7, li_8, li_9, li_10, li_11, li_12, li_13, li_14, li_15, li_16, li_17, li_18, li_19, li_20, li_21, li_22, li_23, li_24, li_25, li_26, li_27, li_28, li_29, li_30, li_31, li_32, li_44, li_48, li_57, li_59, li_60, li_61, li_62, li_63, li_97, li_100, li_122, li_123, li_125, li_127, li_255, li_400, li_401, li_800, li_1023, li_1024, li_10827, i_add, i_mul, i_sub, i_p1, i_m1, i_nm, i_nm2, i_cl, i_cl0, vi_ok, i_lt, i_le, i_eq, lg_e, rf_103_4, rf_103_6, rf_103_7, rf_103_8, rf_103_9, rf_103_10, rf_103_21, rf_103_22, rf_103_23, rf_103_26, rf_103_27, rf_103_28, rf_103_29, rf_103_30, rf_103_31, rf_103_32, rf_103_33, rf_103_34, rf_103_35, rf_103_37, rf_103_38, rf_103_39, rf_103_44, rf_103_45, rf_103_46, rf_103_47, rf_103_48, rf_103_49, rf_103_54, rf_103_55, is_103, is_104, sz_104, is_125, sz_125, is_126, sz_126, is_127, sz_127, is_128, sz_128, is_129, sz_129, is_130, sz_130, is_131, sz_131, is_132, sz_132, is_133, sz_133, is_134, sz_134, is_135, sz_135, is_136, sz_136, is_137, sz_137, is_138, sz_138, is_139, sz_139, is_140, sz_140, is_141, sz_141, is_142, sz_142, is_143, sz_143, is_144, sz_144, is_145, sz_145, is_146, sz_146, is_147, sz_147, is_148, sz_148, is_149, sz_149, is_150, sz_150, is_151, sz_151, is_152, sz_152, is_153, sz_153, e36, show ¬ m2 ≤ k by omega, q.2.2]
          refine k_isLike hr hn mk (fun i hi => ⟨hfb i hi, h139 i hi⟩) (by omega) (by omega) (fun z => ?_) (fun z => ?_)
          · refine ⟨fun _ => s_X12_parts_113 ?_, fun y => absurd y (by decide)⟩
            simp (disch := first | assumption | omega) only [true_and, and_true, forall_eq, true_implies, false_implies, implies_true, not_true_eq_false, not_false_eq_true, false_and, and_false, ne_eq, ite_true, ite_false, Nat.reduceLeDiff, Nat.reduceEqDiff, Nat.reduceLT, Nat.reduceAdd, Nat.reduceMul, Nat.reduceSub, Nat.le_refl, eq_self, li_0, li_1, li_2, li_3, li_4, li_5, li_6, li_7, li_8, li_9, li_10, li_11, li_12, li_13, li_14, li_15, li_16, li_17, li_18, li_19, li_20, li_21, li_22, li_23, li_24, li_25, li_26, li_27, li_28, li_29, li_30, li_31, li_32, li_44, li_48, li_57, li_59, li_60, li_61, li_62, li_63, li_97, li_100, li_122, li_123, li_125, li_127, li_255, li_400, li_401, li_800, li_1023, li_1024, li_10827, i_add, i_mul, i_sub, i_p1, i_m1, i_nm, i_nm2, i_cl, i_cl0, vi_ok, i_lt, i_le, i_eq, lg_e, rf_103_4, rf_103_6, rf_103_7, rf_103_8, rf_103_9, rf_103_10, rf_103_21, rf_103_22, rf_103_23, rf_103_26, rf_103_27, rf_103_28, rf_103_29, rf_103_30, rf_103_31, rf_103_32, rf_103_33, rf_103_34, rf_103_35, rf_103_37, rf_103_38, rf_103_39, rf_103_44, rf_103_45, rf_103_46, rf_103_47, rf_103_48, rf_103_49, rf_103_54, rf_103_55, is_103, is_104, sz_104, is_125, sz_125, is_126, sz_126, is_127, sz_127, is_128, sz_128, is_129, sz_129, is_130, sz_130, is_131, sz_131, is_132, sz_132, is_133, sz_133, is_134, sz_134, is_135, sz_135, is_136, sz_136, is_137, sz_137, is_138, sz_138, is_139, sz_139, is_140, sz_140, is_141, sz_141, is_142, sz_142, is_143, sz_143, is_144, sz_144, is_145, sz_145, is_146, sz_146, is_147, sz_147, is_148, sz_148, is_149, sz_149, is_150, sz_150, is_151, sz_151, is_152, sz_152, is_153, sz_153, e36, show ¬ k = m2 by omega]
            refine ih (s + 1) (by omega) _ m2 (nup f2 s k) fo hr.setI (hf.setI (Or.inl ⟨by omega, by omega⟩)) (by rw [gI_c (by omega)]; exact e36) (fun i hi => by rw [gI_c (by omega)]; exact h139 i hi) (canon_old c2 Lk.sy Lk.tr q.1 z q.2.1.symm) (fun i hi => ?_) (fun i hi => ?_)
            · by_cases c : i = s
              · rw [gI_t rfl c, c, nup_s]
              · rw [gI_p c, nup_n c]; exact h140 i (by omega)
            · have q := hfo i hi
              rw [nup_n (by omega), gI_c (by omega)]
              exact ⟨by omega, q.2.1, q.2.2⟩
          · refine ⟨fun y => absurd rfl y, fun _ => ?_⟩
            (try simp (disch := first | assumption | omega) only [true_and, and_true, forall_eq, true_implies, false_implies, implies_true, not_true_eq_false, not_false_eq_true, false_and, and_false, ne_eq, ite_true, ite_false, Nat.reduceLeDiff, Nat.reduceEqDiff, Nat.reduceLT, Nat.reduceAdd, Nat.reduceMul, Nat.reduceSub, Nat.le_refl, eq_self, li_0, li_1, li_2, li_3, li_4, li_5, li_6, li_7, li_8, li_9, li_10, li_11, li_12, li_13, li_14, li_15, li_16, li_17, li_18, li_19, li_20, li_21, li_22, li_23, li_24, li_25, li_26, li_27, li_28, li_29, li_30, li_31, li_32, li_44, li_48, li_57, li_59, li_60, li_61, li_62, li_63, li_97, li_100, li_122, li_123, li_125, li_127, li_255, li_400, li_401, li_800, li_1023, li_1024, li_10827, i_add, i_mul, i_sub, i_p1, i_m1, i_nm, i_nm2, i_cl, i_cl0, vi_ok, i_lt, i_le, i_eq, lg_e])
            refine ih2 (k + 1) (by omega) (fun j hj => ?_)
            by_cases c : j = k
            · rw [c]; exact z
            · exact hl j (by omega)
      exact search m2 0 (Nat.zero_add _) (fun j hj => absurd hj (Nat.not_lt_zero j))
  intro h30 e30
  refine num n 0 (Nat.zero_add _) h30 0 (fun _ => 0) (fun _ => 0) (by rw [e30]; exact hr.setI) (by rw [e30]; exact hf.setI (Or.inr ⟨rfl, rfl⟩)) (by rw [e30, gI_s]; rfl) (fun i hi => by rw [e30, gI_c (by omega)]; exact hv i hi) (canon_zero _ _) (fun k hk => absurd hk (Nat.not_lt_zero k)) (fun k hk => absurd hk (Nat.not_lt_zero k))
