theorem pig : ∀ (m n : Nat) (f : Nat → Nat), (∀ i, i < n → f i < m) → (∀ i j, i < n → j < n → f i = f j → i = j) → n ≤ m := by
  intro m
  induction m with
  | zero =>
    intro n f h1 _
    rcases Nat.eq_zero_or_pos n with q | q
    · omega
    · exact absurd (h1 0 q) (Nat.not_lt_zero _)
  | succ m ih =>
    intro n f h1 h2
    cases n with
    | zero => omega
    | succ n =>
      have := ih n (fun i => if f i = m then f n else f i) (by
        intro i hi
        show (if f i = m then f n else f i) < m
        by_cases c : f i = m
        · rw [if_pos c]
          have a := h1 n (by omega)
          rcases Nat.lt_or_ge (f n) m with q | q
          · exact q
          · have := h2 i n (by omega) (by omega) (by omega)
            omega
        · rw [if_neg c]
          have := h1 i (by omega)
          omega) (by
        intro i j hi hj e
        have e : (if f i = m then f n else f i) = (if f j = m then f n else f j) := e
        by_cases c : f i = m
        · by_cases c2 : f j = m
          · exact h2 i j (by omega) (by omega) (by omega)
          · rw [if_pos c, if_neg c2] at e
            have := h2 n j (by omega) (by omega) e
            omega
        · by_cases c2 : f j = m
          · rw [if_neg c, if_pos c2] at e
            have := h2 i n (by omega) (by omega) e
            omega
          · rw [if_neg c, if_neg c2] at e
            exact h2 i j (by omega) (by omega) e)
      omega
def nupL (f : Nat → Int64) (k : Nat) (x : Int64) : Nat → Int64 := fun j => if j = k then x else f j
theorem nupL_s (f : Nat → Int64) (k : Nat) (x : Int64) : nupL f k x k = x := by unfold nupL; rw [if_pos rfl]
theorem nupL_n {f : Nat → Int64} {k j : Nat} {x : Int64} (h : j ≠ k) : nupL f k x j = f j := by unfold nupL; rw [if_neg h]
theorem nup_s (f : Nat → Nat) (k x : Nat) : nup f k x k = x := by unfold nup; rw [if_pos rfl]
theorem nup_n {f : Nat → Nat} {k j x : Nat} (h : j ≠ k) : nup f k x j = f j := by unfold nup; rw [if_neg h]
def hsI (a b : Int64) : Int32 := (jlushr ((a * (-7046029254386353131)) + (b * (-4417276706812531889))) 54).toInt32
def hsN (a b : Int64) : Nat := (hsI a b).toNatClampNeg
theorem l_ushr54 (v : Int64) : ∃ s, s < 1024 ∧ (jlushr v 54).toInt32 = Int32.ofNat s := by
  unfold jlushr
  have e : (54 : Int32).toInt64.toUInt64 &&& Int64.toUInt64 63 = 54 := by decide
  rw [e]
  refine ⟨(v.toUInt64 >>> 54).toNat, ?_, ?_⟩
  · rw [UInt64.toNat_shiftRight]
    have := v.toUInt64.toNat_lt
    rw [Nat.shiftRight_eq_div_pow]
    show v.toUInt64.toNat / 2 ^ 54 < 1024
    omega
  · have e2 : (v.toUInt64 >>> 54).toInt64 = Int64.ofNat (v.toUInt64 >>> 54).toNat := by
      apply Int64.toBitVec_inj.1
      apply BitVec.eq_of_toNat_eq
      rw [Int64.toBitVec_ofNat', BitVec.toNat_ofNat, Nat.mod_eq_of_lt (UInt64.toNat_lt _)]
      rfl
    rw [e2, l_to]
theorem hsN_ok (a b : Int64) : hsN a b < 1024 ∧ hsI a b = Int32.ofNat (hsN a b) := by
  obtain ⟨s, h1, h2⟩ := l_ushr54 ((a * (-7046029254386353131)) + (b * (-4417276706812531889)))
  have e : hsI a b = Int32.ofNat s := h2
  have e2 : hsN a b = s := by unfold hsN; rw [e, i_cl (by omega)]
  rw [e2]
  exact ⟨h1, e⟩
/-- the hash table: sl q is 0 or the number and one more of the pair in slot q -/
def HT (n : Nat) (L R : Nat → Int64) (sl : Nat → Nat) : Prop := (∀ q, q < 1024 → sl q ≤ n) ∧ (∀ q r, q < 1024 → r < 1024 → sl q ≠ 0 → sl q = sl r → q = r) ∧ ∀ i, i < n → ∃ k, k < 1024 ∧ sl ((hsN (L i) (R i) + k) % 1024) = i + 1 ∧ ∀ j, j < k → sl ((hsN (L i) (R i) + j) % 1024) ≠ 0
/-- the Meetings at x hold n pairs -/
def MT (h : AH) (x n : Nat) (L R : Nat → Int64) : Prop := h.1 x 0 = Int32.ofNat n ∧ n ≤ 400 ∧ (∀ i, i < n → h.2.1 (x + 1) i = L i ∧ h.2.1 (x + 2) i = R i) ∧ (∀ i j, i < n → j < n → L i = L j → R i = R j → i = j) ∧ ∃ sl : Nat → Nat, (∀ q, q < 1024 → h.1 (x + 6) q = Int32.ofNat (sl q)) ∧ HT n L R sl
theorem ht_add {n : Nat} {L R : Nat → Int64} {sl : Nat → Nat} {a b : Int64} {k : Nat} (hH : HT n L R sl) (hk : k < 1024) (h0 : sl ((hsN a b + k) % 1024) = 0) (hj : ∀ j, j < k → sl ((hsN a b + j) % 1024) ≠ 0) : HT (n + 1) (nupL L n a) (nupL R n b) (nup sl ((hsN a b + k) % 1024) (n + 1)) := by
  obtain ⟨h1, h2, h3⟩ := hH
  have hne : ∀ q, sl q ≠ 0 → nup sl ((hsN a b + k) % 1024) (n + 1) q = sl q := by
    intro q hq
    refine nup_n (fun e => hq ?_)
    rw [e]; exact h0
  refine ⟨fun q hq => ?_, fun q r hq hr e1 e2 => ?_, fun i hi => ?_⟩
  · unfold nup
    split
    · omega
    · have := h1 q hq; omega
  · by_cases c : q = (hsN a b + k) % 1024
    · by_cases c2 : r = (hsN a b + k) % 1024
      · rw [c, c2]
      · rw [c, nup_s, nup_n c2] at e2
        have := h1 r hr
        omega
    · by_cases c2 : r = (hsN a b + k) % 1024
      · rw [c2, nup_s, nup_n c] at e2
        have := h1 q hq
        omega
      · rw [nup_n c] at e1 e2
        rw [nup_n c2] at e2
        exact h2 q r hq hr e1 e2
  · by_cases c : i = n
    · rw [c, nupL_s, nupL_s]
      refine ⟨k, hk, nup_s _ _ _, fun j hjk => ?_⟩
      rw [hne _ (hj j hjk)]
      exact hj j hjk
    · rw [nupL_n c, nupL_n c]
      obtain ⟨m, m1, m2, m3⟩ := h3 i (by omega)
      refine ⟨m, m1, ?_, fun j hjm => ?_⟩
      · rw [hne _ (by omega)]; exact m2
      · rw [hne _ (m3 j hjm)]; exact m3 j hjm
/-- where an empty slot ends the search, the pair is new -/
theorem ht_new {n : Nat} {L R : Nat → Int64} {sl : Nat → Nat} {a b : Int64} {k : Nat} (hH : HT n L R sl) (h0 : sl ((hsN a b + k) % 1024) = 0) (hj : ∀ j, j < k → ¬ (L (sl ((hsN a b + j) % 1024) - 1) = a ∧ R (sl ((hsN a b + j) % 1024) - 1) = b)) : ∀ i, i < n → ¬ (L i = a ∧ R i = b) := by
  intro i hi e
  obtain ⟨m, m1, m2, m3⟩ := hH.2.2 i hi
  rw [e.1, e.2] at m2 m3
  rcases Nat.lt_or_ge m k with q | q
  · have := hj m q
    rw [m2] at this
    exact this e
  · rcases Nat.eq_or_lt_of_le q with q | q
    · rw [← q, h0] at m2
      omega
    · exact m3 k q h0
theorem ht_room {n : Nat} {L R : Nat → Int64} {sl : Nat → Nat} {s : Nat} (hH : HT n L R sl) (hn : n ≤ 400) (hj : ∀ j, j < 1024 → sl ((s + j) % 1024) ≠ 0) : False := by
  have := pig n 1024 (fun j => sl ((s + j) % 1024) - 1) (by
    intro i hi
    have a := hH.1 ((s + i) % 1024) (by omega)
    have b := hj i hi
    show sl ((s + i) % 1024) - 1 < n
    omega) (by
    intro i j hi hj2 e
    have e : sl ((s + i) % 1024) - 1 = sl ((s + j) % 1024) - 1 := e
    have a := hj i hi
    have b := hj j hj2
    have := hH.2.1 ((s + i) % 1024) ((s + j) % 1024) (by omega) (by omega) a (by omega)
    omega)
  omega
def PM (x c p : Nat) : Prop := x ≤ c ∧ c ≤ x + 6
theorem PM_rf {x : Nat} (hx : isM x) (c p : Nat) : (PM x c p ∧ ¬ (c = x ∧ p ≠ 0)) → rf c p = 0 := by
  intro q
  have h1 := q.1.1
  have h2 := q.1.2
  have : c = x ∨ c = x + 1 ∨ c = x + 2 ∨ c = x + 3 ∨ c = x + 4 ∨ c = x + 5 ∨ c = x + 6 := by omega
  rcases this with e | e | e | e | e | e | e
  · have p0 : p = 0 := by
      rcases Nat.eq_zero_or_pos p with z | z
      · exact z
      · exact absurd ⟨e, by omega⟩ q.2
    subst p0
    rcases hx with z | z | z <;> subst z <;> subst e <;> rfl
  all_goals rcases hx with z | z | z <;> subst z <;> subst e <;> rfl
theorem k_fill {l : Launch} {g : AG} {x m : Nat} {Q : AH → Prop} (hi : Is 194 x 20) (hm : (ax_s x).2 = m) (hm2 : m < 2147483648) (v : Int32) {h0 : AH} (hq : ∀ h', (∀ q, q < m → h'.1 x q = v) → Fr (fun c _ => c = x) h0 h' → h'.2.2 = h0.2.2 → Q h') : ∀ d k : Nat, k + d = m → ∀ h, (∀ q, q < k → h.1 x q = v) → Fr (fun c _ => c = x) h0 h → h.2.2 = h0.2.2 → L_J7_fill_53178_5 l g h x v (Int32.ofNat k) (Int32.ofNat m) Q := by
  intro d
  induction d with
  | zero =>
    intro k hk h hv hf hr
    refine s_J7_fill_53178_5 ?_
    (try simp (disch := first | assumption | omega) only [true_and, and_true, forall_eq, true_implies, false_implies, implies_true, not_true_eq_false, not_false_eq_true, false_and, and_false, ne_eq, ite_true, ite_false, Nat.reduceLeDiff, Nat.reduceEqDiff, Nat.reduceLT, Nat.reduceAdd, Nat.reduceMul, Nat.reduceSub, Nat.le_refl, eq_self, li_0, li_1, li_2, li_3, li_4, li_5, li_6, li_7, li_8, li_9, li_10, li_11, li_12, li_13, li_14, li_15, li_16, li_17, li_18, li_19, li_20, li_21, li_22, li_23, li_24, li_25, li_26, li_27, li_28, li_29, li_30, li_31, li_32, li_44, li_48, li_57, li_59, li_60, li_61, li_62, li_63, li_97, li_100, li_122, li_123, li_125, li_127, li_255, li_400, li_401, li_800, li_1023, li_1024, li_10827, i_add, i_mul, i_sub, i_p1, i_m1, i_nm, i_nm2, i_cl, i_cl0, vi_ok, i_lt, i_le, i_eq, lg_e, show m ≤ k by omega])
    exact hq h (fun q z => hv q (by omega)) hf hr
  | succ d ih =>
    intro k hk h hv hf hr
    refine s_J7_fill_53178_5 ?_
    rw [hm]
    (try simp (disch := first | assumption | omega) only [true_and, and_true, forall_eq, true_implies, false_implies, implies_true, not_true_eq_false, not_false_eq_true, false_and, and_false, ne_eq, ite_true, ite_false, Nat.reduceLeDiff, Nat.reduceEqDiff, Nat.reduceLT, Nat.reduceAdd, Nat.reduceMul, Nat.reduceSub, Nat.le_refl, eq_self, li_0, li_1, li_2, li_3, li_4, li_5, li_6, li_7, li_8, li_9, li_10, li_11, li_12, li_13, li_14, li_15, li_16, li_17, li_18, li_19, li_20, li_21, li_22, li_23, li_24, li_25, li_26, li_27, li_28, li_29, li_30, li_31, li_32, li_44, li_48, li_57, li_59, li_60, li_61, li_62, li_63, li_97, li_100, li_122, li_123, li_125, li_127, li_255, li_400, li_401, li_800, li_1023, li_1024, li_10827, i_add, i_mul, i_sub, i_p1, i_m1, i_nm, i_nm2, i_cl, i_cl0, vi_ok, i_lt, i_le, i_eq, lg_e, show ¬ m ≤ k by omega])
    refine ⟨hi, ih (k + 1) (by omega) _ (fun q z => ?_) (hf.setI rfl) hr⟩
    by_cases e : q = k
    · rw [gI_t rfl e]
    · rw [gI_p e]; exact hv q (by omega)
theorem k_X6_clear {l : Launch} {g : AG} {h : AH} {x : Nat} {Q : AH → Prop} (hr : Refs h) (hx : isM x) (L R : Nat → Int64) (hq : ∀ h', Fr (PM x) h h' → Refs h' → MT h' x 0 L R → Q h') : C_X6_clear l g h x Q := by
  refine c_X6_clear (s_X6_clear_0 ?_)
  have h6 : x ≠ x + 6 := by omega
  (try simp (disch := first | assumption | omega) only [true_and, and_true, forall_eq, true_implies, false_implies, implies_true, not_true_eq_false, not_false_eq_true, false_and, and_false, ne_eq, ite_true, ite_false, Nat.reduceLeDiff, Nat.reduceEqDiff, Nat.reduceLT, Nat.reduceAdd, Nat.reduceMul, Nat.reduceSub, Nat.le_refl, eq_self, li_0, li_1, li_2, li_3, li_4, li_5, li_6, li_7, li_8, li_9, li_10, li_11, li_12, li_13, li_14, li_15, li_16, li_17, li_18, li_19, li_20, li_21, li_22, li_23, li_24, li_25, li_26, li_27, li_28, li_29, li_30, li_31, li_32, li_44, li_48, li_57, li_59, li_60, li_61, li_62, li_63, li_97, li_100, li_122, li_123, li_125, li_127, li_255, li_400, li_401, li_800, li_1023, li_1024, li_10827, i_add, i_mul, i_sub, i_p1, i_m1, i_nm, i_nm2, i_cl, i_cl0, vi_ok, i_lt, i_le, i_eq, lg_e, isM_x, rfM_1, isM_1, szM_1, rfM_2, isM_2, szM_2, rfM_3, isM_3, szM_3, rfM_4, isM_4, szM_4, rfM_5, isM_5, szM_5, rfM_6, isM_6, szM_6, gI_R])
  refine c_J7_fill_53178 (s_J7_fill_53178_0 ?_)
  (try simp (disch := first | assumption | omega) only [true_and, and_true, forall_eq, true_implies, false_implies, implies_true, not_true_eq_false, not_false_eq_true, false_and, and_false, ne_eq, ite_true, ite_false, Nat.reduceLeDiff, Nat.reduceEqDiff, Nat.reduceLT, Nat.reduceAdd, Nat.reduceMul, Nat.reduceSub, Nat.le_refl, eq_self, li_0, li_1, li_2, li_3, li_4, li_5, li_6, li_7, li_8, li_9, li_10, li_11, li_12, li_13, li_14, li_15, li_16, li_17, li_18, li_19, li_20, li_21, li_22, li_23, li_24, li_25, li_26, li_27, li_28, li_29, li_30, li_31, li_32, li_44, li_48, li_57, li_59, li_60, li_61, li_62, li_63, li_97, li_100, li_122, li_123, li_125, li_127, li_255, li_400, li_401, li_800, li_1023, li_1024, li_10827, i_add, i_mul, i_sub, i_p1, i_m1, i_nm, i_nm2, i_cl, i_cl0, vi_ok, i_lt, i_le, i_eq, lg_e, isM_x, rfM_1, isM_1, szM_1, rfM_2, isM_2, szM_2, rfM_3, isM_3, szM_3, rfM_4, isM_4, szM_4, rfM_5, isM_5, szM_5, rfM_6, isM_6, szM_6])
  refine k_fill (m := 1024) (isM_6 hx) (szM_6 hx) (by omega) _ (h0 := ax_setI h x 0 (Int32.ofNat 0)) ?_ 1024 0 rfl _ (fun q z => absurd z (Nat.not_lt_zero q)) (Fr.refl _ _) rfl
  intro h' hv hf hR
  have hf2 : Fr (PM x) h h' := ((Fr.refl (PM x) h).setI ⟨Nat.le_refl x, by omega⟩).trans (hf.mono (fun c p e => ⟨by omega, by omega⟩))
  have hr2 : Refs h' := by
    intro c p z
    rw [hR]
    exact hr c p z
  refine hq h' hf2 hr2 ⟨?_, by omega, fun i hi => absurd hi (Nat.not_lt_zero i), fun i j hi => absurd hi (Nat.not_lt_zero i), fun _ => 0, hv, fun q _ => Nat.le_refl 0, fun q r _ _ e => absurd rfl e, fun i hi => absurd hi (Nat.not_lt_zero i)⟩
  rw [(hf x 0 h6).1, gI_s]
/-- what a new pair leaves: the way by which it was met -/
def Kept (h h' : AH) (x n : Nat) (before act : Int32) : Prop := (∀ i, i ≠ n → h'.1 (x + 3) i = h.1 (x + 3) i ∧ h'.1 (x + 4) i = h.1 (x + 4) i ∧ h'.1 (x + 5) i = h.1 (x + 5) i) ∧ h'.1 (x + 3) n = before ∧ h'.1 (x + 4) n = act ∧ h'.1 (x + 5) n = if 0 ≤ before then h.1 (x + 5) before.toNatClampNeg + 1 else 0
theorem k_X6_keep {l : Launch} {g : AG} {h : AH} {x n k : Nat} {L R : Nat → Int64} {a b : Int64} {before act : Int32} {sl : Nat → Nat} {Q : Int32 → AH → Prop} (hr : Refs h) (hx : isM x) (hn : n < 400) (hk : k < 1024) (h1 : h.1 x 0 = Int32.ofNat n) (h2 : ∀ i, i < n → h.2.1 (x + 1) i = L i ∧ h.2.1 (x + 2) i = R i) (h3 : ∀ i j, i < n → j < n → L i = L j → R i = R j → i = j) (h4 : ∀ q, q < 1024 → h.1 (x + 6) q = Int32.ofNat (sl q)) (h5 : HT (n + 1) (nupL L n a) (nupL R n b) (nup sl k (n + 1))) (h6 : ∀ i, i < n → ¬ (L i = a ∧ R i = b)) (hbf : 0 ≤ before → vp_in before 400) (hq : ∀ h', Fr (PM x) h h' → Refs h' → MT h' x (n + 1) (nupL L n a) (nupL R n b) → Kept h h' x n before act → Q (Int32.ofNat n) h') : C_X6_keep l g h x (Int32.ofNat k) a b before act Q := by
  have hlast : ∀ s0 : Int32, s0 = (if 0 ≤ before then h.1 (x + 5) before.toNatClampNeg + 1 else 0) → L_X6_keep_65 l g (ax_setI (ax_setI (ax_setL (ax_setL h (x + 1) n a) (x + 2) n b) (x + 3) n before) (x + 4) n act) x (Int32.ofNat k) (Int32.ofNat n) s0 (Int32.ofNat n) (x + 5) Q := by
    intro s0 e0
    refine s_X6_keep_65 ?_
    (try simp (disch := first | assumption | omega) only [true_and, and_true, forall_eq, true_implies, false_implies, implies_true, not_true_eq_false, not_false_eq_true, false_and, and_false, ne_eq, ite_true, ite_false, Nat.reduceLeDiff, Nat.reduceEqDiff, Nat.reduceLT, Nat.reduceAdd, Nat.reduceMul, Nat.reduceSub, Nat.le_refl, eq_self, li_0, li_1, li_2, li_3, li_4, li_5, li_6, li_7, li_8, li_9, li_10, li_11, li_12, li_13, li_14, li_15, li_16, li_17, li_18, li_19, li_20, li_21, li_22, li_23, li_24, li_25, li_26, li_27, li_28, li_29, li_30, li_31, li_32, li_44, li_48, li_57, li_59, li_60, li_61, li_62, li_63, li_97, li_100, li_122, li_123, li_125, li_127, li_255, li_400, li_401, li_800, li_1023, li_1024, li_10827, i_add, i_mul, i_sub, i_p1, i_m1, i_nm, i_nm2, i_cl, i_cl0, vi_ok, i_lt, i_le, i_eq, lg_e, isM_x, rfM_1, isM_1, szM_1, rfM_2, isM_2, szM_2, rfM_3, isM_3, szM_3, rfM_4, isM_4, szM_4, rfM_5, isM_5, szM_5, rfM_6, isM_6, szM_6, gI_s, gI_c, gI_p, gI_L, gI_R, gL_s, gL_c, gL_p, gL_I, gL_R, gR_s, gR_c, gR_p, gR_I, gR_L, h1])
    refine hq _ ?_ hr.setL.setL.setI.setI.setI.setI.setI ?_ ?_
    · have f0 := Fr.refl (PM x) h
      exact ((((((f0.setL ⟨by omega, by omega⟩).setL ⟨by omega, by omega⟩).setI ⟨by omega, by omega⟩).setI ⟨by omega, by omega⟩).setI ⟨by omega, by omega⟩).setI ⟨by omega, by omega⟩).setI ⟨by omega, by omega⟩
    · refine ⟨?_, by omega, fun i hi => ?_, fun i j hi hj e1 e2 => ?_, nup sl k (n + 1), fun q hq => ?_, h5⟩
      · (try simp (disch := first | assumption | omega) only [true_and, and_true, forall_eq, true_implies, false_implies, implies_true, not_true_eq_false, not_false_eq_true, false_and, and_false, ne_eq, ite_true, ite_false, Nat.reduceLeDiff, Nat.reduceEqDiff, Nat.reduceLT, Nat.reduceAdd, Nat.reduceMul, Nat.reduceSub, Nat.le_refl, eq_self, li_0, li_1, li_2, li_3, li_4, li_5, li_6, li_7, li_8, li_9, li_10, li_11, li_12, li_13, li_14, li_15, li_16, li_17, li_18, li_19, li_20, li_21, li_22, li_23, li_24, li_25, li_26, li_27, li_28, li_29, li_30, li_31, li_32, li_44, li_48, li_57, li_59, li_60, li_61, li_62, li_63, li_97, li_100, li_122, li_123, li_125, li_127, li_255, li_400, li_401, li_800, li_1023, li_1024, li_10827, i_add, i_mul, i_sub, i_p1, i_m1, i_nm, i_nm2, i_cl, i_cl0, vi_ok, i_lt, i_le, i_eq, lg_e, gI_s, gI_c, gI_p, gI_L, gI_R, gL_s, gL_c, gL_p, gL_I, gL_R, gR_s, gR_c, gR_p, gR_I, gR_L])
      · (try simp (disch := first | assumption | omega) only [true_and, and_true, forall_eq, true_implies, false_implies, implies_true, not_true_eq_false, not_false_eq_true, false_and, and_false, ne_eq, ite_true, ite_false, Nat.reduceLeDiff, Nat.reduceEqDiff, Nat.reduceLT, Nat.reduceAdd, Nat.reduceMul, Nat.reduceSub, Nat.le_refl, eq_self, li_0, li_1, li_2, li_3, li_4, li_5, li_6, li_7, li_8, li_9, li_10, li_11, li_12, li_13, li_14, li_15, li_16, li_17, li_18, li_19, li_20, li_21, li_22, li_23, li_24, li_25, li_26, li_27, li_28, li_29, li_30, li_31, li_32, li_44, li_48, li_57, li_59, li_60, li_61, li_62, li_63, li_97, li_100, li_122, li_123, li_125, li_127, li_255, li_400, li_401, li_800, li_1023, li_1024, li_10827, i_add, i_mul, i_sub, i_p1, i_m1, i_nm, i_nm2, i_cl, i_cl0, vi_ok, i_lt, i_le, i_eq, lg_e, gI_s, gI_c, gI_p, gI_L, gI_R, gL_s, gL_c, gL_p, gL_I, gL_R, gR_s, gR_c, gR_p, gR_I, gR_L])
        by_cases c : i = n
        · subst c
          (try simp (disch := first | assumption | omega) only [true_and, and_true, forall_eq, true_implies, false_implies, implies_true, not_true_eq_false, not_false_eq_true, false_and, and_false, ne_eq, ite_true, ite_false, Nat.reduceLeDiff, Nat.reduceEqDiff, Nat.reduceLT, Nat.reduceAdd, Nat.reduceMul, Nat.reduceSub, Nat.le_refl, eq_self, li_0, li_1, li_2, li_3, li_4, li_5, li_6, li_7, li_8, li_9, li_10, li_11, li_12, li_13, li_14, li_15, li_16, li_17, li_18, li_19, li_20, li_21, li_22, li_23, li_24, li_25, li_26, li_27, li_28, li_29, li_30, li_31, li_32, li_44, li_48, li_57, li_59, li_60, li_61, li_62, li_63, li_97, li_100, li_122, li_123, li_125, li_127, li_255, li_400, li_401, li_800, li_1023, li_1024, li_10827, i_add, i_mul, i_sub, i_p1, i_m1, i_nm, i_nm2, i_cl, i_cl0, vi_ok, i_lt, i_le, i_eq, lg_e, gI_s, gI_c, gI_p, gI_L, gI_R, gL_s, gL_c, gL_p, gL_I, gL_R, gR_s, gR_c, gR_p, gR_I, gR_L])
          exact ⟨(nupL_s _ _ _).symm, (nupL_s _ _ _).symm⟩
        · (try simp (disch := first | assumption | omega) only [true_and, and_true, forall_eq, true_implies, false_implies, implies_true, not_true_eq_false, not_false_eq_true, false_and, and_false, ne_eq, ite_true, ite_false, Nat.reduceLeDiff, Nat.reduceEqDiff, Nat.reduceLT, Nat.reduceAdd, Nat.reduceMul, Nat.reduceSub, Nat.le_refl, eq_self, li_0, li_1, li_2, li_3, li_4, li_5, li_6, li_7, li_8, li_9, li_10, li_11, li_12, li_13, li_14, li_15, li_16, li_17, li_18, li_19, li_20, li_21, li_22, li_23, li_24, li_25, li_26, li_27, li_28, li_29, li_30, li_31, li_32, li_44, li_48, li_57, li_59, li_60, li_61, li_62, li_63, li_97, li_100, li_122, li_123, li_125, li_127, li_255, li_400, li_401, li_800, li_1023, li_1024, li_10827, i_add, i_mul, i_sub, i_p1, i_m1, i_nm, i_nm2, i_cl, i_cl0, vi_ok, i_lt, i_le, i_eq, lg_e, gI_s, gI_c, gI_p, gI_L, gI_R, gL_s, gL_c, gL_p, gL_I, gL_R, gR_s, gR_c, gR_p, gR_I, gR_L])
          rw [nupL_n c, nupL_n c]
          exact h2 i (by omega)
      · by_cases c : i = n
        · by_cases c2 : j = n
          · omega
          · rw [c, nupL_s, nupL_n c2] at e1 e2
            exact absurd ⟨e1.symm, e2.symm⟩ (h6 j (by omega))
        · by_cases c2 : j = n
          · rw [c2, nupL_s, nupL_n c] at e1 e2
            exact absurd ⟨e1, e2⟩ (h6 i (by omega))
          · rw [nupL_n c, nupL_n c2] at e1 e2
            exact h3 i j (by omega) (by omega) e1 e2
      · by_cases c : q = k
        · subst c
          (try simp (disch := first | assumption | omega) only [true_and, and_true, forall_eq, true_implies, false_implies, implies_true, not_true_eq_false, not_false_eq_true, false_and, and_false, ne_eq, ite_true, ite_false, Nat.reduceLeDiff, Nat.reduceEqDiff, Nat.reduceLT, Nat.reduceAdd, Nat.reduceMul, Nat.reduceSub, Nat.le_refl, eq_self, li_0, li_1, li_2, li_3, li_4, li_5, li_6, li_7, li_8, li_9, li_10, li_11, li_12, li_13, li_14, li_15, li_16, li_17, li_18, li_19, li_20, li_21, li_22, li_23, li_24, li_25, li_26, li_27, li_28, li_29, li_30, li_31, li_32, li_44, li_48, li_57, li_59, li_60, li_61, li_62, li_63, li_97, li_100, li_122, li_123, li_125, li_127, li_255, li_400, li_401, li_800, li_1023, li_1024, li_10827, i_add, i_mul, i_sub, i_p1, i_m1, i_nm, i_nm2, i_cl, i_cl0, vi_ok, i_lt, i_le, i_eq, lg_e, gI_s, gI_c, gI_p, gI_L, gI_R, gL_s, gL_c, gL_p, gL_I, gL_R, gR_s, gR_c, gR_p, gR_I, gR_L])
          rw [nup_s]
        · (try simp (disch := first | assumption | omega) only [true_and, and_true, forall_eq, true_implies, false_implies, implies_true, not_true_eq_false, not_false_eq_true, false_and, and_false, ne_eq, ite_true, ite_false, Nat.reduceLeDiff, Nat.reduceEqDiff, Nat.reduceLT, Nat.reduceAdd, Nat.reduceMul, Nat.reduceSub, Nat.le_refl, eq_self, li_0, li_1, li_2, li_3, li_4, li_5, li_6, li_7, li_8, li_9, li_10, li_11, li_12, li_13, li_14, li_15, li_16, li_17, li_18, li_19, li_20, li_21, li_22, li_23, li_24, li_25, li_26, li_27, li_28, li_29, li_30, li_31, li_32, li_44, li_48, li_57, li_59, li_60, li_61, li_62, li_63, li_97, li_100, li_122, li_123, li_125, li_127, li_255, li_400, li_401, li_800, li_1023, li_1024, li_10827, i_add, i_mul, i_sub, i_p1, i_m1, i_nm, i_nm2, i_cl, i_cl0, vi_ok, i_lt, i_le, i_eq, lg_e, gI_s, gI_c, gI_p, gI_L, gI_R, gL_s, gL_c, gL_p, gL_I, gL_R, gR_s, gR_c, gR_p, gR_I, gR_L])
          rw [nup_n c]
          exact h4 q hq
    · refine ⟨fun i hi => ?_, ?_, ?_, ?_⟩
      · (try simp (disch := first | assumption | omega) only [true_and, and_true, forall_eq, true_implies, false_implies, implies_true, not_true_eq_false, not_false_eq_true, false_and, and_false, ne_eq, ite_true, ite_false, Nat.reduceLeDiff, Nat.reduceEqDiff, Nat.reduceLT, Nat.reduceAdd, Nat.reduceMul, Nat.reduceSub, Nat.le_refl, eq_self, li_0, li_1, li_2, li_3, li_4, li_5, li_6, li_7, li_8, li_9, li_10, li_11, li_12, li_13, li_14, li_15, li_16, li_17, li_18, li_19, li_20, li_21, li_22, li_23, li_24, li_25, li_26, li_27, li_28, li_29, li_30, li_31, li_32, li_44, li_48, li_57, li_59, li_60, li_61, li_62, li_63, li_97, li_100, li_122, li_123, li_125, li_127, li_255, li_400, li_401, li_800, li_1023, li_1024, li_10827, i_add, i_mul, i_sub, i_p1, i_m1, i_nm, i_nm2, i_cl, i_cl0, vi_ok, i_lt, i_le, i_eq, lg_e, gI_s, gI_c, gI_p, gI_L, gI_R, gL_s, gL_c, gL_p, gL_I, gL_R, gR_s, gR_c, gR_p, gR_I, gR_L])
      · (try simp (disch := first | assumption | omega) only [true_and, and_true, forall_eq, true_implies, false_implies, implies_true, not_true_eq_false, not_false_eq_true, false_and, and_false, ne_eq, ite_true, ite_false, Nat.reduceLeDiff, Nat.reduceEqDiff, Nat.reduceLT, Nat.reduceAdd, Nat.reduceMul, Nat.reduceSub, Nat.le_refl, eq_self, li_0, li_1, li_2, li_3, li_4, li_5, li_6, li_7, li_8, li_9, li_10, li_11, li_12, li_13, li_14, li_15, li_16, li_17, li_18, li_19, li_20, li_21, li_22, li_23, li_24, li_25, li_26, li_27, li_28, li_29, li_30, li_31, li_32, li_44, li_48, li_57, li_59, li_60, li_61, li_62, li_63, li_97, li_100, li_122, li_123, li_125, li_127, li_255, li_400, li_401, li_800, li_1023, li_1024, li_10827, i_add, i_mul, i_sub, i_p1, i_m1, i_nm, i_nm2, i_cl, i_cl0, vi_ok, i_lt, i_le, i_eq, lg_e, gI_s, gI_c, gI_p, gI_L, gI_R, gL_s, gL_c, gL_p, gL_I, gL_R, gR_s, gR_c, gR_p, gR_I, gR_L])
      · (try simp (disch := first | assumption | omega) only [true_and, and_true, forall_eq, true_implies, false_implies, implies_true, not_true_eq_false, not_false_eq_true, false_and, and_false, ne_eq, ite_true, ite_false, Nat.reduceLeDiff, Nat.reduceEqDiff, Nat.reduceLT, Nat.reduceAdd, Nat.reduceMul, Nat.reduceSub, Nat.le_refl, eq_self, li_0, li_1, li_2, li_3, li_4, li_5, li_6, li_7, li_8, li_9, li_10, li_11, li_12, li_13, li_14, li_15, li_16, li_17, li_18, li_19, li_20, li_21, li_22, li_23, li_24, li_25, li_26, li_27, li_28, li_29, li_30, li_31, li_32, li_44, li_48, li_57, li_59, li_60, li_61, li_62, li_63, li_97, li_100, li_122, li_123, li_125, li_127, li_255, li_400, li_401, li_800, li_1023, li_1024, li_10827, i_add, i_mul, i_sub, i_p1, i_m1, i_nm, i_nm2, i_cl, i_cl0, vi_ok, i_lt, i_le, i_eq, lg_e, gI_s, gI_c, gI_p, gI_L, gI_R, gL_s, gL_c, gL_p, gL_I, gL_R, gR_s, gR_c, gR_p, gR_I, gR_L])
      · (try simp (disch := first | assumption | omega) only [true_and, and_true, forall_eq, true_implies, false_implies, implies_true, not_true_eq_false, not_false_eq_true, false_and, and_false, ne_eq, ite_true, ite_false, Nat.reduceLeDiff, Nat.reduceEqDiff, Nat.reduceLT, Nat.reduceAdd, Nat.reduceMul, Nat.reduceSub, Nat.le_refl, eq_self, li_0, li_1, li_2, li_3, li_4, li_5, li_6, li_7, li_8, li_9, li_10, li_11, li_12, li_13, li_14, li_15, li_16, li_17, li_18, li_19, li_20, li_21, li_22, li_23, li_24, li_25, li_26, li_27, li_28, li_29, li_30, li_31, li_32, li_44, li_48, li_57, li_59, li_60, li_61, li_62, li_63, li_97, li_100, li_122, li_123, li_125, li_127, li_255, li_400, li_401, li_800, li_1023, li_1024, li_10827, i_add, i_mul, i_sub, i_p1, i_m1, i_nm, i_nm2, i_cl, i_cl0, vi_ok, i_lt, i_le, i_eq, lg_e, gI_s, gI_c, gI_p, gI_L, gI_R, gL_s, gL_c, gL_p, gL_I, gL_R, gR_s, gR_c, gR_p, gR_I, gR_L])
        exact e0
  refine c_X6_keep (s_X6_keep_0 ?_)
  (try simp (disch := first | assumption | omega) only [true_and, and_true, forall_eq, true_implies, false_implies, implies_true, not_true_eq_false, not_false_eq_true, false_and, and_false, ne_eq, ite_true, ite_false, Nat.reduceLeDiff, Nat.reduceEqDiff, Nat.reduceLT, Nat.reduceAdd, Nat.reduceMul, Nat.reduceSub, Nat.le_refl, eq_self, li_0, li_1, li_2, li_3, li_4, li_5, li_6, li_7, li_8, li_9, li_10, li_11, li_12, li_13, li_14, li_15, li_16, li_17, li_18, li_19, li_20, li_21, li_22, li_23, li_24, li_25, li_26, li_27, li_28, li_29, li_30, li_31, li_32, li_44, li_48, li_57, li_59, li_60, li_61, li_62, li_63, li_97, li_100, li_122, li_123, li_125, li_127, li_255, li_400, li_401, li_800, li_1023, li_1024, li_10827, i_add, i_mul, i_sub, i_p1, i_m1, i_nm, i_nm2, i_cl, i_cl0, vi_ok, i_lt, i_le, i_eq, lg_e, isM_x, rfM_1, isM_1, szM_1, rfM_2, isM_2, szM_2, rfM_3, isM_3, szM_3, rfM_4, isM_4, szM_4, rfM_5, isM_5, szM_5, rfM_6, isM_6, szM_6, gI_s, gI_c, gI_p, gI_L, gI_R, gL_s, gL_c, gL_p, gL_I, gL_R, gR_s, gR_c, gR_p, gR_I, gR_L, h1])
  refine ⟨fun c => ⟨hbf c, hlast _ (if_pos c).symm⟩, fun c => hlast _ (if_neg c).symm⟩
theorem k_X6_meet_loop {l : Launch} {g : AG} {h : AH} {x n : Nat} {L R : Nat → Int64} {a b : Int64} {before act : Int32} {Q : Int32 → AH → Prop} {sl : Nat → Nat} (hr : Refs h) (hx : isM x) (h1 : h.1 x 0 = Int32.ofNat n) (hn : n ≤ 400) (h2 : ∀ i, i < n → h.2.1 (x + 1) i = L i ∧ h.2.1 (x + 2) i = R i) (h3 : ∀ i j, i < n → j < n → L i = L j → R i = R j → i = j) (h4 : ∀ q, q < 1024 → h.1 (x + 6) q = Int32.ofNat (sl q)) (hH : HT n L R sl) (hbf : 0 ≤ before → vp_in before 400)
    (q1 : ∀ i, i < n → L i = a → R i = b → Q (Int32.ofNat i) h)
    (q2 : (∀ i, i < n → ¬ (L i = a ∧ R i = b)) → n < 400 → ∀ h', Fr (PM x) h h' → Refs h' → MT h' x (n + 1) (nupL L n a) (nupL R n b) → Kept h h' x n before act → Q (Int32.ofNat n) h')
    (q3 : (∀ i, i < n → ¬ (L i = a ∧ R i = b)) → n = 400 → Q (-1) h) : ∀ d k : Nat, k + d = 1024 → (∀ j, j < k → sl ((hsN a b + j) % 1024) ≠ 0 ∧ ¬ (L (sl ((hsN a b + j) % 1024) - 1) = a ∧ R (sl ((hsN a b + j) % 1024) - 1) = b)) → L_X6_meet_20 l g h x a b before act (Int32.ofNat (hsN a b)) (Int32.ofNat k) Q := by
  have hst := (hsN_ok a b).1
  intro d
  induction d with
  | zero =>
    intro k hk hj
    exact absurd (ht_room hH hn (fun j hj2 => (hj j (by omega)).1)) id
  | succ d ih =>
    intro k hk hj
    have hq := Nat.mod_lt (hsN a b + k) (show 1024 > 0 by omega)
    have hle := hH.1 ((hsN a b + k) % 1024) hq
    refine s_X6_meet_20 ?_
    have e1023 : Int32.ofNat (hsN a b + k) &&& Int32.ofNat 1023 = Int32.ofNat ((hsN a b + k) % 1024) := by
      rw [i_and, show (1023 : Nat) = 2 ^ 10 - 1 from rfl, n_and]
    (try simp (disch := first | assumption | omega) only [true_and, and_true, forall_eq, true_implies, false_implies, implies_true, not_true_eq_false, not_false_eq_true, false_and, and_false, ne_eq, ite_true, ite_false, Nat.reduceLeDiff, Nat.reduceEqDiff, Nat.reduceLT, Nat.reduceAdd, Nat.reduceMul, Nat.reduceSub, Nat.le_refl, eq_self, li_0, li_1, li_2, li_3, li_4, li_5, li_6, li_7, li_8, li_9, li_10, li_11, li_12, li_13, li_14, li_15, li_16, li_17, li_18, li_19, li_20, li_21, li_22, li_23, li_24, li_25, li_26, li_27, li_28, li_29, li_30, li_31, li_32, li_44, li_48, li_57, li_59, li_60, li_61, li_62, li_63, li_97, li_100, li_122, li_123, li_125, li_127, li_255, li_400, li_401, li_800, li_1023, li_1024, li_10827, i_add, i_mul, i_sub, i_p1, i_m1, i_nm, i_nm2, i_cl, i_cl0, vi_ok, i_lt, i_le, i_eq, lg_e, show ¬ 1024 ≤ k by omega, e1023, isM_x, rfM_1, isM_1, szM_1, rfM_2, isM_2, szM_2, rfM_3, isM_3, szM_3, rfM_4, isM_4, szM_4, rfM_5, isM_5, szM_5, rfM_6, isM_6, szM_6, h4 _ hq, lg_cmp_eq])
    by_cases c0 : sl ((hsN a b + k) % 1024) = 0
    · rw [c0]
      refine ⟨fun z => absurd z (by decide), fun _ => ?_⟩
      have hnew := ht_new hH c0 (fun j hj2 => (hj j hj2).2)
      rw [h1]
      (try simp (disch := first | assumption | omega) only [true_and, and_true, forall_eq, true_implies, false_implies, implies_true, not_true_eq_false, not_false_eq_true, false_and, and_false, ne_eq, ite_true, ite_false, Nat.reduceLeDiff, Nat.reduceEqDiff, Nat.reduceLT, Nat.reduceAdd, Nat.reduceMul, Nat.reduceSub, Nat.le_refl, eq_self, li_0, li_1, li_2, li_3, li_4, li_5, li_6, li_7, li_8, li_9, li_10, li_11, li_12, li_13, li_14, li_15, li_16, li_17, li_18, li_19, li_20, li_21, li_22, li_23, li_24, li_25, li_26, li_27, li_28, li_29, li_30, li_31, li_32, li_44, li_48, li_57, li_59, li_60, li_61, li_62, li_63, li_97, li_100, li_122, li_123, li_125, li_127, li_255, li_400, li_401, li_800, li_1023, li_1024, li_10827, i_add, i_mul, i_sub, i_p1, i_m1, i_nm, i_nm2, i_cl, i_cl0, vi_ok, i_lt, i_le, i_eq, lg_e])
      refine ⟨fun z => q3 hnew (by omega), fun z => ?_⟩
      exact k_X6_keep hr hx (by omega) hq h1 h2 h3 h4 (ht_add hH (by omega) c0 (fun j hj2 => (hj j hj2).1)) hnew hbf (q2 hnew (by omega))
    · obtain ⟨i, hi⟩ : ∃ i, sl ((hsN a b + k) % 1024) = i + 1 := ⟨sl ((hsN a b + k) % 1024) - 1, by omega⟩
      have hin : i < n := by omega
      have hgo : ¬ (L i = a ∧ R i = b) → L_X6_meet_20 l g h x a b before act (Int32.ofNat (hsN a b)) (Int32.ofNat (k + 1)) Q := by
        intro z
        refine ih (k + 1) (by omega) (fun j hj2 => ?_)
        by_cases e : j = k
        · rw [e, hi, Nat.add_sub_cancel]
          exact ⟨by omega, z⟩
        · exact hj j (by omega)
      rw [hi]
      (try simp (disch := first | assumption | omega) only [true_and, and_true, forall_eq, true_implies, false_implies, implies_true, not_true_eq_false, not_false_eq_true, false_and, and_false, ne_eq, ite_true, ite_false, Nat.reduceLeDiff, Nat.reduceEqDiff, Nat.reduceLT, Nat.reduceAdd, Nat.reduceMul, Nat.reduceSub, Nat.le_refl, eq_self, li_0, li_1, li_2, li_3, li_4, li_5, li_6, li_7, li_8, li_9, li_10, li_11, li_12, li_13, li_14, li_15, li_16, li_17, li_18, li_19, li_20, li_21, li_22, li_23, li_24, li_25, li_26, li_27, li_28, li_29, li_30, li_31, li_32, li_44, li_48, li_57, li_59, li_60, li_61, li_62, li_63, li_97, li_100, li_122, li_123, li_125, li_127, li_255, li_400, li_401, li_800, li_1023, li_1024, li_10827, i_add, i_mul, i_sub, i_p1, i_m1, i_nm, i_nm2, i_cl, i_cl0, vi_ok, i_lt, i_le, i_eq, lg_e, isM_x, rfM_1, isM_1, szM_1, rfM_2, isM_2, szM_2, rfM_3, isM_3, szM_3, rfM_4, isM_4, szM_4, rfM_5, isM_5, szM_5, rfM_6, isM_6, szM_6, Nat.add_sub_cancel, (h2 i hin).1, (h2 i hin).2, show (0 ≤ i) by omega])
      refine ⟨fun z => hgo (fun q => z q.1), fun z => ⟨fun z2 => hgo (fun q => z2 q.2), fun z2 => q1 i hin z z2⟩⟩
theorem k_X6_meet {l : Launch} {g : AG} {h : AH} {x n : Nat} {L R : Nat → Int64} {a b : Int64} {before act : Int32} {Q : Int32 → AH → Prop} (hr : Refs h) (hx : isM x) (hM : MT h x n L R) (hbf : 0 ≤ before → vp_in before 400)
    (q1 : ∀ i, i < n → L i = a → R i = b → Q (Int32.ofNat i) h)
    (q2 : (∀ i, i < n → ¬ (L i = a ∧ R i = b)) → n < 400 → ∀ h', Fr (PM x) h h' → Refs h' → MT h' x (n + 1) (nupL L n a) (nupL R n b) → Kept h h' x n before act → Q (Int32.ofNat n) h')
    (q3 : (∀ i, i < n → ¬ (L i = a ∧ R i = b)) → n = 400 → Q (-1) h) : C_X6_meet l g h x a b before act Q := by
  obtain ⟨h1, hn, h2, h3, sl, h4, hH⟩ := hM
  refine c_X6_meet (s_X6_meet_0 ?_)
  intro v1 e1 v3 e3
  have e : v3 = Int32.ofNat (hsN a b) := by
    rw [e3, e1]
    exact (hsN_ok a b).2
  rw [e]
  exact k_X6_meet_loop hr hx h1 hn h2 h3 h4 hH hbf q1 q2 q3 1024 0 rfl (fun j hj => absurd hj (Nat.not_lt_zero j))
