theorem copy_I (h : AH) (src dst n : Nat) (hn : n < 2147483648) (c p : Nat) : (ax_copy h src dst (Int32.ofNat n)).1 c p = if c = dst ∧ p < n then h.1 src p else h.1 c p := by
  unfold ax_copy
  rw [i_cl hn]
  show (if c = dst then va_cpy (h.1 src) (h.1 dst) 0 0 n else h.1 c) p = _
  by_cases e : c = dst
  · subst e
    rw [if_pos rfl]
    unfold va_cpy
    by_cases q : p < n
    · show (if 0 ≤ p ∧ p < 0 + n then h.1 src (0 + (p - 0)) else h.1 c p) = _
      rw [if_pos ⟨Nat.zero_le p, by omega⟩, if_pos ⟨rfl, q⟩, Nat.zero_add, Nat.sub_zero]
    · show (if 0 ≤ p ∧ p < 0 + n then h.1 src (0 + (p - 0)) else h.1 c p) = _
      rw [if_neg (fun z => q (by omega)), if_neg (fun z => q z.2)]
  · rw [if_neg e, if_neg (fun z => e z.1)]
theorem k_partedBy {l : Launch} {g : AG} {h0 : AH} {x : Nat} {D : AD} {n a : Nat} {ST : Nat → AS} {FR BY DP LD : Nat → Nat} {K : Nat} {KD : Nat → Nat} {mm : Nat} {f : Nat → Nat} {Q : Int32 → AH → Prop} {hB : AH} (ha : a < 27) (hr0 : Refs h0) (hx : isA x) (hD : WfD D) (hA : RepA h0 x D) (e741 : h0.2.2 74 1 = x) (m : MapI hB D n ST FR BY DP LD K KD) (hfB : Fr PK hB h0) (e745 : h0.1 74 5 = Int32.ofNat mm) (hv : ∀ i, i < n → h0.1 90 i = Int32.ofNat (f i)) (hk : KindI D n ST LD mm f)
    (q0 : ∀ h', Refs h' → Fr PK h0 h' → h'.1 74 5 = Int32.ofNat mm → (∀ i, i < n → h'.1 90 i = Int32.ofNat (f i)) → stab D n ST LD f a → Q 0 h')
    (q1 : ∀ h' m2 f2, Refs h' → Fr PK h0 h' → h'.1 74 5 = Int32.ofNat m2 → (∀ i, i < n → h'.1 90 i = Int32.ofNat (f2 i)) → KindI D n ST LD m2 f2 → mm < m2 → Q 1 h') : C_X1_partedBy l g h0 74 (Int32.ofNat a) Q := by
  have hn := m.1.2.1
  have hxu : x = 4 ∨ x = 25 ∨ x = 46 := hx
  have hL : ∀ s a, s < n → a < 27 → possD D (ST s) a → LD (27 * s + a) < n := fun s a hs ha p => ((mapC_lead m hs ha).1 p).1
  have h24 := hD.1.2.2.1
  have hle := canon_le hk.1
  have hb : ∀ s, s < n → f s < 400 := fun s hs => by have := hk.1.2.1 s hs; omega
  have loop : ∀ d k, k + d = n → ∀ h' m2 f2, Refs h' → Fr PK h0 h' → SortI h' (fun s => Int64.ofNat (f s)) (nextK D ST LD f a) k m2 f2 → h'.1 74 5 = Int32.ofNat mm → (∀ i, i < n → h'.1 90 i = Int32.ofNat (f i)) → (∀ i, i < k → h'.1 91 i = Int32.ofNat (f2 i)) → L_X1_partedBy_28 l g h' 74 (Int32.ofNat a) (Int32.ofNat k) Q := by
    intro d
    induction d with
    | zero =>
      intro k hk2 h' m2 f2 r' f' sI v5 v90 v91
      have rd := pk_read m (hfB.trans f')
      obtain ⟨L, R, s1, s2, s3⟩ := sI
      rw [show k = n by omega] at s2 v91
      obtain ⟨kn1, kn2, kn3⟩ := kind_next ha hL hn hk s2
      have hle2 := canon_le s2
      refine s_X1_partedBy_28 ?_
      rw [rf_74_2 r', rf_74_7 r', rf_74_6 r', rd.1]
      refine ⟨is_74, is_75, fun _ => ⟨is_91, is_90, is_75, ⟨i_nn (by omega), by rw [i_cl (by omega), sz_91]; omega, by rw [i_cl (by omega), sz_90]; omega⟩, ?_⟩, fun c => absurd ((i_le (by omega) (by omega)).2 (show n ≤ k by omega)) c⟩
      intro h18 e18
      have r18 : Refs h18 := by rw [e18]; exact r'
      have g18 : ∀ c p, c ≠ 90 → h18.1 c p = h'.1 c p := fun c p hc => by rw [e18, copy_I _ _ _ _ (by omega), if_neg (fun z => hc z.1)]
      have v90' : ∀ i, i < n → h18.1 90 i = Int32.ofNat (f2 i) := fun i hi => by rw [e18, copy_I _ _ _ _ (by omega), if_pos ⟨rfl, hi⟩]; exact v91 i hi
      have f18 : Fr PK h0 h18 := by
        refine f'.trans (fun c p z => ⟨g18 c p (fun e => z (Or.inr (Or.inl e))), ?_, ?_⟩)
        · rw [e18]; rfl
        · rw [e18]; rfl
      rw [rf_74_4 r18, g18 83 0 (by decide), g18 74 5 (by decide), s1.1, v5]
      refine ⟨is_83, fun c => ⟨is_83, ?_⟩, fun c => ⟨is_83, ?_⟩⟩
      · have c := (i_le (by omega) (by omega)).1 c
        have kk := kn3 c
        intro h23 e23
        have em : m2 = mm := by omega
        refine q0 h23 (by rw [e23]; exact r18.setI) (by rw [e23]; exact f18.setI (Or.inr (Or.inr (Or.inr ⟨rfl, rfl⟩)))) (by rw [e23, gI_s, em]) (fun i hi => ?_) kk.2
        rw [e23, gI_c (by omega), v90' i hi, kk.1 i hi]
      · have c : ¬ m2 ≤ mm := fun z => c ((i_le (by omega) (by omega)).2 z)
        intro h23 e23
        refine q1 h23 m2 f2 (by rw [e23]; exact r18.setI) (by rw [e23]; exact f18.setI (Or.inr (Or.inr (Or.inr ⟨rfl, rfl⟩)))) (by rw [e23, gI_s]) (fun i hi => ?_) kn1 (by omega)
        rw [e23, gI_c (by omega)]
        exact v90' i hi
    | succ d ih =>
      intro k hk2 h' m2 f2 r' f' sI v5 v90 v91
      have rd := pk_read m (hfB.trans f')
      have step : ∀ b : Int64, b = nextK D ST LD f a k → ∀ R : Int32 → AH → Prop, (∀ h2 r m3, r < 400 → Refs h2 → Fr (PM 83) h' h2 → SortI h2 (fun s => Int64.ofNat (f s)) (nextK D ST LD f a) (k + 1) m3 (nup f2 k r) → R (Int32.ofNat r) h2) → C_X6_meet l g h' 83 (Int64.ofNat (f k)) b (-1) (-1) R := fun b eb R hR => q_meet_sort (p := fun s => Int64.ofNat (f s)) (q := nextK D ST LD f a) r' sI (by omega) rfl eb hR
      have nx : ∀ h2 r m3, r < 400 → Refs h2 → Fr (PM 83) h' h2 → SortI h2 (fun s => Int64.ofNat (f s)) (nextK D ST LD f a) (k + 1) m3 (nup f2 k r) → L_X1_partedBy_28 l g (ax_setI h2 91 k (Int32.ofNat r)) 74 (Int32.ofNat a) (Int32.ofNat (k + 1)) Q := by
        intro h2 r m3 hr2 r2 f2' s2
        refine ih (k + 1) (by omega) _ m3 (nup f2 k r) r2.setI ((f'.trans (f2'.mono (fun _ _ => Or.inl))).setI (Or.inr (Or.inr (Or.inl rfl)))) (s2.fr ((Fr.refl (fun c _ => c = 91) h2).setI rfl) (fun c z q => by omega)) ?_ (fun i hi => ?_) (fun i hi => ?_)
        · rw [gI_c (by omega), (f2' 74 5 (fun q => by unfold PM at q; omega)).1]; exact v5
        · rw [gI_c (by omega), (f2' 90 i (fun q => by unfold PM at q; omega)).1]; exact v90 i hi
        · by_cases c : i = k
          · rw [gI_t rfl c, c, nup_s]
          · rw [gI_p c, nup_n c, (f2' 91 i (fun q => by unfold PM at q; omega)).1]
            exact v91 i (by omega)
      have bk := hb k (by omega)
      refine s_X1_partedBy_28 ?_
      by_cases p : possD D (ST k) a
      · have q := (rd.2.2 k a (by omega) ha).1 p
        have bl := hb _ q.1
        simp (disch := first | assumption | omega) only [true_and, and_true, forall_eq, true_implies, false_implies, implies_true, not_true_eq_false, not_false_eq_true, false_and, and_false, ne_eq, ite_true, ite_false, Nat.reduceLeDiff, Nat.reduceEqDiff, Nat.reduceLT, Nat.reduceAdd, Nat.reduceMul, Nat.reduceSub, Nat.le_refl, eq_self, li_0, li_1, li_2, li_3, li_4, li_5, li_6, li_7, li_8, li_9, li_10, li_11, li_12, li_13, li_14, li_15, li_16, li_17, li_18, li_19, li_20, li_21, li_22, li_23, li_24, li_25, li_26, li_27, li_28, li_29, li_30, li_31, li_32, li_44, li_48, li_57, li_59, li_60, li_61, li_62, li_63, li_97, li_100, li_122, li_123, li_125, li_127, li_255, li_400, li_401, li_800, li_1023, li_1024, li_10827, i_add, i_mul, i_sub, i_p1, i_m1, i_nm, i_nm2, i_cl, i_cl0, vi_ok, i_lt, i_le, i_eq, lg_e, rf_74_2, rf_74_3, rf_74_4, rf_74_6, rf_74_7, rf_74_8, is_74, is_75, sz_75, is_82, sz_82, is_83, sz_83, is_90, sz_90, is_91, sz_91, is_92, sz_92, rd.1, show ¬ n ≤ k by omega, Nat.mul_comm k 27, q.2, show ¬ LD (27 * k + a) < 0 by omega, v90 k (by omega), v90 _ q.1, l_of]
        refine step _ (nextK_t p).symm _ (fun h2 r m3 hr2 r2 f2' s2 => ?_)
        (try simp (disch := first | assumption | omega) only [true_and, and_true, forall_eq, true_implies, false_implies, implies_true, not_true_eq_false, not_false_eq_true, false_and, and_false, ne_eq, ite_true, ite_false, Nat.reduceLeDiff, Nat.reduceEqDiff, Nat.reduceLT, Nat.reduceAdd, Nat.reduceMul, Nat.reduceSub, Nat.le_refl, eq_self, li_0, li_1, li_2, li_3, li_4, li_5, li_6, li_7, li_8, li_9, li_10, li_11, li_12, li_13, li_14, li_15, li_16, li_17, li_18, li_19, li_20, li_21, li_22, li_23, li_24, li_25, li_26, li_27, li_28, li_29, li_30, li_31, li_32, li_44, li_48, li_57, li_59, li_60, li_61, li_62, li_63, li_97, li_100, li_122, li_123, li_125, li_127, li_255, li_400, li_401, li_800, li_1023, li_1024, li_10827, i_add, i_mul, i_sub, i_p1, i_m1, i_nm, i_nm2, i_cl, i_cl0, vi_ok, i_lt, i_le, i_eq, lg_e])
        exact nx h2 r m3 hr2 r2 f2' s2
      · have q := (rd.2.2 k a (by omega) ha).2 p
        have e : (h'.1 82 (27 * k + a) < Int32.ofNat 0) = True := eq_true (by rw [q]; exact i_negm2)
        simp (disch := first | assumption | omega) only [true_and, and_true, forall_eq, true_implies, false_implies, implies_true, not_true_eq_false, not_false_eq_true, false_and, and_false, ne_eq, ite_true, ite_false, Nat.reduceLeDiff, Nat.reduceEqDiff, Nat.reduceLT, Nat.reduceAdd, Nat.reduceMul, Nat.reduceSub, Nat.le_refl, eq_self, li_0, li_1, li_2, li_3, li_4, li_5, li_6, li_7, li_8, li_9, li_10, li_11, li_12, li_13, li_14, li_15, li_16, li_17, li_18, li_19, li_20, li_21, li_22, li_23, li_24, li_25, li_26, li_27, li_28, li_29, li_30, li_31, li_32, li_44, li_48, li_57, li_59, li_60, li_61, li_62, li_63, li_97, li_100, li_122, li_123, li_125, li_127, li_255, li_400, li_401, li_800, li_1023, li_1024, li_10827, i_add, i_mul, i_sub, i_p1, i_m1, i_nm, i_nm2, i_cl, i_cl0, vi_ok, i_lt, i_le, i_eq, lg_e, rf_74_2, rf_74_3, rf_74_4, rf_74_6, rf_74_7, rf_74_8, is_74, is_75, sz_75, is_82, sz_82, is_83, sz_83, is_90, sz_90, is_91, sz_91, is_92, sz_92, rd.1, show ¬ n ≤ k by omega, Nat.mul_comm k 27, e, v90 k (by omega), l_of]
        refine step _ (nextK_f p).symm _ (fun h2 r m3 hr2 r2 f2' s2 => ?_)
        (try simp (disch := first | assumption | omega) only [true_and, and_true, forall_eq, true_implies, false_implies, implies_true, not_true_eq_false, not_false_eq_true, false_and, and_false, ne_eq, ite_true, ite_false, Nat.reduceLeDiff, Nat.reduceEqDiff, Nat.reduceLT, Nat.reduceAdd, Nat.reduceMul, Nat.reduceSub, Nat.le_refl, eq_self, li_0, li_1, li_2, li_3, li_4, li_5, li_6, li_7, li_8, li_9, li_10, li_11, li_12, li_13, li_14, li_15, li_16, li_17, li_18, li_19, li_20, li_21, li_22, li_23, li_24, li_25, li_26, li_27, li_28, li_29, li_30, li_31, li_32, li_44, li_48, li_57, li_59, li_60, li_61, li_62, li_63, li_97, li_100, li_122, li_123, li_125, li_127, li_255, li_400, li_401, li_800, li_1023, li_1024, li_10827, i_add, i_mul, i_sub, i_p1, i_m1, i_nm, i_nm2, i_cl, i_cl0, vi_ok, i_lt, i_le, i_eq, lg_e])
        exact nx h2 r m3 hr2 r2 f2' s2
  have begin_ : C_X6_clear l g h0 83 (fun h6 => L_X1_partedBy_28 l g h6 74 (Int32.ofNat a) (Int32.ofNat 0) Q) := by
    refine k_X6_clear hr0 (Or.inr (Or.inl rfl)) (fun _ => 0) (fun _ => 0) (fun h1 f1 r1 m1 => ?_)
    refine loop n 0 (Nat.zero_add _) h1 0 (fun _ => 0) r1 (f1.mono (fun _ _ => Or.inl)) ⟨_, _, m1, canon_zero _ _, fun i hi => absurd hi (Nat.not_lt_zero i)⟩ ?_ (fun i hi => ?_) (fun i hi => absurd hi (Nat.not_lt_zero i))
    · rw [(f1 74 5 (fun q => by unfold PM at q; omega)).1]; exact e745
    · rw [(f1 90 i (fun q => by unfold PM at q; omega)).1]; exact hv i hi
  refine c_X1_partedBy (s_X1_partedBy_0 ?_)
  rw [e741, rf_74_4 hr0, hA.1.2.1]
  simp (disch := first | assumption | omega) only [true_and, and_true, forall_eq, true_implies, false_implies, implies_true, not_true_eq_false, not_false_eq_true, false_and, and_false, ne_eq, ite_true, ite_false, Nat.reduceLeDiff, Nat.reduceEqDiff, Nat.reduceLT, Nat.reduceAdd, Nat.reduceMul, Nat.reduceSub, Nat.le_refl, eq_self, li_0, li_1, li_2, li_3, li_4, li_5, li_6, li_7, li_8, li_9, li_10, li_11, li_12, li_13, li_14, li_15, li_16, li_17, li_18, li_19, li_20, li_21, li_22, li_23, li_24, li_25, li_26, li_27, li_28, li_29, li_30, li_31, li_32, li_44, li_48, li_57, li_59, li_60, li_61, li_62, li_63, li_97, li_100, li_122, li_123, li_125, li_127, li_255, li_400, li_401, li_800, li_1023, li_1024, li_10827, i_add, i_mul, i_sub, i_p1, i_m1, i_nm, i_nm2, i_cl, i_cl0, vi_ok, i_lt, i_le, i_eq, lg_e, is_74, isA_x hx, is_83]
  refine ⟨fun _ => begin_, fun c => ⟨fun _ => begin_, fun c2 => ?_⟩⟩
  refine q0 h0 hr0 (Fr.refl _ _) e745 hv (fun s t h1 h2 e => ?_)
  have no : ∀ s, ¬ possD D (ST s) a := by
    intro s z
    rcases z with z | ⟨z0, z | z | z⟩
    · omega
    · omega
    · omega
    · have := z.1; omega
  rw [nextK_f (no s), nextK_f (no t)]
theorem k_partByWays {l : Launch} {g : AG} {x : Nat} {D : AD} {n : Nat} {ST : Nat → AS} {FR BY DP LD : Nat → Nat} {K : Nat} {KD : Nat → Nat} {Q : AH → Prop} {hB : AH} (hx : isA x) (hD : WfD D) (hAB : RepA hB x D) (e741B : hB.2.2 74 1 = x) (m : MapI hB D n ST FR BY DP LD K KD) (hq : ∀ h' mm f, Refs h' → Fr PK hB h' → h'.1 74 5 = Int32.ofNat mm → (∀ i, i < n → h'.1 90 i = Int32.ofNat (f i)) → KindI D n ST LD mm f → (∀ a, a < 27 → stab D n ST LD f a) → Q h') : ∀ e idle turn mm f h, 27 * (n - mm) + (27 - idle) ≤ e → turn + 27 * (n - mm) + (27 - idle) ≤ 10827 → idle ≤ 27 → idle ≤ turn → Refs h → Fr PK hB h → h.1 74 5 = Int32.ofNat mm → (∀ i, i < n → h.1 90 i = Int32.ofNat (f i)) → KindI D n ST LD mm f → (∀ j, j < idle → stab D n ST LD f ((turn - 1 - j) % 27)) → L_X1_partByWays_4 l g h 74 (Int32.ofNat idle) (Int32.ofNat turn) Q := by
  have hn := m.1.2.1
  have hxu : x = 4 ∨ x = 25 ∨ x = 46 := hx
  intro e
  induction e with
  | zero =>
    intro idle turn mm f h he ht hi hit hr hf e5 hv hk hs
    have h27 : idle = 27 := by omega
    subst h27
    refine s_X1_partByWays_4 ?_
    simp (disch := first | assumption | omega) only [true_and, and_true, forall_eq, true_implies, false_implies, implies_true, not_true_eq_false, not_false_eq_true, false_and, and_false, ne_eq, ite_true, ite_false, Nat.reduceLeDiff, Nat.reduceEqDiff, Nat.reduceLT, Nat.reduceAdd, Nat.reduceMul, Nat.reduceSub, Nat.le_refl, eq_self, li_0, li_1, li_2, li_3, li_4, li_5, li_6, li_7, li_8, li_9, li_10, li_11, li_12, li_13, li_14, li_15, li_16, li_17, li_18, li_19, li_20, li_21, li_22, li_23, li_24, li_25, li_26, li_27, li_28, li_29, li_30, li_31, li_32, li_44, li_48, li_57, li_59, li_60, li_61, li_62, li_63, li_97, li_100, li_122, li_123, li_125, li_127, li_255, li_400, li_401, li_800, li_1023, li_1024, li_10827, i_add, i_mul, i_sub, i_p1, i_m1, i_nm, i_nm2, i_cl, i_cl0, vi_ok, i_lt, i_le, i_eq, lg_e]
    refine hq h mm f hr hf e5 hv hk (fun a ha => ?_)
    have := hs ((turn - 1 + 27 - a) % 27) (Nat.mod_lt _ (by omega))
    have ea : (turn - 1 - (turn - 1 + 27 - a) % 27) % 27 = a := by omega
    rw [ea] at this
    exact this
  | succ e ih =>
    intro idle turn mm f h he ht hi hit hr hf e5 hv hk hs
    have hle := canon_le hk.1
    by_cases c27 : idle = 27
    · subst c27
      refine s_X1_partByWays_4 ?_
      simp (disch := first | assumption | omega) only [true_and, and_true, forall_eq, true_implies, false_implies, implies_true, not_true_eq_false, not_false_eq_true, false_and, and_false, ne_eq, ite_true, ite_false, Nat.reduceLeDiff, Nat.reduceEqDiff, Nat.reduceLT, Nat.reduceAdd, Nat.reduceMul, Nat.reduceSub, Nat.le_refl, eq_self, li_0, li_1, li_2, li_3, li_4, li_5, li_6, li_7, li_8, li_9, li_10, li_11, li_12, li_13, li_14, li_15, li_16, li_17, li_18, li_19, li_20, li_21, li_22, li_23, li_24, li_25, li_26, li_27, li_28, li_29, li_30, li_31, li_32, li_44, li_48, li_57, li_59, li_60, li_61, li_62, li_63, li_97, li_100, li_122, li_123, li_125, li_127, li_255, li_400, li_401, li_800, li_1023, li_1024, li_10827, i_add, i_mul, i_sub, i_p1, i_m1, i_nm, i_nm2, i_cl, i_cl0, vi_ok, i_lt, i_le, i_eq, lg_e]
      refine hq h mm f hr hf e5 hv hk (fun a ha => ?_)
      have := hs ((turn - 1 + 27 - a) % 27) (Nat.mod_lt _ (by omega))
      have ea : (turn - 1 - (turn - 1 + 27 - a) % 27) % 27 = a := by omega
      rw [ea] at this
      exact this
    · refine s_X1_partByWays_4 ?_
      rw [show (27 : Int32) = Int32.ofNat 27 from rfl, i_rem (by omega) (by omega) (by omega)]
      simp (disch := first | assumption | omega) only [true_and, and_true, forall_eq, true_implies, false_implies, implies_true, not_true_eq_false, not_false_eq_true, false_and, and_false, ne_eq, ite_true, ite_false, Nat.reduceLeDiff, Nat.reduceEqDiff, Nat.reduceLT, Nat.reduceAdd, Nat.reduceMul, Nat.reduceSub, Nat.le_refl, eq_self, li_0, li_1, li_2, li_3, li_4, li_5, li_6, li_7, li_8, li_9, li_10, li_11, li_12, li_13, li_14, li_15, li_16, li_17, li_18, li_19, li_20, li_21, li_22, li_23, li_24, li_25, li_26, li_27, li_28, li_29, li_30, li_31, li_32, li_44, li_48, li_57, li_59, li_60, li_61, li_62, li_63, li_97, li_100, li_122, li_123, li_125, li_127, li_255, li_400, li_401, li_800, li_1023, li_1024, li_10827, i_add, i_mul, i_sub, i_p1, i_m1, i_nm, i_nm2, i_cl, i_cl0, vi_ok, i_lt, i_le, i_eq, lg_e, show ¬ 27 ≤ idle by omega, show ¬ 10827 ≤ turn by omega, is_74]
      have hA : RepA h x D := hAB.fr hf (fun c p h1 h2 q => by have := PK_no q; omega)
      have e741 : h.2.2 74 1 = x := by rw [(hf 74 1 (fun q => by have := PK_no q; omega)).2.2]; exact e741B
      refine k_partedBy (Nat.mod_lt _ (by omega)) hr hx hD hA e741 m hf e5 hv hk (fun h' r' f' v5 v90 st => ?_) (fun h' m2 f2 r' f' v5 v90 k2 lt => ?_)
      · simp (disch := first | assumption | omega) only [true_and, and_true, forall_eq, true_implies, false_implies, implies_true, not_true_eq_false, not_false_eq_true, false_and, and_false, ne_eq, ite_true, ite_false, Nat.reduceLeDiff, Nat.reduceEqDiff, Nat.reduceLT, Nat.reduceAdd, Nat.reduceMul, Nat.reduceSub, Nat.le_refl, eq_self, li_0, li_1, li_2, li_3, li_4, li_5, li_6, li_7, li_8, li_9, li_10, li_11, li_12, li_13, li_14, li_15, li_16, li_17, li_18, li_19, li_20, li_21, li_22, li_23, li_24, li_25, li_26, li_27, li_28, li_29, li_30, li_31, li_32, li_44, li_48, li_57, li_59, li_60, li_61, li_62, li_63, li_97, li_100, li_122, li_123, li_125, li_127, li_255, li_400, li_401, li_800, li_1023, li_1024, li_10827, i_add, i_mul, i_sub, i_p1, i_m1, i_nm, i_nm2, i_cl, i_cl0, vi_ok, i_lt, i_le, i_eq, lg_e]
        refine ih (idle + 1) (turn + 1) mm f h' (by omega) (by omega) (by omega) (by omega) r' (hf.trans f') v5 v90 hk (fun j hj => ?_)
        by_cases c : j = 0
        · rw [c, Nat.add_sub_cancel, Nat.sub_zero]; exact st
        · have := hs (j - 1) (by omega)
          rw [show turn - 1 - (j - 1) = turn + 1 - 1 - j by omega] at this
          exact this
      · have hle2 := canon_le k2.1
        simp (disch := first | assumption | omega) only [true_and, and_true, forall_eq, true_implies, false_implies, implies_true, not_true_eq_false, not_false_eq_true, false_and, and_false, ne_eq, ite_true, ite_false, Nat.reduceLeDiff, Nat.reduceEqDiff, Nat.reduceLT, Nat.reduceAdd, Nat.reduceMul, Nat.reduceSub, Nat.le_refl, eq_self, li_0, li_1, li_2, li_3, li_4, li_5, li_6, li_7, li_8, li_9, li_10, li_11, li_12, li_13, li_14, li_15, li_16, li_17, li_18, li_19, li_20, li_21, li_22, li_23, li_24, li_25, li_26, li_27, li_28, li_29, li_30, li_31, li_32, li_44, li_48, li_57, li_59, li_60, li_61, li_62, li_63, li_97, li_100, li_122, li_123, li_125, li_127, li_255, li_400, li_401, li_800, li_1023, li_1024, li_10827, i_add, i_mul, i_sub, i_p1, i_m1, i_nm, i_nm2, i_cl, i_cl0, vi_ok, i_lt, i_le, i_eq, lg_e]
        exact ih 0 (turn + 1) m2 f2 h' (by omega) (by omega) (by omega) (by omega) r' (hf.trans f') v5 v90 k2 (fun j hj => absurd hj (Nat.not_lt_zero j))
theorem k_kindsMany {l : Launch} {g : AG} {h : AH} {x a0 : Nat} {D : AD} {n : Nat} {ST : Nat → AS} {FR BY DP LD : Nat → Nat} {K : Nat} {KD : Nat → Nat} {Q : Int32 → AH → Prop} (hr : Refs h) (hx : isA x) (hD : WfD D) (hA : RepA h x D) (e741 : h.2.2 74 1 = x) (ha0 : a0 < 2) (e740 : h.1 74 0 = Int32.ofNat a0) (m : MapI h D n ST FR BY DP LD K KD) (hq : ∀ h', Refs h' → Fr PK h h' → h'.1 74 5 = Int32.ofNat K → (∀ i, i < n → h'.1 90 i = Int32.ofNat (KD i)) → Q (Int32.ofNat K) h') : C_X1_kindsMany l g h 74 Q := by
  have hn := m.1.2.1
  have cK := m.2.2.2.2.2.2.2.2.1
  have hK : 0 < K ∧ K ≤ 400 := by
    have a := cK.2.1 0 m.1.1
    have b := canon_le cK
    omega
  have hL : ∀ s a, s < n → a < 27 → possD D (ST s) a → LD (27 * s + a) < n := fun s a hs ha p => ((mapC_lead m hs ha).1 p).1
  refine c_X1_kindsMany (s_X1_kindsMany_0 ?_)
  rcases m.2.2.2.2.2.2.2.2.2 with z | ⟨z1, z2⟩
  · rw [z]
    refine ⟨is_74, fun q => absurd rfl q, fun _ => map_some ha0 e740 ⟨fun q => absurd q (by decide), fun _ => ?_⟩⟩
    refine k_partByViews hr hx hD hA e741 m (fun h1 mm f r1 f1 v5 v90 k1 => ?_)
    have hle := canon_le k1.1
    refine c_X1_partByWays (s_X1_partByWays_0 ?_)
    refine k_partByWays hx hD hA e741 m (fun h2 m2 f2 r2 f2' w5 w90 k2 st => ?_) _ 0 0 mm f h1 (Nat.le_refl _) (by omega) (by omega) (by omega) r1 f1 v5 v90 k1 (fun j hj => absurd hj (Nat.not_lt_zero j))
    have hle2 := canon_le k2.1
    have c2 := like_of_stab hD m.1.2.2.1 hL (by omega) k2 st
    have em := canon_many c2 cK
    subst em
    rw [w5]
    exact hq h2 r2 f2' w5 (fun i hi => by rw [w90 i hi, canon_eq c2 cK i hi])
  · rw [z1]
    refine ⟨is_74, fun _ => hq h hr (Fr.refl _ _) z1 z2, fun q => ?_⟩
    have := (i_eq (b := 0) (by omega) (by omega)).1 q
    omega
theorem PK_map2 {c p : Nat} (h : PK c p) : ¬ PMAP c p ∨ c = 90 ∨ (c = 74 ∧ p = 5) := by
  have := PK_no h
  unfold PMAP
  omega
/-- the class has looked for the kinds -/
theorem mapI_kinds {h h1 : AH} {D : AD} {n : Nat} {ST : Nat → AS} {FR BY DP LD : Nat → Nat} {K : Nat} {KD : Nat → Nat} (m : MapI h D n ST FR BY DP LD K KD) (f : Fr PK h h1) (e5 : h1.1 74 5 = Int32.ofNat K) (e90 : ∀ i, i < n → h1.1 90 i = Int32.ofNat (KD i)) : MapI h1 D n ST FR BY DP LD K KD := by
  obtain ⟨b1, b2, b3, b4, b5, b6, b7, b8, b9, b10⟩ := m
  refine ⟨b1, b2, b3.fr f (fun c p q => by have := PK_no q; omega), b4.fr f (fun c p q => by have := PK_no q; omega), b5.fr f (fun c p q => by have := PK_no q; omega), b6.fr f (fun c p q => by have := PK_no q; omega), fun i hi => ?_, ?_, b9, Or.inr ⟨e5, e90⟩⟩
  · rw [(f 138 i (fun q => by have := PK_no q; omega)).1, (f 143 i (fun q => by have := PK_no q; omega)).2.1, (f 139 i (fun q => by have := PK_no q; omega)).1]
    exact b7 i hi
  · rw [(f 103 36 (fun q => by have := PK_no q; omega)).1]; exact b8
theorem inv_kinds {h h1 : AH} {X Y : Nat → Nat} {D : Nat → AD} {S : Nat → AS} {t : Nat → Prop} {a n : Nat} {ST : Nat → AS} {FR BY DP LD : Nat → Nat} {K : Nat} {KD : Nat → Nat} (hI : InvD h X Y D S t) (ha : a < 2) (ht : t a) (z3 : h.1 74 0 = Int32.ofNat a) (z4 : h.1 103 24 = Int32.ofNat a) (z5 : h.2.2 74 1 = X a) (m : MapI h (D a) n ST FR BY DP LD K KD) (f : Fr PK h h1) (hr : Refs h1) (e5 : h1.1 74 5 = Int32.ofNat K) (e90 : ∀ i, i < n → h1.1 90 i = Int32.ofNat (KD i)) : InvD h1 X Y D S t := by
  obtain ⟨b1, b2, b3, b4, b5, b6, b7, b8⟩ := hI
  refine ⟨hr, b2.fr f (fun c p q => by have := PK_no q; omega), fun b hb => (b3 b hb).fr f (fun c p q => ?_), b4.fr f (fun c p q => by have := PK_no q; omega), b5.fr f (fun c p q => by have := PK_no q; omega), b6.fr f (fun c p q => by have := PK_no q; omega), Or.inr ⟨a, ha, ht, ?_, ?_, ?_, n, ST, FR, BY, DP, LD, K, KD, mapI_kinds m f e5 e90⟩, b8.fr f (fun c p q => by have := PK_no q; omega)⟩
  · have z := PK_no q
    have zx := (b2.1 b (by omega)).1
    have zy := (b2.1 b (by omega)).2
    unfold isA at zx
    unfold isB at zy
    omega
  · rw [(f 74 0 (fun q => by have := PK_no q; omega)).1]; exact z3
  · rw [(f 103 24 (fun q => by have := PK_no q; omega)).1]; exact z4
  · rw [(f 74 1 (fun q => by have := PK_no q; omega)).2.2]; exact z5
theorem ob_least {l : Launch} {g : AG} (h : AH) (hI : Inv h) : C_X9_least l g h 1 (fun r h1 => C_X12_least l g h1 103 (fun r2 h2 => r2 = r ∧ Inv h2)) := by
  obtain ⟨X, Y, D, S, t, hI⟩ := hI
  have hr := hI.1
  refine c_X9_least (s_X9_least_0 ?_)
  rw [rf_1_6 hr]
  rcases hI.2.2.2.2.2.2.1 with ⟨z1, z2, z3⟩ | ⟨a, z1, z2, z3, z4, z5, n, ST, FR, BY, DP, LD, K, KD, m⟩
  · refine ⟨is_1, is_74, map_none hI z1 z2 ⟨fun _ => k_X9_refused ?_, fun z => absurd rfl z⟩⟩
    refine c_X12_least (s_X12_least_0 ⟨is_103, ?_⟩)
    intro h2 e2
    have : h2.1 103 24 = -1 := by rw [e2]; simp (disch := first | assumption | omega) only [true_and, and_true, forall_eq, true_implies, false_implies, implies_true, not_true_eq_false, not_false_eq_true, false_and, and_false, ne_eq, ite_true, ite_false, Nat.reduceLeDiff, Nat.reduceEqDiff, Nat.reduceLT, Nat.reduceAdd, Nat.reduceMul, Nat.reduceSub, Nat.le_refl, eq_self, li_0, li_1, li_2, li_3, li_4, li_5, li_6, li_7, li_8, li_9, li_10, li_11, li_12, li_13, li_14, li_15, li_16, li_17, li_18, li_19, li_20, li_21, li_22, li_23, li_24, li_25, li_26, li_27, li_28, li_29, li_30, li_31, li_32, li_44, li_48, li_57, li_59, li_60, li_61, li_62, li_63, li_97, li_100, li_122, li_123, li_125, li_127, li_255, li_400, li_401, li_800, li_1023, li_1024, li_10827, i_add, i_mul, i_sub, i_p1, i_m1, i_nm, i_nm2, i_cl, i_cl0, vi_ok, i_lt, i_le, i_eq, lg_e, gI_s, gI_c, gI_p, gI_L, gI_R, gL_s, gL_c, gL_p, gL_I, gL_R, gR_s, gR_c, gR_p, gR_I, gR_L]; exact z2
    rw [this]
    subst e2
    exact ⟨fun z => absurd rfl z, fun _ => ob_ref hI 6 (by decide)⟩
  · obtain ⟨t1, t2, t3, t4, t5, t6, t7, t8⟩ := (hI.2.2.1 a z1).1 z2
    have hx := hI.2.1.isx z1
    refine ⟨is_1, is_74, map_some z1 z3 ⟨fun z => absurd z (by decide), fun _ => ?_⟩⟩
    rw [rf_1_6 hr]
    refine ⟨is_74, k_kindsMany hr hx t2 t3 z5 z1 z3 m (fun h1 r1 f1 v5 v90 => k_X9_granted ?_)⟩
    have i1 := inv_kinds hI z1 z2 z3 z4 z5 m f1 r1 v5 v90
    have m1 := mapI_kinds m f1 v5 v90
    refine c_X12_least (s_X12_least_0 ⟨is_103, ?_⟩)
    intro h2 e2
    obtain ⟨i2, f2, m2, w1, w2⟩ := map_in i1 m1 0 rfl e2
    rw [w2, (f1 103 24 (fun q => by have := PK_no q; omega)).1, z4, m2.2.2.2.2.2.2.2.1]
    refine ⟨fun _ => k_X12_done ⟨rfl, inv_say i1 0 (by decide) f2 i2.1 w1⟩, fun q => absurd q (i_ne (by omega))⟩
theorem ob_met {l : Launch} {g : AG} (h : AH) (a1 a2 : Int32) (hI : Inv h) : C_X9_met l g h 1 a1 a2 (fun r h1 => C_X12_met l g h1 103 a1 a2 (fun r2 h2 => r2 = r ∧ Inv h2)) := by
  obtain ⟨X, Y, D, S, t, hI⟩ := hI
  have hr := hI.1
  rcases hI.2.2.2.2.2.2.1 with ⟨z1, z2, z3⟩ | ⟨a, z1, z2, z3, z4, z5, n, ST, FR, BY, DP, LD, K, KD, m⟩
  · have model : C_X12_met l g h 103 a1 a2 (fun r2 h2 => r2 = -1 ∧ Inv h2) := by
      refine c_X12_met (s_X12_met_0 ⟨is_103, ?_⟩)
      intro h2 e2
      obtain ⟨i1, f1, e0⟩ := mIn hI e2
      exact k_isState_0 (by rw [e2, gI_p (by decide)]; exact z2) ⟨fun z => absurd rfl z, fun _ => ⟨rfl, e0⟩⟩
    refine c_X9_met (s_X9_met_0 ⟨fun _ => model, fun c => ?_⟩)
    rw [rf_1_6 hr]
    refine ⟨is_1, is_74, k_X1_many hr ?_⟩
    rw [if_pos z1]
    refine ⟨fun q => absurd q c, fun _ => model⟩
  · have hn := m.1.2.1
    have v : ∀ h2, h2 = ax_setI h 103 0 0 → h2.1 103 24 = Int32.ofNat a ∧ h2.1 103 25 = Int32.ofNat n := fun h2 e2 => ⟨by rw [e2, gI_p (by decide)]; exact z4, by rw [e2, gI_p (by decide)]; exact m.2.2.2.2.1.1⟩
    have bad : (a1 < 0 ∨ Int32.ofNat n ≤ a1) → C_X12_met l g h 103 a1 a2 (fun r2 h2 => r2 = -1 ∧ Inv h2) := by
      intro c
      refine c_X12_met (s_X12_met_0 ⟨is_103, ?_⟩)
      intro h2 e2
      obtain ⟨i1, f1, e0⟩ := mIn hI e2
      exact k_isState_n (v h2 e2).1 z1 (v h2 e2).2 hn c ⟨fun z => absurd rfl z, fun _ => ⟨rfl, e0⟩⟩
    refine c_X9_met (s_X9_met_0 ?_)
    rcases i_state n hn a1 with ⟨i, hi, rfl⟩ | c | ⟨c1, c2⟩
    · refine ⟨fun c => absurd c (i_nn (by omega)), fun _ => ?_⟩
      rw [rf_1_6 hr]
      refine ⟨is_1, is_74, k_X1_many hr ?_⟩
      rw [if_neg (by rw [z3]; exact i_ne (by omega)), m.2.2.1.1.1]
      obtain ⟨t1, t2, t3, t4, t5, t6, t7, t8⟩ := (hI.2.2.1 a z1).1 z2
      have hx := hI.2.1.isx z1
      have wS := m.1.2.2.1 i hi
      have h5 := wS.2.1
      have hf := fault_le wS
      have model : ∀ (hh : AH) (Q : Int32 → AH → Prop), InvD hh X Y D S t → MapI hh (D a) n ST FR BY DP LD K KD → hh.1 103 24 = Int32.ofNat a → (∀ h', Inv h' → ((a2 = Int32.ofNat 0 → Q (Int32.ofNat (ST i).1) h') ∧ (a2 = Int32.ofNat 1 → Q (Int32.ofNat (ST i).2.1) h') ∧ (a2 = Int32.ofNat 2 → Q (topI (ST i)) h') ∧ (a2 = Int32.ofNat 3 → Q (Int32.ofNat (DP i)) h') ∧ (a2 = Int32.ofNat 4 → Q (Int32.ofNat (pops (possD (D a) (ST i)) 27)) h') ∧ (a2 = Int32.ofNat 5 → Q (Int32.ofNat (KD i)) h') ∧ (¬ a2 = Int32.ofNat 0 → ¬ a2 = Int32.ofNat 1 → ¬ a2 = Int32.ofNat 2 → ¬ a2 = Int32.ofNat 3 → ¬ a2 = Int32.ofNat 4 → ¬ a2 = Int32.ofNat 5 → Q (-1) h'))) → C_X12_met l g hh 103 (Int32.ofNat i) a2 Q := by
        intro hh Q hI2 m2 z4' hq
        refine c_X12_met (s_X12_met_0 ⟨is_103, ?_⟩)
        intro h2 e2
        obtain ⟨i1, f1, e0⟩ := mIn hI2 e2
        have m3 := m2.fr f1 (fun _ _ => SCR_map)
        have w24 : h2.1 103 24 = Int32.ofNat a := by rw [e2, gI_p (by decide)]; exact z4'
        clear e2
        have hr1 := i1.1
        refine k_isState_y w24 z1 m3.2.2.2.2.1.1 hn hi ⟨fun _ => ?_, fun z => absurd z (by decide)⟩
        have q := m3.2.2.2.2.1.2 i hi
        simp (disch := first | assumption | omega) only [true_and, and_true, forall_eq, true_implies, false_implies, implies_true, not_true_eq_false, not_false_eq_true, false_and, and_false, ne_eq, ite_true, ite_false, Nat.reduceLeDiff, Nat.reduceEqDiff, Nat.reduceLT, Nat.reduceAdd, Nat.reduceMul, Nat.reduceSub, Nat.le_refl, eq_self, li_0, li_1, li_2, li_3, li_4, li_5, li_6, li_7, li_8, li_9, li_10, li_11, li_12, li_13, li_14, li_15, li_16, li_17, li_18, li_19, li_20, li_21, li_22, li_23, li_24, li_25, li_26, li_27, li_28, li_29, li_30, li_31, li_32, li_44, li_48, li_57, li_59, li_60, li_61, li_62, li_63, li_97, li_100, li_122, li_123, li_125, li_127, li_255, li_400, li_401, li_800, li_1023, li_1024, li_10827, i_add, i_mul, i_sub, i_p1, i_m1, i_nm, i_nm2, i_cl, i_cl0, vi_ok, i_lt, i_le, i_eq, lg_e, rf_103_4, rf_103_6, rf_103_7, rf_103_8, rf_103_9, rf_103_10, rf_103_21, rf_103_22, rf_103_23, rf_103_26, rf_103_27, rf_103_28, rf_103_29, rf_103_30, rf_103_31, rf_103_32, rf_103_33, rf_103_34, rf_103_35, rf_103_37, rf_103_38, rf_103_39, rf_103_44, rf_103_45, rf_103_46, rf_103_47, rf_103_48, rf_103_49, rf_103_54, rf_103_55, is_103, is_104, sz_104, is_125, sz_125, is_126, sz_126, is_127, sz_127, is_128, sz_128, is_129, sz_129, is_130, sz_130, is_131, sz_131, is_132, sz_132, is_133, sz_133, is_134, sz_134, is_135, sz_135, is_136, sz_136, is_137, sz_137, is_138, sz_138, is_139, sz_139, is_140, sz_140, is_141, sz_141, is_142, sz_142, is_143, sz_143, is_144, sz_144, is_145, sz_145, is_146, sz_146, is_147, sz_147, is_148, sz_148, is_149, sz_149, is_150, sz_150, is_151, sz_151, is_152, sz_152, is_153, sz_153, q.1, q.2.1]
        refine k_X12_unpack hr1 wS (fun h' f' s' => ?_)
        have r' := f'.refs hr1
        have m4 := m3.fr f'.scr (fun _ _ => SCR_map)
        have q4 := m4.2.2.2.2.1.2 i hi
        have q5 := m4.2.2.2.2.2.2.1 i hi
        obtain ⟨p0, p1, p2, p3, p4, p5, p6⟩ := hq h' ⟨X, Y, D, S, t, inv_fr hI2 (f1.trans f'.scr) r'⟩
        unfold topI at p2
        simp (disch := first | assumption | omega) only [true_and, and_true, forall_eq, true_implies, false_implies, implies_true, not_true_eq_false, not_false_eq_true, false_and, and_false, ne_eq, ite_true, ite_false, Nat.reduceLeDiff, Nat.reduceEqDiff, Nat.reduceLT, Nat.reduceAdd, Nat.reduceMul, Nat.reduceSub, Nat.le_refl, eq_self, li_0, li_1, li_2, li_3, li_4, li_5, li_6, li_7, li_8, li_9, li_10, li_11, li_12, li_13, li_14, li_15, li_16, li_17, li_18, li_19, li_20, li_21, li_22, li_23, li_24, li_25, li_26, li_27, li_28, li_29, li_30, li_31, li_32, li_44, li_48, li_57, li_59, li_60, li_61, li_62, li_63, li_97, li_100, li_122, li_123, li_125, li_127, li_255, li_400, li_401, li_800, li_1023, li_1024, li_10827, i_add, i_mul, i_sub, i_p1, i_m1, i_nm, i_nm2, i_cl, i_cl0, vi_ok, i_lt, i_le, i_eq, lg_e, rf_103_4, rf_103_6, rf_103_7, rf_103_8, rf_103_9, rf_103_10, rf_103_21, rf_103_22, rf_103_23, rf_103_26, rf_103_27, rf_103_28, rf_103_29, rf_103_30, rf_103_31, rf_103_32, rf_103_33, rf_103_34, rf_103_35, rf_103_37, rf_103_38, rf_103_39, rf_103_44, rf_103_45, rf_103_46, rf_103_47, rf_103_48, rf_103_49, rf_103_54, rf_103_55, is_103, is_104, sz_104, is_125, sz_125, is_126, sz_126, is_127, sz_127, is_128, sz_128, is_129, sz_129, is_130, sz_130, is_131, sz_131, is_132, sz_132, is_133, sz_133, is_134, sz_134, is_135, sz_135, is_136, sz_136, is_137, sz_137, is_138, sz_138, is_139, sz_139, is_140, sz_140, is_141, sz_141, is_142, sz_142, is_143, sz_143, is_144, sz_144, is_145, sz_145, is_146, sz_146, is_147, sz_147, is_148, sz_148, is_149, sz_149, is_150, sz_150, is_151, sz_151, is_152, sz_152, is_153, sz_153, s'.1, s'.2.1, q4.2.2.2.2, q5.1, q5.2.2]
        refine ⟨p0, fun z0 => ⟨p1, fun z1 => ⟨fun z => ?_, fun z2 => ⟨p3, fun z3 => ⟨fun z => k_X12_bits (p4 z), fun z4 => ⟨p5, fun z5 => p6 z0 z1 z2 z3 z4 z5⟩⟩⟩⟩⟩⟩
        have p2 := p2 z
        by_cases c : (ST i).2.1 = 0
        · rw [if_pos c] at p2
          simp (disch := first | assumption | omega) only [true_and, and_true, forall_eq, true_implies, false_implies, implies_true, not_true_eq_false, not_false_eq_true, false_and, and_false, ne_eq, ite_true, ite_false, Nat.reduceLeDiff, Nat.reduceEqDiff, Nat.reduceLT, Nat.reduceAdd, Nat.reduceMul, Nat.reduceSub, Nat.le_refl, eq_self, li_0, li_1, li_2, li_3, li_4, li_5, li_6, li_7, li_8, li_9, li_10, li_11, li_12, li_13, li_14, li_15, li_16, li_17, li_18, li_19, li_20, li_21, li_22, li_23, li_24, li_25, li_26, li_27, li_28, li_29, li_30, li_31, li_32, li_44, li_48, li_57, li_59, li_60, li_61, li_62, li_63, li_97, li_100, li_122, li_123, li_125, li_127, li_255, li_400, li_401, li_800, li_1023, li_1024, li_10827, i_add, i_mul, i_sub, i_p1, i_m1, i_nm, i_nm2, i_cl, i_cl0, vi_ok, i_lt, i_le, i_eq, lg_e, c]
          exact p2
        · rw [if_neg c] at p2
          simp (disch := first | assumption | omega) only [true_and, and_true, forall_eq, true_implies, false_implies, implies_true, not_true_eq_false, not_false_eq_true, false_and, and_false, ne_eq, ite_true, ite_false, Nat.reduceLeDiff, Nat.reduceEqDiff, Nat.reduceLT, Nat.reduceAdd, Nat.reduceMul, Nat.reduceSub, Nat.le_refl, eq_self, li_0, li_1, li_2, li_3, li_4, li_5, li_6, li_7, li_8, li_9, li_10, li_11, li_12, li_13, li_14, li_15, li_16, li_17, li_18, li_19, li_20, li_21, li_22, li_23, li_24, li_25, li_26, li_27, li_28, li_29, li_30, li_31, li_32, li_44, li_48, li_57, li_59, li_60, li_61, li_62, li_63, li_97, li_100, li_122, li_123, li_125, li_127, li_255, li_400, li_401, li_800, li_1023, li_1024, li_10827, i_add, i_mul, i_sub, i_p1, i_m1, i_nm, i_nm2, i_cl, i_cl0, vi_ok, i_lt, i_le, i_eq, lg_e, rf_103_4, rf_103_6, rf_103_7, rf_103_8, rf_103_9, rf_103_10, rf_103_21, rf_103_22, rf_103_23, rf_103_26, rf_103_27, rf_103_28, rf_103_29, rf_103_30, rf_103_31, rf_103_32, rf_103_33, rf_103_34, rf_103_35, rf_103_37, rf_103_38, rf_103_39, rf_103_44, rf_103_45, rf_103_46, rf_103_47, rf_103_48, rf_103_49, rf_103_54, rf_103_55, is_103, is_104, sz_104, is_125, sz_125, is_126, sz_126, is_127, sz_127, is_128, sz_128, is_129, sz_129, is_130, sz_130, is_131, sz_131, is_132, sz_132, is_133, sz_133, is_134, sz_134, is_135, sz_135, is_136, sz_136, is_137, sz_137, is_138, sz_138, is_139, sz_139, is_140, sz_140, is_141, sz_141, is_142, sz_142, is_143, sz_143, is_144, sz_144, is_145, sz_145, is_146, sz_146, is_147, sz_147, is_148, sz_148, is_149, sz_149, is_150, sz_150, is_151, sz_151, is_152, sz_152, is_153, sz_153, s'.2.1, show ¬ (ST i).2.1 ≤ 0 by omega, (s'.2.2.1 ((ST i).2.1 - 1) (by omega)).1]
          exact p2
      have ed := (m.2.2.1.2 i hi).2.2
      simp (disch := first | assumption | omega) only [true_and, and_true, forall_eq, true_implies, false_implies, implies_true, not_true_eq_false, not_false_eq_true, false_and, and_false, ne_eq, ite_true, ite_false, Nat.reduceLeDiff, Nat.reduceEqDiff, Nat.reduceLT, Nat.reduceAdd, Nat.reduceMul, Nat.reduceSub, Nat.le_refl, eq_self, li_0, li_1, li_2, li_3, li_4, li_5, li_6, li_7, li_8, li_9, li_10, li_11, li_12, li_13, li_14, li_15, li_16, li_17, li_18, li_19, li_20, li_21, li_22, li_23, li_24, li_25, li_26, li_27, li_28, li_29, li_30, li_31, li_32, li_44, li_48, li_57, li_59, li_60, li_61, li_62, li_63, li_97, li_100, li_122, li_123, li_125, li_127, li_255, li_400, li_401, li_800, li_1023, li_1024, li_10827, i_add, i_mul, i_sub, i_p1, i_m1, i_nm, i_nm2, i_cl, i_cl0, vi_ok, i_lt, i_le, i_eq, lg_e, hi, rf_1_0, rf_1_2, rf_1_4, rf_1_5, rf_1_6, rf_1_7, rf_1_8, rf_1_10, is_1, is_2, sz_2, is_3, sz_3, is_67, sz_67, is_73, sz_73, is_74, sz_74, is_93, sz_93, is_101, sz_101, is_102, sz_102, rf_74_2, rf_74_3, rf_74_4, rf_74_6, rf_74_7, rf_74_8, is_74, is_75, sz_75, is_82, sz_82, is_83, sz_83, is_90, sz_90, is_91, sz_91, is_92, sz_92, rf_75_1, rf_75_2, rf_75_3, rf_75_4, rf_75_5, rf_75_6, is_75, is_76, sz_76, is_77, sz_77, is_78, sz_78, is_79, sz_79, is_80, sz_80, is_81, sz_81, (m.2.2.1.1.2.2.1 i hi).1, ed]
      refine ⟨fun z => ?_, fun z0 => ⟨fun z => ?_, fun z1' => ⟨fun z => ?_, fun z2' => ⟨fun z => ?_, fun z3' => ⟨fun z => ?_, fun z4' => ⟨fun z => ?_, fun z5' => ?_⟩⟩⟩⟩⟩⟩
      · refine q_X3_faultOf wS (model h _ hI m z4 (fun h' i' => ?_))
        subst z
        exact ⟨fun _ => ⟨rfl, i'⟩, fun q => absurd q (by decide), fun q => absurd q (by decide), fun q => absurd q (by decide), fun q => absurd q (by decide), fun q => absurd q (by decide), fun q => absurd rfl q⟩
      · refine q_X3_openOf wS (model h _ hI m z4 (fun h' i' => ?_))
        subst z
        exact ⟨fun q => absurd q (by decide), fun _ => ⟨rfl, i'⟩, fun q => absurd q (by decide), fun q => absurd q (by decide), fun q => absurd q (by decide), fun q => absurd q (by decide), fun _ q => absurd rfl q⟩
      · refine q_X3_topOf wS (model h _ hI m z4 (fun h' i' => ?_))
        subst z
        exact ⟨fun q => absurd q (by decide), fun q => absurd q (by decide), fun _ => ⟨rfl, i'⟩, fun q => absurd q (by decide), fun q => absurd q (by decide), fun q => absurd q (by decide), fun _ _ q => absurd rfl q⟩
      · refine model h _ hI m z4 (fun h' i' => ?_)
        subst z
        exact ⟨fun q => absurd q (by decide), fun q => absurd q (by decide), fun q => absurd q (by decide), fun _ => ⟨rfl, i'⟩, fun q => absurd q (by decide), fun q => absurd q (by decide), fun _ _ _ q => absurd rfl q⟩
      · refine k_waysFrom hr m hi (model h _ hI m z4 (fun h' i' => ?_))
        subst z
        exact ⟨fun q => absurd q (by decide), fun q => absurd q (by decide), fun q => absurd q (by decide), fun q => absurd q (by decide), fun _ => ⟨rfl, i'⟩, fun q => absurd q (by decide), fun _ _ _ _ q => absurd rfl q⟩
      · have cK := m.2.2.2.2.2.2.2.2.1
        have hK : 0 < K ∧ K ≤ 400 := by
          have a := cK.2.1 0 m.1.1
          have b := canon_le cK
          omega
        refine c_X1_kindOf (s_X1_kindOf_0 ⟨is_74, k_kindsMany hr hx t2 t3 z5 z1 z3 m (fun h1 r1 f1 v5 v90 => ?_)⟩)
        have i1 := inv_kinds hI z1 z2 z3 z4 z5 m f1 r1 v5 v90
        have m1 := mapI_kinds m f1 v5 v90
        have w24 : h1.1 103 24 = Int32.ofNat a := by rw [(f1 103 24 (fun q => by have := PK_no q; omega)).1]; exact z4
        simp (disch := first | assumption | omega) only [true_and, and_true, forall_eq, true_implies, false_implies, implies_true, not_true_eq_false, not_false_eq_true, false_and, and_false, ne_eq, ite_true, ite_false, Nat.reduceLeDiff, Nat.reduceEqDiff, Nat.reduceLT, Nat.reduceAdd, Nat.reduceMul, Nat.reduceSub, Nat.le_refl, eq_self, li_0, li_1, li_2, li_3, li_4, li_5, li_6, li_7, li_8, li_9, li_10, li_11, li_12, li_13, li_14, li_15, li_16, li_17, li_18, li_19, li_20, li_21, li_22, li_23, li_24, li_25, li_26, li_27, li_28, li_29, li_30, li_31, li_32, li_44, li_48, li_57, li_59, li_60, li_61, li_62, li_63, li_97, li_100, li_122, li_123, li_125, li_127, li_255, li_400, li_401, li_800, li_1023, li_1024, li_10827, i_add, i_mul, i_sub, i_p1, i_m1, i_nm, i_nm2, i_cl, i_cl0, vi_ok, i_lt, i_le, i_eq, lg_e, rf_74_2, rf_74_3, rf_74_4, rf_74_6, rf_74_7, rf_74_8, is_74, is_75, sz_75, is_82, sz_82, is_83, sz_83, is_90, sz_90, is_91, sz_91, is_92, sz_92, show ¬ K ≤ 0 by omega, v90 i hi]
        refine model h1 _ i1 m1 w24 (fun h' i' => ?_)
        subst z
        exact ⟨fun q => absurd q (by decide), fun q => absurd q (by decide), fun q => absurd q (by decide), fun q => absurd q (by decide), fun q => absurd q (by decide), fun _ => ⟨rfl, i'⟩, fun _ _ _ _ _ q => absurd rfl q⟩
      · exact model h _ hI m z4 (fun h' i' => ⟨fun q => absurd q z0, fun q => absurd q z1', fun q => absurd q z2', fun q => absurd q z3', fun q => absurd q z4', fun q => absurd q z5', fun _ _ _ _ _ _ => ⟨rfl, i'⟩⟩)
    · exact ⟨fun _ => bad (Or.inl c), fun q => absurd c q⟩
    · refine ⟨fun q => absurd q c1, fun _ => ?_⟩
      rw [rf_1_6 hr]
      refine ⟨is_1, is_74, k_X1_many hr ?_⟩
      rw [if_neg (by rw [z3]; exact i_ne (by omega)), m.2.2.1.1.1]
      refine ⟨fun q => ?_, fun _ => bad (Or.inr c2)⟩
      rw [Int32.lt_iff_toInt_lt] at q
      rw [Int32.le_iff_toInt_le] at c2
      omega
