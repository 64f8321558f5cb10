noncomputable def backK (D : AD) (ST : Nat → AS) (s : Nat) : Int64 := Int64.ofNat (bI (possD D (ST s) 25))
noncomputable def nextK (D : AD) (ST : Nat → AS) (LD f : Nat → Nat) (a s : Nat) : Int64 := @ite Int64 (possD D (ST s) a) (Classical.propDecidable _) (Int64.ofNat (f (LD (27 * s + a)))) (-1)
theorem nextK_t {D : AD} {ST : Nat → AS} {LD f : Nat → Nat} {a s : Nat} (h : possD D (ST s) a) : nextK D ST LD f a s = Int64.ofNat (f (LD (27 * s + a))) := by unfold nextK; exact if_pos h
theorem nextK_f {D : AD} {ST : Nat → AS} {LD f : Nat → Nat} {a s : Nat} (h : ¬ possD D (ST s) a) : nextK D ST LD f a s = -1 := by unfold nextK; exact if_neg h
/-- what the numbering f of kinds keeps on its way to LEAST -/
def KindI (D : AD) (n : Nat) (ST : Nat → AS) (LD : Nat → Nat) (m : Nat) (f : Nat → Nat) : Prop := Canon n m f (fun s t => f s = f t) ∧ (∀ s t, Like D n ST LD s t → f s = f t) ∧ ∀ s t, s < n → t < n → f s = f t → VE D (ST s) (ST t) ∧ (possD D (ST s) 25 ↔ possD D (ST t) 25)
/-- ACT a parts no kind -/
def stab (D : AD) (n : Nat) (ST : Nat → AS) (LD f : Nat → Nat) (a : Nat) : Prop := ∀ s t, s < n → t < n → f s = f t → nextK D ST LD f a s = nextK D ST LD f a t
theorem canon_self {n m : Nat} {f : Nat → Nat} {R : Nat → Nat → Prop} (h : Canon n m f R) : Canon n m f (fun s t => f s = f t) := ⟨fun _ _ _ _ => Iff.rfl, h.2⟩
theorem l_nm1 {a : Nat} (ha : a < 9223372036854775808) : Int64.ofNat a ≠ -1 := by
  intro e
  have e2 := congrArg Int64.toInt e
  rw [Int64.toInt_ofNat_of_lt (by omega), show (-1 : Int64).toInt = -1 from rfl] at e2
  omega
theorem like_of_stab {D : AD} {n m : Nat} {ST : Nat → AS} {LD f : Nat → Nat} (hD : WfD D) (hw : ∀ i, i < n → WS (D 0 0) (ST i)) (hL : ∀ s a, s < n → a < 27 → possD D (ST s) a → LD (27 * s + a) < n) (hn : m ≤ 400) (hk : KindI D n ST LD m f) (hs : ∀ a, a < 27 → stab D n ST LD f a) : Canon n m f (Like D n ST LD) := by
  obtain ⟨c, l, v⟩ := hk
  refine ⟨fun s t h1 h2 => ⟨fun e => ?_, fun e => l s t e⟩, c.2⟩
  refine ⟨fun s t => s < n ∧ t < n ∧ f s = f t, ?_, fun s t z => ⟨z.1, z.2.1⟩, h1, h2, e⟩
  intro s t ⟨h1, h2, e⟩
  have key : ∀ a, a < 27 → (possD D (ST s) a ↔ possD D (ST t) a) ∧ (possD D (ST s) a → f (LD (27 * s + a)) = f (LD (27 * t + a))) := by
    intro a ha
    have q := hs a ha s t h1 h2 e
    by_cases p : possD D (ST s) a
    · have b1 := c.2.1 _ (hL s a h1 ha p)
      by_cases p2 : possD D (ST t) a
      · have b2 := c.2.1 _ (hL t a h2 ha p2)
        rw [nextK_t p, nextK_t p2, l_eq (by omega) (by omega)] at q
        exact ⟨⟨fun _ => p2, fun _ => p⟩, fun _ => q⟩
      · rw [nextK_t p, nextK_f p2] at q
        exact absurd q (l_nm1 (by omega))
    · by_cases p2 : possD D (ST t) a
      · have b2 := c.2.1 _ (hL t a h2 ha p2)
        rw [nextK_f p, nextK_t p2] at q
        exact absurd q.symm (l_nm1 (by omega))
      · exact ⟨⟨fun z => absurd z p, fun z => absurd z p2⟩, fun z => absurd z p⟩
  exact ⟨(viewM_iff hD (hw s h1) (hw t h2)).2 (v s t h1 h2 e).1, fun a ha => (key a ha).1, fun a ha p => ⟨hL s a h1 ha p, hL t a h2 ha ((key a ha).1.1 p), (key a ha).2 p⟩⟩
theorem kind_next {D : AD} {n m m2 : Nat} {ST : Nat → AS} {LD f f2 : Nat → Nat} {a : Nat} (ha : a < 27) (hL : ∀ s a, s < n → a < 27 → possD D (ST s) a → LD (27 * s + a) < n) (hn : n ≤ 400) (hk : KindI D n ST LD m f) (hc : Canon n m2 f2 (KR (fun s => Int64.ofNat (f s)) (nextK D ST LD f a))) : KindI D n ST LD m2 f2 ∧ m ≤ m2 ∧ (m2 ≤ m → (∀ s, s < n → f2 s = f s) ∧ stab D n ST LD f a) := by
  obtain ⟨c, lk, v⟩ := hk
  have hb : ∀ s, s < n → f s < 400 := fun s hs => by have := c.2.1 s hs; have := canon_le c; omega
  have fine : ∀ s t, s < n → t < n → f2 s = f2 t → f s = f t := by
    intro s t h1 h2 e
    have q := ((hc.1 s t h1 h2).1 e).1
    have b1 := hb s h1
    have b2 := hb t h2
    exact (l_eq (by omega) (by omega)).1 q
  have hlt : ∀ s t, Like D n ST LD s t → s < n ∧ t < n := fun s t ⟨B, h1, h2, h3⟩ => h2 s t h3
  have k2 : KindI D n ST LD m2 f2 := by
    refine ⟨canon_self hc, fun s t e => ?_, fun s t h1 h2 e => v s t h1 h2 (fine s t h1 h2 e)⟩
    obtain ⟨h1, h2⟩ := hlt s t e
    refine (hc.1 s t h1 h2).2 ⟨by show Int64.ofNat (f s) = Int64.ofNat (f t); rw [lk s t e], ?_⟩
    obtain ⟨B, b1, b2, b3⟩ := e
    obtain ⟨q1, q2, q3⟩ := b1 s t b3
    by_cases p : possD D (ST s) a
    · rw [nextK_t p, nextK_t ((q2 a ha).1 p), lk _ _ ⟨B, b1, b2, q3 a ha p⟩]
    · rw [nextK_f p, nextK_f (fun z => p ((q2 a ha).2 z))]
  have mono : ∀ s, s < n → fst1 f s → fst1 f2 s := fun s hs z t ht e => z t ht (fine t s (by omega) hs e)
  have le : m ≤ m2 := by
    rw [← canon_cnt n m c, ← canon_cnt n m2 hc]
    exact pops_mono n mono
  refine ⟨k2, le, fun e => ?_⟩
  have em : m2 = m := by omega
  subst em
  have same := canon_fine c (canon_self hc) fine
  have ceq : Canon n m2 f2 (fun s t => f s = f t) := ⟨fun s t h1 h2 => ⟨fine s t h1 h2, same s t h1 h2⟩, hc.2⟩
  refine ⟨fun s hs => (canon_eq c ceq s hs).symm, fun s t h1 h2 e2 => ?_⟩
  exact ((hc.1 s t h1 h2).1 (same s t h1 h2 e2)).2
def PK (c p : Nat) : Prop := PM 83 c p ∨ c = 90 ∨ c = 91 ∨ (c = 74 ∧ p = 5)
theorem PK_no {c p : Nat} (h : PK c p) : (83 ≤ c ∧ c ≤ 89) ∨ c = 90 ∨ c = 91 ∨ (c = 74 ∧ p = 5) := by
  unfold PK PM at h
  omega
/-- what the class reads of THE MAP while it looks for the kinds -/
theorem pk_read {h h1 : AH} {D : AD} {n : Nat} {ST : Nat → AS} {FR BY DP LD : Nat → Nat} {K : Nat} {KD : Nat → Nat} (m : MapI h D n ST FR BY DP LD K KD) (f : Fr PK h h1) : h1.1 75 0 = Int32.ofNat n ∧ (∀ i, i < n → h1.2.1 76 i = Int64.ofNat (en (ST i))) ∧ ∀ i a, i < n → a < 27 → (possD D (ST i) a → LD (27 * i + a) < n ∧ h1.1 82 (27 * i + a) = Int32.ofNat (LD (27 * i + a))) ∧ (¬ possD D (ST i) a → h1.1 82 (27 * i + a) = -2) := by
  refine ⟨?_, fun i hi => ?_, fun i a hi ha => ?_⟩
  · rw [(f 75 0 (fun q => by have := PK_no q; omega)).1]; exact m.2.2.1.1.1
  · rw [(f 76 i (fun q => by have := PK_no q; omega)).2.1]; exact (m.2.2.1.1.2.2.1 i hi).1
  · rw [(f 82 (27 * i + a) (fun q => by have := PK_no q; omega)).1]
    have q := mapC_lead m hi ha
    exact ⟨fun p => ⟨(q.1 p).1, (q.1 p).2.1⟩, fun p => (q.2 p).1⟩
theorem k_partByViews {l : Launch} {g : AG} {h0 : AH} {x : Nat} {D : AD} {n : Nat} {ST : Nat → AS} {FR BY DP LD : Nat → Nat} {K : Nat} {KD : Nat → Nat} {Q : AH → Prop} (hr0 : Refs h0) (hx : isA x) (hD : WfD D) (hA : RepA h0 x D) (e741 : h0.2.2 74 1 = x) (m : MapI h0 D n ST FR BY DP LD K KD) (hq : ∀ h' mm f, Refs h' → Fr PK h0 h' → h'.1 74 5 = Int32.ofNat mm → (∀ i, i < n → h'.1 90 i = Int32.ofNat (f i)) → KindI D n ST LD mm f → Q h') : C_X1_partByViews l g h0 74 Q := by
  have hn := m.1.2.1
  have hxu : x = 4 ∨ x = 25 ∨ x = 46 := hx
  have loop : ∀ d k, k + d = n → ∀ h' mm f, Refs h' → Fr PK h0 h' → SortI h' (fun i => viewC D (ST i)) (backK D ST) k mm f → (∀ i, i < k → h'.1 90 i = Int32.ofNat (f i)) → L_X1_partByViews_9 l g h' 74 (Int32.ofNat k) Q := by
    intro d
    induction d with
    | zero =>
      intro k hk h' mm f r' f' sI hv
      have rd := pk_read m f'
      refine s_X1_partByViews_9 ?_
      simp (disch := first | assumption | omega) only [true_and, and_true, forall_eq, true_implies, false_implies, implies_true, not_true_eq_false, not_false_eq_true, false_and, and_false, ne_eq, ite_true, ite_false, Nat.reduceLeDiff, Nat.reduceEqDiff, Nat.reduceLT, Nat.reduceAdd, Nat.reduceMul, Nat.reduceSub, Nat.le_refl, eq_self, li_0, li_1, li_2, li_3, li_4, li_5, li_6, li_7, li_8, li_9, li_10, li_11, li_12, li_13, li_14, li_15, li_16, li_17, li_18, li_19, li_20, li_21, li_22, li_23, li_24, li_25, li_26, li_27, li_28, li_29, li_30, li_31, li_32, li_44, li_48, li_57, li_59, li_60, li_61, li_62, li_63, li_97, li_100, li_122, li_123, li_125, li_127, li_255, li_400, li_401, li_800, li_1023, li_1024, li_10827, i_add, i_mul, i_sub, i_p1, i_m1, i_nm, i_nm2, i_cl, i_cl0, vi_ok, i_lt, i_le, i_eq, lg_e, rf_74_2, rf_74_3, rf_74_4, rf_74_6, rf_74_7, rf_74_8, is_74, is_75, sz_75, is_82, sz_82, is_83, sz_83, is_90, sz_90, is_91, sz_91, is_92, sz_92, rd.1, show n ≤ k by omega]
      obtain ⟨L, R, s1, s2, s3⟩ := sI
      rw [s1.1]
      rw [show k = n by omega] at s2
      refine hq _ mm f r'.setI (f'.setI (Or.inr (Or.inr (Or.inr ⟨rfl, rfl⟩)))) (gI_s _ _ _ _) (fun i hi => ?_) ⟨canon_self s2, fun s t e => ?_, fun s t h1 h2 e => ?_⟩
      · rw [gI_c (by omega)]; exact hv i (by omega)
      · obtain ⟨B, b1, b2, b3⟩ := e
        obtain ⟨q1, q2, q3⟩ := b1 s t b3
        obtain ⟨h1, h2⟩ := b2 s t b3
        refine (s2.1 s t h1 h2).2 ⟨(viewC_iff hD (m.1.2.2.1 s h1) (m.1.2.2.1 t h2)).2 ((viewM_iff hD (m.1.2.2.1 s h1) (m.1.2.2.1 t h2)).1 q1), ?_⟩
        show Int64.ofNat (bI (possD D (ST s) 25)) = Int64.ofNat (bI (possD D (ST t) 25))
        rw [bI_congr (q2 25 (by omega))]
      · have q := (s2.1 s t h1 h2).1 e
        refine ⟨(viewC_iff hD (m.1.2.2.1 s h1) (m.1.2.2.1 t h2)).1 q.1, ?_⟩
        have q2 : Int64.ofNat (bI (possD D (ST s) 25)) = Int64.ofNat (bI (possD D (ST t) 25)) := q.2
        have b1 := bI_le (possD D (ST s) 25)
        have b2 := bI_le (possD D (ST t) 25)
        rw [l_eq (by omega) (by omega)] at q2
        by_cases p : possD D (ST s) 25
        · rw [bI_t p, eq_comm, bI_one] at q2
          exact ⟨fun _ => q2, fun _ => p⟩
        · rw [bI_f p, eq_comm, bI_zero] at q2
          exact ⟨fun z => absurd z p, fun z => absurd z q2⟩
    | succ d ih =>
      intro k hk h' mm f r' f' sI hv
      have rd := pk_read m f'
      have e741' : h'.2.2 74 1 = x := by rw [(f' 74 1 (fun q => by have := PK_no q; omega)).2.2]; exact e741
      have hA' : RepA h' x D := hA.fr f' (fun c p h1 h2 q => by have := PK_no q; omega)
      have wS := m.1.2.2.1 k (by omega)
      have nx : ∀ s0 : Nat, s0 = bI (possD D (ST k) 25) → L_X1_partByViews_48 l g h' 74 (Int32.ofNat k) (Int64.ofNat (en (ST k))) (Int32.ofNat s0) Q := by
        intro s0 es
        have b1 := bI_le (possD D (ST k) 25)
        refine s_X1_partByViews_48 ?_
        rw [e741']
        simp (disch := first | assumption | omega) only [true_and, and_true, forall_eq, true_implies, false_implies, implies_true, not_true_eq_false, not_false_eq_true, false_and, and_false, ne_eq, ite_true, ite_false, Nat.reduceLeDiff, Nat.reduceEqDiff, Nat.reduceLT, Nat.reduceAdd, Nat.reduceMul, Nat.reduceSub, Nat.le_refl, eq_self, li_0, li_1, li_2, li_3, li_4, li_5, li_6, li_7, li_8, li_9, li_10, li_11, li_12, li_13, li_14, li_15, li_16, li_17, li_18, li_19, li_20, li_21, li_22, li_23, li_24, li_25, li_26, li_27, li_28, li_29, li_30, li_31, li_32, li_44, li_48, li_57, li_59, li_60, li_61, li_62, li_63, li_97, li_100, li_122, li_123, li_125, li_127, li_255, li_400, li_401, li_800, li_1023, li_1024, li_10827, i_add, i_mul, i_sub, i_p1, i_m1, i_nm, i_nm2, i_cl, i_cl0, vi_ok, i_lt, i_le, i_eq, lg_e, rf_74_2, rf_74_3, rf_74_4, rf_74_6, rf_74_7, rf_74_8, is_74, is_75, sz_75, is_82, sz_82, is_83, sz_83, is_90, sz_90, is_91, sz_91, is_92, sz_92, isA_x hx]
        refine k_X0_viewOf r' hx hD hA' wS ?_
        refine q_meet_sort (p := fun i => viewC D (ST i)) (q := backK D ST) r' sI (by omega) rfl (by rw [l_of (by omega), es]; rfl) (fun h2 r m2 hr2 r2 f2 s2 => ?_)
        (try simp (disch := first | assumption | omega) only [true_and, and_true, forall_eq, true_implies, false_implies, implies_true, not_true_eq_false, not_false_eq_true, false_and, and_false, ne_eq, ite_true, ite_false, Nat.reduceLeDiff, Nat.reduceEqDiff, Nat.reduceLT, Nat.reduceAdd, Nat.reduceMul, Nat.reduceSub, Nat.le_refl, eq_self, li_0, li_1, li_2, li_3, li_4, li_5, li_6, li_7, li_8, li_9, li_10, li_11, li_12, li_13, li_14, li_15, li_16, li_17, li_18, li_19, li_20, li_21, li_22, li_23, li_24, li_25, li_26, li_27, li_28, li_29, li_30, li_31, li_32, li_44, li_48, li_57, li_59, li_60, li_61, li_62, li_63, li_97, li_100, li_122, li_123, li_125, li_127, li_255, li_400, li_401, li_800, li_1023, li_1024, li_10827, i_add, i_mul, i_sub, i_p1, i_m1, i_nm, i_nm2, i_cl, i_cl0, vi_ok, i_lt, i_le, i_eq, lg_e])
        have f3 : Fr PK h0 (ax_setI h2 90 k (Int32.ofNat r)) := (f'.trans (f2.mono (fun _ _ => Or.inl))).setI (Or.inr (Or.inl rfl))
        refine ih (k + 1) (by omega) _ m2 (nup f k r) r2.setI f3 (s2.fr ((Fr.refl (fun c _ => c = 90) h2).setI rfl) (fun c z q => by omega)) (fun i hi => ?_)
        by_cases c : i = k
        · rw [gI_t rfl c, c, nup_s]
        · rw [gI_p c, nup_n c, (f2 90 i (fun q => by unfold PM at q; omega)).1]
          exact hv i (by omega)
      refine s_X1_partByViews_9 ?_
      rw [e741']
      simp (disch := first | assumption | omega) only [true_and, and_true, forall_eq, true_implies, false_implies, implies_true, not_true_eq_false, not_false_eq_true, false_and, and_false, ne_eq, ite_true, ite_false, Nat.reduceLeDiff, Nat.reduceEqDiff, Nat.reduceLT, Nat.reduceAdd, Nat.reduceMul, Nat.reduceSub, Nat.le_refl, eq_self, li_0, li_1, li_2, li_3, li_4, li_5, li_6, li_7, li_8, li_9, li_10, li_11, li_12, li_13, li_14, li_15, li_16, li_17, li_18, li_19, li_20, li_21, li_22, li_23, li_24, li_25, li_26, li_27, li_28, li_29, li_30, li_31, li_32, li_44, li_48, li_57, li_59, li_60, li_61, li_62, li_63, li_97, li_100, li_122, li_123, li_125, li_127, li_255, li_400, li_401, li_800, li_1023, li_1024, li_10827, i_add, i_mul, i_sub, i_p1, i_m1, i_nm, i_nm2, i_cl, i_cl0, vi_ok, i_lt, i_le, i_eq, lg_e, rf_74_2, rf_74_3, rf_74_4, rf_74_6, rf_74_7, rf_74_8, is_74, is_75, sz_75, is_82, sz_82, is_83, sz_83, is_90, sz_90, is_91, sz_91, is_92, sz_92, rf_75_1, rf_75_2, rf_75_3, rf_75_4, rf_75_5, rf_75_6, is_75, is_76, sz_76, is_77, sz_77, is_78, sz_78, is_79, sz_79, is_80, sz_80, is_81, sz_81, rd.1, rd.2.1 k (by omega), isA_x hx, show ¬ n ≤ k by omega]
      refine k_X0_possible (a := 25) r' hx wS hD.1 hD.2.1 hA'.2.1 hA'.2.2.2.2.1 (by omega) (fun p => ?_) (fun p => ?_)
      · exact ⟨fun z => absurd z (by decide), fun _ => nx 1 (by rw [bI_t p])⟩
      · exact ⟨fun _ => nx 0 (by rw [bI_f p]), fun z => absurd rfl z⟩
  refine c_X1_partByViews (s_X1_partByViews_0 ?_)
  rw [rf_74_4 hr0]
  refine ⟨is_74, is_83, k_X6_clear hr0 (Or.inr (Or.inl rfl)) (fun _ => 0) (fun _ => 0) (fun h1 f1 r1 m1 => ?_)⟩
  exact loop n 0 (Nat.zero_add _) h1 0 (fun _ => 0) r1 (f1.mono (fun _ _ => Or.inl)) ⟨_, _, m1, canon_zero _ _, fun i hi => absurd hi (Nat.not_lt_zero i)⟩ (fun i hi => absurd hi (Nat.not_lt_zero i))
