def succM (D : AD) (ST : Nat → AS) (LD : Nat → Nat) (G : Nat → Prop) (s : Nat) : Prop := ∃ a, a < 26 ∧ possD D (ST s) a ∧ G (LD (27 * s + a))
/-- one turn of marking: states from d on are done -/
def PassR (D : AD) (n : Nat) (ST : Nat → AS) (LD : Nat → Nat) (G G2 : Nat → Prop) (r d : Nat) : Prop := (r = 0 ∨ r = 1) ∧ (∀ s, s < n → G s → G2 s) ∧ (∀ P : Nat → Prop, (∀ s, s < n → succM D ST LD P s → P s) → (∀ s, s < n → G s → P s) → ∀ s, s < n → G2 s → P s) ∧ (r = 0 → (∀ s, s < n → (G2 s ↔ G s)) ∧ ∀ s, d ≤ s → s < n → succM D ST LD G s → G s) ∧ (r = 1 → pops G n < pops G2 n)
theorem pass_0 {D : AD} {n : Nat} {ST : Nat → AS} {LD : Nat → Nat} (G : Nat → Prop) : PassR D n ST LD G G 0 n := ⟨Or.inl rfl, fun _ _ h => h, fun _ _ h => h, fun _ => ⟨fun _ _ => Iff.rfl, fun s h1 h2 => absurd h1 (by omega)⟩, fun h => absurd h (by decide)⟩
theorem pass_no {D : AD} {n : Nat} {ST : Nat → AS} {LD : Nat → Nat} {G G2 : Nat → Prop} {r d : Nat} (hL : ∀ s a, s < n → a < 27 → possD D (ST s) a → LD (27 * s + a) < n) (hd : d < n) (p : PassR D n ST LD G G2 r (d + 1)) (h : succM D ST LD G2 d → G2 d) : PassR D n ST LD G G2 r d := by
  obtain ⟨p1, p2, p3, p4, p5⟩ := p
  refine ⟨p1, p2, p3, fun z => ⟨(p4 z).1, fun s h1 h2 h3 => ?_⟩, p5⟩
  by_cases c : s = d
  · subst c
    refine ((p4 z).1 s hd).1 (h ?_)
    obtain ⟨a, a1, a2, a3⟩ := h3
    exact ⟨a, a1, a2, p2 _ (hL s a hd (by omega) a2) a3⟩
  · exact (p4 z).2 s (by omega) h2 h3
theorem pops_lt {f f2 : Nat → Prop} {n s : Nat} (h : ∀ a, a < n → f a → f2 a) (hs : s < n) (h1 : ¬ f s) (h2 : f2 s) : pops f n < pops f2 n := by
  rcases Nat.lt_or_ge (pops f n) (pops f2 n) with q | q
  · exact q
  · have := pops_mono n h
    exact absurd (pops_same n h (by omega) s hs h2) h1
theorem pass_set {D : AD} {n : Nat} {ST : Nat → AS} {LD : Nat → Nat} {G G2 : Nat → Prop} {r d : Nat} (hL : ∀ s a, s < n → a < 27 → possD D (ST s) a → LD (27 * s + a) < n) (hd : d < n) (p : PassR D n ST LD G G2 r (d + 1)) (hn : ¬ G2 d) (h : succM D ST LD G2 d) : PassR D n ST LD G (fun s => G2 s ∨ s = d) 1 d := by
  obtain ⟨p1, p2, p3, p4, p5⟩ := p
  refine ⟨Or.inr rfl, fun s hs hg => Or.inl (p2 s hs hg), fun P h1 h2 s hs hg => ?_, fun z => absurd z (by decide), fun _ => ?_⟩
  · rcases hg with hg | hg
    · exact p3 P h1 h2 s hs hg
    · rw [hg]
      refine h1 d hd ?_
      obtain ⟨a, a1, a2, a3⟩ := h
      exact ⟨a, a1, a2, p3 P h1 h2 _ (hL d a hd (by omega) a2) a3⟩
  · exact pops_lt (fun a ha hg => Or.inl (p2 a ha hg)) hd (fun z => hn (p2 d hd z)) (Or.inr rfl)
theorem mk_set {h : AH} {c n d : Nat} {G : Nat → Prop} (hG : ∀ s, s < n → h.1 c s = Int32.ofNat (bI (G s))) : ∀ s, s < n → (ax_setI h c d (Int32.ofNat 1)).1 c s = Int32.ofNat (bI (G s ∨ s = d)) := by
  intro s hs
  by_cases e : s = d
  · rw [gI_t rfl e, bI_t (Or.inr e)]
  · rw [gI_p e, hG s hs, bI_congr ⟨Or.inl, fun z => by rcases z with z | z; exact z; exact absurd z e⟩]
theorem k_leadsToMarked {l : Launch} {g : AG} {h : AH} {D : AD} {n : Nat} {ST : Nat → AS} {FR BY DP LD : Nat → Nat} {K : Nat} {KD : Nat → Nat} {G : Nat → Prop} {s : Nat} {Q : Int32 → AH → Prop} (hr : Refs h) (m : MapI h D n ST FR BY DP LD K KD) (hG : ∀ s, s < n → h.1 92 s = Int32.ofNat (bI (G s))) (hs : s < n) (q1 : succM D ST LD G s → Q 1 h) (q0 : ¬ succM D ST LD G s → Q 0 h) : C_X1_leadsToMarked l g h 74 (Int32.ofNat s) Q := by
  have hn := m.1.2.1
  have loop : ∀ d a, a + d = 26 → (∀ b, b < a → ¬ (possD D (ST s) b ∧ G (LD (27 * s + b)))) → L_X1_leadsToMarked_2 l g h 74 (Int32.ofNat s) (Int32.ofNat a) Q := by
    intro d
    induction d with
    | zero =>
      intro a ha hl
      refine s_X1_leadsToMarked_2 ?_
      simp (disch := first | assumption | omega) only [true_and, and_true, forall_eq, true_implies, false_implies, implies_true, not_true_eq_false, not_false_eq_true, false_and, and_false, ne_eq, ite_true, ite_false, Nat.reduceLeDiff, Nat.reduceEqDiff, Nat.reduceLT, Nat.reduceAdd, Nat.reduceMul, Nat.reduceSub, Nat.le_refl, eq_self, li_0, li_1, li_2, li_3, li_4, li_5, li_6, li_7, li_8, li_9, li_10, li_11, li_12, li_13, li_14, li_15, li_16, li_17, li_18, li_19, li_20, li_21, li_22, li_23, li_24, li_25, li_26, li_27, li_28, li_29, li_30, li_31, li_32, li_44, li_48, li_57, li_59, li_60, li_61, li_62, li_63, li_97, li_100, li_122, li_123, li_125, li_127, li_255, li_400, li_401, li_800, li_1023, li_1024, li_10827, i_add, i_mul, i_sub, i_p1, i_m1, i_nm, i_nm2, i_cl, i_cl0, vi_ok, i_lt, i_le, i_eq, lg_e, show 26 ≤ a by omega]
      exact q0 (fun ⟨b, b1, b2, b3⟩ => hl b (by omega) ⟨b2, b3⟩)
    | succ d ih =>
      intro a ha hl
      have q := mapC_lead m hs (show a < 27 by omega)
      have nx : ¬ (possD D (ST s) a ∧ G (LD (27 * s + a))) → L_X1_leadsToMarked_2 l g h 74 (Int32.ofNat s) (Int32.ofNat (a + 1)) Q := by
        intro z
        refine ih (a + 1) (by omega) (fun b hb => ?_)
        by_cases c : b = a
        · rw [c]; exact z
        · exact hl b (by omega)
      refine s_X1_leadsToMarked_2 ?_
      by_cases p : possD D (ST s) a
      · have q := q.1 p
        simp (disch := first | assumption | omega) only [true_and, and_true, forall_eq, true_implies, false_implies, implies_true, not_true_eq_false, not_false_eq_true, false_and, and_false, ne_eq, ite_true, ite_false, Nat.reduceLeDiff, Nat.reduceEqDiff, Nat.reduceLT, Nat.reduceAdd, Nat.reduceMul, Nat.reduceSub, Nat.le_refl, eq_self, li_0, li_1, li_2, li_3, li_4, li_5, li_6, li_7, li_8, li_9, li_10, li_11, li_12, li_13, li_14, li_15, li_16, li_17, li_18, li_19, li_20, li_21, li_22, li_23, li_24, li_25, li_26, li_27, li_28, li_29, li_30, li_31, li_32, li_44, li_48, li_57, li_59, li_60, li_61, li_62, li_63, li_97, li_100, li_122, li_123, li_125, li_127, li_255, li_400, li_401, li_800, li_1023, li_1024, li_10827, i_add, i_mul, i_sub, i_p1, i_m1, i_nm, i_nm2, i_cl, i_cl0, vi_ok, i_lt, i_le, i_eq, lg_e, rf_74_2, rf_74_3, rf_74_4, rf_74_6, rf_74_7, rf_74_8, is_74, is_75, sz_75, is_82, sz_82, is_83, sz_83, is_90, sz_90, is_91, sz_91, is_92, sz_92, show ¬ 26 ≤ a by omega, Nat.mul_comm s 27, q.2.1, show ¬ LD (27 * s + a) < 0 by omega, hG _ q.1, bI_ez]
        refine ⟨fun z => nx (fun y => z y.2), fun z => q1 ⟨a, by omega, p, Classical.not_not.1 z⟩⟩
      · have q := q.2 p
        have e : (h.1 82 (27 * s + a) < Int32.ofNat 0) = True := eq_true (by rw [q.1]; exact i_negm2)
        simp (disch := first | assumption | omega) only [true_and, and_true, forall_eq, true_implies, false_implies, implies_true, not_true_eq_false, not_false_eq_true, false_and, and_false, ne_eq, ite_true, ite_false, Nat.reduceLeDiff, Nat.reduceEqDiff, Nat.reduceLT, Nat.reduceAdd, Nat.reduceMul, Nat.reduceSub, Nat.le_refl, eq_self, li_0, li_1, li_2, li_3, li_4, li_5, li_6, li_7, li_8, li_9, li_10, li_11, li_12, li_13, li_14, li_15, li_16, li_17, li_18, li_19, li_20, li_21, li_22, li_23, li_24, li_25, li_26, li_27, li_28, li_29, li_30, li_31, li_32, li_44, li_48, li_57, li_59, li_60, li_61, li_62, li_63, li_97, li_100, li_122, li_123, li_125, li_127, li_255, li_400, li_401, li_800, li_1023, li_1024, li_10827, i_add, i_mul, i_sub, i_p1, i_m1, i_nm, i_nm2, i_cl, i_cl0, vi_ok, i_lt, i_le, i_eq, lg_e, rf_74_2, rf_74_3, rf_74_4, rf_74_6, rf_74_7, rf_74_8, is_74, is_75, sz_75, is_82, sz_82, is_83, sz_83, is_90, sz_90, is_91, sz_91, is_92, sz_92, show ¬ 26 ≤ a by omega, Nat.mul_comm s 27, e]
        exact nx (fun y => p y.1)
  exact c_X1_leadsToMarked (s_X1_leadsToMarked_0 (loop 26 0 rfl (fun b hb => absurd hb (Nat.not_lt_zero b))))
theorem k_markMore {l : Launch} {g : AG} {h0 : AH} {D : AD} {n : Nat} {ST : Nat → AS} {FR BY DP LD : Nat → Nat} {K : Nat} {KD : Nat → Nat} {G : Nat → Prop} {Q : Int32 → AH → Prop} (hr0 : Refs h0) (m0 : MapI h0 D n ST FR BY DP LD K KD) (hG0 : ∀ s, s < n → h0.1 92 s = Int32.ofNat (bI (G s))) (hq : ∀ h' G2 r, Refs h' → Fr (fun c _ => c = 92) h0 h' → (∀ s, s < n → h'.1 92 s = Int32.ofNat (bI (G2 s))) → PassR D n ST LD G G2 r 0 → Q (Int32.ofNat r) h') : C_X1_markMore l g h0 74 Q := by
  have hn := m0.1.2.1
  have hL : ∀ s a, s < n → a < 27 → possD D (ST s) a → LD (27 * s + a) < n := fun s a hs ha p => ((mapC_lead m0 hs ha).1 p).1
  have loop : ∀ d, d ≤ n → ∀ h G2 r, Refs h → Fr (fun c _ => c = 92) h0 h → (∀ s, s < n → h.1 92 s = Int32.ofNat (bI (G2 s))) → PassR D n ST LD G G2 r d → L_X1_markMore_12 l g h 74 (Int32.ofNat r) (if d = 0 then -1 else Int32.ofNat (d - 1)) Q := by
    intro d
    induction d with
    | zero =>
      intro hd h G2 r hr hf hG p
      refine s_X1_markMore_12 ⟨fun _ => ⟨?_, hq h G2 r hr hf hG p⟩, fun c => absurd (by decide) c⟩
      rcases p.1 with z | z
      · rw [z]; exact Or.inl rfl
      · rw [z]; exact Or.inr rfl
    | succ d ih =>
      intro hd h G2 r hr hf hG p
      have m : MapI h D n ST FR BY DP LD K KD := m0.fr hf (fun c p q => by unfold PMAP; omega)
      rw [if_neg (by omega), Nat.add_sub_cancel]
      refine s_X1_markMore_12 ?_
      rw [i_dec]
      simp (disch := first | assumption | omega) only [true_and, and_true, forall_eq, true_implies, false_implies, implies_true, not_true_eq_false, not_false_eq_true, false_and, and_false, ne_eq, ite_true, ite_false, Nat.reduceLeDiff, Nat.reduceEqDiff, Nat.reduceLT, Nat.reduceAdd, Nat.reduceMul, Nat.reduceSub, Nat.le_refl, eq_self, li_0, li_1, li_2, li_3, li_4, li_5, li_6, li_7, li_8, li_9, li_10, li_11, li_12, li_13, li_14, li_15, li_16, li_17, li_18, li_19, li_20, li_21, li_22, li_23, li_24, li_25, li_26, li_27, li_28, li_29, li_30, li_31, li_32, li_44, li_48, li_57, li_59, li_60, li_61, li_62, li_63, li_97, li_100, li_122, li_123, li_125, li_127, li_255, li_400, li_401, li_800, li_1023, li_1024, li_10827, i_add, i_mul, i_sub, i_p1, i_m1, i_nm, i_nm2, i_cl, i_cl0, vi_ok, i_lt, i_le, i_eq, lg_e, rf_74_2, rf_74_3, rf_74_4, rf_74_6, rf_74_7, rf_74_8, is_74, is_75, sz_75, is_82, sz_82, is_83, sz_83, is_90, sz_90, is_91, sz_91, is_92, sz_92, show ¬ d < 0 by omega, hG d (by omega), bI_ez]
      refine ⟨fun z => ?_, fun z => ?_⟩
      · exact ih (by omega) h G2 r hr hf hG (pass_no hL (by omega) p (fun _ => Classical.not_not.1 z))
      · refine k_leadsToMarked hr m hG (by omega) (fun y => ?_) (fun y => ?_)
        · simp (disch := first | assumption | omega) only [true_and, and_true, forall_eq, true_implies, false_implies, implies_true, not_true_eq_false, not_false_eq_true, false_and, and_false, ne_eq, ite_true, ite_false, Nat.reduceLeDiff, Nat.reduceEqDiff, Nat.reduceLT, Nat.reduceAdd, Nat.reduceMul, Nat.reduceSub, Nat.le_refl, eq_self, li_0, li_1, li_2, li_3, li_4, li_5, li_6, li_7, li_8, li_9, li_10, li_11, li_12, li_13, li_14, li_15, li_16, li_17, li_18, li_19, li_20, li_21, li_22, li_23, li_24, li_25, li_26, li_27, li_28, li_29, li_30, li_31, li_32, li_44, li_48, li_57, li_59, li_60, li_61, li_62, li_63, li_97, li_100, li_122, li_123, li_125, li_127, li_255, li_400, li_401, li_800, li_1023, li_1024, li_10827, i_add, i_mul, i_sub, i_p1, i_m1, i_nm, i_nm2, i_cl, i_cl0, vi_ok, i_lt, i_le, i_eq, lg_e, rf_74_2, rf_74_3, rf_74_4, rf_74_6, rf_74_7, rf_74_8, is_74, is_75, sz_75, is_82, sz_82, is_83, sz_83, is_90, sz_90, is_91, sz_91, is_92, sz_92, nar_b1]
          exact ih (by omega) _ _ 1 hr.setI (hf.setI rfl) (mk_set hG) (pass_set hL (by omega) p z y)
        · exact ⟨fun _ => ih (by omega) h G2 r hr hf hG (pass_no hL (by omega) p (fun q => absurd q y)), fun q => absurd rfl q⟩
  refine c_X1_markMore (s_X1_markMore_0 ?_)
  rw [rf_74_2 hr0, m0.2.2.1.1.1, i_dm1]
  refine ⟨is_74, is_75, ?_⟩
  intro v3 e3
  rw [e3]
  exact loop n (Nat.le_refl n) h0 G 0 hr0 (Fr.refl _ _) hG0 (pass_0 G)
/-- from s a row without TORN leads to the base -/
def reach (D : AD) (n : Nat) (ST : Nat → AS) (LD : Nat → Nat) (B : Nat → Prop) (s : Nat) : Prop := ∀ P : Nat → Prop, (∀ s, s < n → succM D ST LD P s → P s) → (∀ s, s < n → B s → P s) → P s
theorem reach_end {D : AD} {n : Nat} {ST : Nat → AS} {LD : Nat → Nat} {B G : Nat → Prop} (h1 : ∀ s, s < n → B s → G s) (h2 : ∀ s, s < n → G s → reach D n ST LD B s) (h3 : ∀ s, s < n → succM D ST LD G s → G s) : ∀ s, s < n → (G s ↔ reach D n ST LD B s) := fun s hs => ⟨h2 s hs, fun r => r G h3 h1⟩
theorem reach_pass {D : AD} {n : Nat} {ST : Nat → AS} {LD : Nat → Nat} {B G G2 : Nat → Prop} {r d : Nat} (p : PassR D n ST LD G G2 r d) (h2 : ∀ s, s < n → G s → reach D n ST LD B s) : ∀ s, s < n → G2 s → reach D n ST LD B s := fun s hs hg P p1 p2 => p.2.2.1 P p1 (fun s hs hg => h2 s hs hg P p1 p2) s hs hg
def topIs (ST : Nat → AS) (w s : Nat) : Prop := topI (ST s) = Int32.ofNat w
theorem k_withoutWay {l : Launch} {g : AG} {h0 : AH} {D : AD} {n w : Nat} {ST : Nat → AS} {FR BY DP LD : Nat → Nat} {K : Nat} {KD : Nat → Nat} {Q : Int32 → AH → Prop} (hr0 : Refs h0) (m0 : MapI h0 D n ST FR BY DP LD K KD) (hq : ∀ h', Refs h' → Fr (fun c _ => c = 92) h0 h' → Q (firstI (fun s => ¬ reach D n ST LD (topIs ST w) s) n) h') : C_X1_firstWithoutWayTo l g h0 74 (Int32.ofNat w) Q := by
  have hn := m0.1.2.1
  have fin : ∀ h, Refs h → Fr (fun c _ => c = 92) h0 h → (∀ s, s < n → h.1 92 s = Int32.ofNat (bI (reach D n ST LD (topIs ST w) s))) → ∀ d i, i + d = n → (∀ j, j < i → ¬ ¬ reach D n ST LD (topIs ST w) j) → L_X1_firstWithoutWayTo_74 l g h 74 (Int32.ofNat i) Q := by
    intro h hr hf hG d
    have e75 : h.1 75 0 = Int32.ofNat n := by rw [(hf 75 0 (by decide)).1]; exact m0.2.2.1.1.1
    induction d with
    | zero =>
      intro i hi hl
      refine s_X1_firstWithoutWayTo_74 ?_
      simp (disch := first | assumption | omega) only [true_and, and_true, forall_eq, true_implies, false_implies, implies_true, not_true_eq_false, not_false_eq_true, false_and, and_false, ne_eq, ite_true, ite_false, Nat.reduceLeDiff, Nat.reduceEqDiff, Nat.reduceLT, Nat.reduceAdd, Nat.reduceMul, Nat.reduceSub, Nat.le_refl, eq_self, li_0, li_1, li_2, li_3, li_4, li_5, li_6, li_7, li_8, li_9, li_10, li_11, li_12, li_13, li_14, li_15, li_16, li_17, li_18, li_19, li_20, li_21, li_22, li_23, li_24, li_25, li_26, li_27, li_28, li_29, li_30, li_31, li_32, li_44, li_48, li_57, li_59, li_60, li_61, li_62, li_63, li_97, li_100, li_122, li_123, li_125, li_127, li_255, li_400, li_401, li_800, li_1023, li_1024, li_10827, i_add, i_mul, i_sub, i_p1, i_m1, i_nm, i_nm2, i_cl, i_cl0, vi_ok, i_lt, i_le, i_eq, lg_e, rf_74_2, rf_74_3, rf_74_4, rf_74_6, rf_74_7, rf_74_8, is_74, is_75, sz_75, is_82, sz_82, is_83, sz_83, is_90, sz_90, is_91, sz_91, is_92, sz_92, e75, show n ≤ i by omega]
      have := hq h hr hf
      rw [firstI_none (fun j hj => hl j (by omega))] at this
      exact this
    | succ d ih =>
      intro i hi hl
      refine s_X1_firstWithoutWayTo_74 ?_
      simp (disch := first | assumption | omega) only [true_and, and_true, forall_eq, true_implies, false_implies, implies_true, not_true_eq_false, not_false_eq_true, false_and, and_false, ne_eq, ite_true, ite_false, Nat.reduceLeDiff, Nat.reduceEqDiff, Nat.reduceLT, Nat.reduceAdd, Nat.reduceMul, Nat.reduceSub, Nat.le_refl, eq_self, li_0, li_1, li_2, li_3, li_4, li_5, li_6, li_7, li_8, li_9, li_10, li_11, li_12, li_13, li_14, li_15, li_16, li_17, li_18, li_19, li_20, li_21, li_22, li_23, li_24, li_25, li_26, li_27, li_28, li_29, li_30, li_31, li_32, li_44, li_48, li_57, li_59, li_60, li_61, li_62, li_63, li_97, li_100, li_122, li_123, li_125, li_127, li_255, li_400, li_401, li_800, li_1023, li_1024, li_10827, i_add, i_mul, i_sub, i_p1, i_m1, i_nm, i_nm2, i_cl, i_cl0, vi_ok, i_lt, i_le, i_eq, lg_e, rf_74_2, rf_74_3, rf_74_4, rf_74_6, rf_74_7, rf_74_8, is_74, is_75, sz_75, is_82, sz_82, is_83, sz_83, is_90, sz_90, is_91, sz_91, is_92, sz_92, e75, show ¬ n ≤ i by omega, hG i (by omega), bI_ez]
      refine ⟨fun z => ih (i + 1) (by omega) (fun j hj => ?_), fun z => ?_⟩
      · by_cases c : j = i
        · rw [c]; exact z
        · exact hl j (by omega)
      · have := hq h hr hf
        rw [firstI_hit (show i < n by omega) z hl] at this
        exact this
  have outer : ∀ e k, k + e = 401 → ∀ h G r, Refs h → Fr (fun c _ => c = 92) h0 h → (∀ s, s < n → h.1 92 s = Int32.ofNat (bI (G s))) → (∀ s, s < n → topIs ST w s → G s) → (∀ s, s < n → G s → reach D n ST LD (topIs ST w) s) → k ≤ pops G n + (1 - r) → (r = 0 → ∀ s, s < n → succM D ST LD G s → G s) → r ≤ 1 → L_X1_firstWithoutWayTo_50 l g h 74 (Int32.ofNat r) (Int32.ofNat k) Q := by
    intro e
    induction e with
    | zero =>
      intro k hk h G r hr hf hG hb hs hc hz hr1
      have := pops_le G n
      have r0 : r = 0 := by omega
      subst r0
      refine s_X1_firstWithoutWayTo_50 ⟨fun _ => ?_, fun c => absurd rfl c⟩
      have eqv := reach_end hb hs (hz rfl)
      exact fin h hr hf (fun s hs => by rw [hG s hs, bI_congr (eqv s hs)]) n 0 (Nat.zero_add _) (fun j hj => absurd hj (Nat.not_lt_zero j))
    | succ e ih =>
      intro k hk h G r hr hf hG hb hs hc hz hr1
      have hpl := pops_le G n
      by_cases c : r = 0
      · subst c
        refine s_X1_firstWithoutWayTo_50 ⟨fun _ => ?_, fun c => absurd rfl c⟩
        have eqv := reach_end hb hs (hz rfl)
        exact fin h hr hf (fun s hs => by rw [hG s hs, bI_congr (eqv s hs)]) n 0 (Nat.zero_add _) (fun j hj => absurd hj (Nat.not_lt_zero j))
      · have m : MapI h D n ST FR BY DP LD K KD := m0.fr hf (fun c p q => by unfold PMAP; omega)
        refine s_X1_firstWithoutWayTo_50 ?_
        simp (disch := first | assumption | omega) only [true_and, and_true, forall_eq, true_implies, false_implies, implies_true, not_true_eq_false, not_false_eq_true, false_and, and_false, ne_eq, ite_true, ite_false, Nat.reduceLeDiff, Nat.reduceEqDiff, Nat.reduceLT, Nat.reduceAdd, Nat.reduceMul, Nat.reduceSub, Nat.le_refl, eq_self, li_0, li_1, li_2, li_3, li_4, li_5, li_6, li_7, li_8, li_9, li_10, li_11, li_12, li_13, li_14, li_15, li_16, li_17, li_18, li_19, li_20, li_21, li_22, li_23, li_24, li_25, li_26, li_27, li_28, li_29, li_30, li_31, li_32, li_44, li_48, li_57, li_59, li_60, li_61, li_62, li_63, li_97, li_100, li_122, li_123, li_125, li_127, li_255, li_400, li_401, li_800, li_1023, li_1024, li_10827, i_add, i_mul, i_sub, i_p1, i_m1, i_nm, i_nm2, i_cl, i_cl0, vi_ok, i_lt, i_le, i_eq, lg_e, c, show ¬ 400 < k by omega, is_74]
        refine k_markMore hr m hG (fun h' G2 r2 r' f' g' p => ?_)
        (try simp (disch := first | assumption | omega) only [true_and, and_true, forall_eq, true_implies, false_implies, implies_true, not_true_eq_false, not_false_eq_true, false_and, and_false, ne_eq, ite_true, ite_false, Nat.reduceLeDiff, Nat.reduceEqDiff, Nat.reduceLT, Nat.reduceAdd, Nat.reduceMul, Nat.reduceSub, Nat.le_refl, eq_self, li_0, li_1, li_2, li_3, li_4, li_5, li_6, li_7, li_8, li_9, li_10, li_11, li_12, li_13, li_14, li_15, li_16, li_17, li_18, li_19, li_20, li_21, li_22, li_23, li_24, li_25, li_26, li_27, li_28, li_29, li_30, li_31, li_32, li_44, li_48, li_57, li_59, li_60, li_61, li_62, li_63, li_97, li_100, li_122, li_123, li_125, li_127, li_255, li_400, li_401, li_800, li_1023, li_1024, li_10827, i_add, i_mul, i_sub, i_p1, i_m1, i_nm, i_nm2, i_cl, i_cl0, vi_ok, i_lt, i_le, i_eq, lg_e])
        refine ih (k + 1) (by omega) h' G2 r2 r' (hf.trans f') g' (fun s hs2 hw => p.2.1 s hs2 (hb s hs2 hw)) (reach_pass p hs) ?_ (fun z => ?_) (by have := p.1; omega)
        · rcases p.1 with z | z
          · have q := pops_congr n ((p.2.2.2.1 z).1)
            omega
          · have := p.2.2.2.2 z
            omega
        · intro s hs2 h3
          refine ((p.2.2.2.1 z).1 s hs2).2 ((p.2.2.2.1 z).2 s (Nat.zero_le s) hs2 ?_)
          obtain ⟨a, a1, a2, a3⟩ := h3
          exact ⟨a, a1, a2, ((p.2.2.2.1 z).1 _ ((mapC_lead m hs2 (show a < 27 by omega)).1 a2).1).1 a3⟩
  have init : ∀ d i, i + d = n → ∀ h, Refs h → Fr (fun c _ => c = 92) h0 h → (∀ s, s < i → h.1 92 s = Int32.ofNat (bI (topIs ST w s))) → L_X1_firstWithoutWayTo_2 l g h 74 (Int32.ofNat w) (Int32.ofNat i) Q := by
    intro d
    induction d with
    | zero =>
      intro i hi h hr hf hG
      have e75 : h.1 75 0 = Int32.ofNat n := by rw [(hf 75 0 (by decide)).1]; exact m0.2.2.1.1.1
      refine s_X1_firstWithoutWayTo_2 ?_
      simp (disch := first | assumption | omega) only [true_and, and_true, forall_eq, true_implies, false_implies, implies_true, not_true_eq_false, not_false_eq_true, false_and, and_false, ne_eq, ite_true, ite_false, Nat.reduceLeDiff, Nat.reduceEqDiff, Nat.reduceLT, Nat.reduceAdd, Nat.reduceMul, Nat.reduceSub, Nat.le_refl, eq_self, li_0, li_1, li_2, li_3, li_4, li_5, li_6, li_7, li_8, li_9, li_10, li_11, li_12, li_13, li_14, li_15, li_16, li_17, li_18, li_19, li_20, li_21, li_22, li_23, li_24, li_25, li_26, li_27, li_28, li_29, li_30, li_31, li_32, li_44, li_48, li_57, li_59, li_60, li_61, li_62, li_63, li_97, li_100, li_122, li_123, li_125, li_127, li_255, li_400, li_401, li_800, li_1023, li_1024, li_10827, i_add, i_mul, i_sub, i_p1, i_m1, i_nm, i_nm2, i_cl, i_cl0, vi_ok, i_lt, i_le, i_eq, lg_e, rf_74_2, rf_74_3, rf_74_4, rf_74_6, rf_74_7, rf_74_8, is_74, is_75, sz_75, is_82, sz_82, is_83, sz_83, is_90, sz_90, is_91, sz_91, is_92, sz_92, e75, show n ≤ i by omega]
      exact outer 401 0 rfl h (topIs ST w) 1 hr hf (fun s hs => hG s (by omega)) (fun _ _ z => z) (fun s hs z P p1 p2 => p2 s hs z) (Nat.zero_le _) (fun z => absurd z (by decide)) (Nat.le_refl 1)
    | succ d ih =>
      intro i hi h hr hf hG
      have e75 : h.1 75 0 = Int32.ofNat n := by rw [(hf 75 0 (by decide)).1]; exact m0.2.2.1.1.1
      have e76 : h.2.1 76 i = Int64.ofNat (en (ST i)) := by rw [(hf 76 i (by omega)).2.1]; exact (m0.2.2.1.1.2.2.1 i (by omega)).1
      refine s_X1_firstWithoutWayTo_2 ?_
      simp (disch := first | assumption | omega) only [true_and, and_true, forall_eq, true_implies, false_implies, implies_true, not_true_eq_false, not_false_eq_true, false_and, and_false, ne_eq, ite_true, ite_false, Nat.reduceLeDiff, Nat.reduceEqDiff, Nat.reduceLT, Nat.reduceAdd, Nat.reduceMul, Nat.reduceSub, Nat.le_refl, eq_self, li_0, li_1, li_2, li_3, li_4, li_5, li_6, li_7, li_8, li_9, li_10, li_11, li_12, li_13, li_14, li_15, li_16, li_17, li_18, li_19, li_20, li_21, li_22, li_23, li_24, li_25, li_26, li_27, li_28, li_29, li_30, li_31, li_32, li_44, li_48, li_57, li_59, li_60, li_61, li_62, li_63, li_97, li_100, li_122, li_123, li_125, li_127, li_255, li_400, li_401, li_800, li_1023, li_1024, li_10827, i_add, i_mul, i_sub, i_p1, i_m1, i_nm, i_nm2, i_cl, i_cl0, vi_ok, i_lt, i_le, i_eq, lg_e, rf_74_2, rf_74_3, rf_74_4, rf_74_6, rf_74_7, rf_74_8, is_74, is_75, sz_75, is_82, sz_82, is_83, sz_83, is_90, sz_90, is_91, sz_91, is_92, sz_92, rf_75_1, rf_75_2, rf_75_3, rf_75_4, rf_75_5, rf_75_6, is_75, is_76, sz_76, is_77, sz_77, is_78, sz_78, is_79, sz_79, is_80, sz_80, is_81, sz_81, e75, e76, show ¬ n ≤ i by omega, nar_b1, nar_b0]
      have nx : ∀ v : Nat, v = bI (topIs ST w i) → L_X1_firstWithoutWayTo_2 l g (ax_setI h 92 i (Int32.ofNat v)) 74 (Int32.ofNat w) (Int32.ofNat (i + 1)) Q := by
        intro v ev
        refine ih (i + 1) (by omega) _ hr.setI (hf.setI rfl) (fun s hs => ?_)
        by_cases c : s = i
        · rw [gI_t rfl c, c, ev]
        · rw [gI_p c]; exact hG s (by omega)
      refine q_X3_topOf (m0.1.2.2.1 i (by omega)) ⟨fun z => nx 0 (bI_f (p := topIs ST w i) z).symm, fun z => nx 1 (bI_t (p := topIs ST w i) z).symm⟩
  exact c_X1_firstWithoutWayTo (s_X1_firstWithoutWayTo_0 (init n 0 (Nat.zero_add _) h0 hr0 (Fr.refl _ _) (fun s hs => absurd hs (Nat.not_lt_zero s))))
