def PAp (c p : Nat) : Prop := PAl c p ∨ (146 ≤ c ∧ c ≤ 151) ∨ (c = 103 ∧ p = 43)
theorem PAp_no {c p : Nat} (h : PAp c p) : (130 ≤ c ∧ c ≤ 132) ∨ (146 ≤ c ∧ c ≤ 153) ∨ (c = 103 ∧ (p = 19 ∨ p = 20 ∨ p = 43 ∨ (50 ≤ p ∧ p ≤ 53))) := by
  rcases h with h | h
  · have := PAl_no h; omega
  · omega
/-- what the model does at the end -/
def MEnd (l : Launch) (g : AG) (h0 : AH) (D E : AD) (e J : Nat) (Q : Int32 → AH → Prop) : Prop := (e = 0 → ∀ h', Refs h' → Fr PAp h0 h' → h'.1 103 43 = Int32.ofNat (pbN D E J).1 → C_X12_done l g h' 103 (-2) Q) ∧ (e = 1 → ∀ h', Refs h' → Fr PAp h0 h' → MP h' (pbN D E J) → C_X12_rowOf l g h' 103 (Int32.ofNat (J / 27)) (Int32.ofNat (J % 27)) Q) ∧ (e = 2 → ∀ h', Refs h' → Fr PAp h0 h' → h'.1 103 43 = Int32.ofNat 400 → C_X12_refused l g h' 103 5 Q) ∧ (e = 3 → ∀ h', Refs h' → Fr PAp h0 h' → MP h' (pbN D E (J + 1)) → C_X12_rowOf l g h' 103 (Int32.ofNat (pbN D E J).1) (-1) Q) ∧ (e = 4 → ∀ h', Refs h' → Fr PAp h0 h' → MP h' (pbN D E J) → C_X12_rowOf l g h' 103 (Int32.ofNat (J / 27 - 1)) (Int32.ofNat 125) Q)
theorem MP_add {h h' : AH} {B : PT3} {k a : Nat} {T V : AS} (mp : MP h B) (hB : 0 < B.1) (e43 : h'.1 103 43 = Int32.ofNat (B.1 + 1)) (v1 : h'.2.1 146 B.1 = Int64.ofNat (ea T 5)) (v2 : h'.2.1 147 B.1 = Int64.ofNat (eb T.2.2.2.2 6)) (v3 : h'.2.1 148 B.1 = Int64.ofNat (ea V 5)) (v4 : h'.2.1 149 B.1 = Int64.ofNat (eb V.2.2.2.2 6)) (v5 : h'.1 150 B.1 = Int32.ofNat k) (v6 : h'.1 151 B.1 = Int32.ofNat a) (ha : a < 27) (o : ∀ c i, i ≠ B.1 → c ≠ 103 → h'.1 c i = h.1 c i ∧ h'.2.1 c i = h.2.1 c i) : MP h' (pbAdd B (27 * k + a) T V) := by
  have e1 : (27 * k + a) / 27 = k := by omega
  have e2 : (27 * k + a) % 27 = a := by omega
  refine ⟨e43, fun i hi => ?_⟩
  have hi2 : i < B.1 + 1 := hi
  show _ = Int64.ofNat (ea (upS B.2.1 B.1 T i) 5) ∧ _ = Int64.ofNat (eb (upS B.2.1 B.1 T i).2.2.2.2 6) ∧ _ = Int64.ofNat (ea (upS B.2.2.1 B.1 V i) 5) ∧ _ = Int64.ofNat (eb (upS B.2.2.1 B.1 V i).2.2.2.2 6) ∧ _ = (if i = 0 then -1 else Int32.ofNat (nup B.2.2.2.1 B.1 ((27 * k + a) / 27) i)) ∧ (0 < i → _ = Int32.ofNat (nup B.2.2.2.2.1 B.1 ((27 * k + a) % 27) i))
  rw [e1, e2]
  by_cases c : i = B.1
  · rw [c, upS_s, upS_s, nup_s, nup_s, if_neg (by omega)]
    exact ⟨v1, v2, v3, v4, v5, fun _ => v6⟩
  · rw [upS_n c, upS_n c, nup_n c, nup_n c, (o 146 i c (by decide)).2, (o 147 i c (by decide)).2, (o 148 i c (by decide)).2, (o 149 i c (by decide)).2, (o 150 i c (by decide)).1, (o 151 i c (by decide)).1]
    exact mp.2 i (by omega)
theorem k_apart {l : Launch} {g : AG} {h0 : AH} {X Y : Nat → Nat} {D E : AD} {e J : Nat} {Q : Int32 → AH → Prop} (hA0 : IA h0 X Y) (hD : WfD D) (hE : WfD E) (hB0 : RepB h0 (Y 0) D) (hC0 : RepB h0 (Y 1) E) (hend : pbEnd D E e J) (hq : MEnd l g h0 D E e J Q) : ∀ m k, 27 * k + m = J ∨ (27 * k ≤ J ∧ J - 27 * k ≤ m) → ∀ h, Refs h → Fr PAp h0 h → 27 * k ≤ J → ¬ (e = 4 ∧ 27 * k = J) → e ≠ 5 → MP h (pbN D E (27 * k)) → L_X12_apart_116 l g h 103 (Y 0) (Y 1) (Int32.ofNat k) Q := by
  have hy := hA0.isy (show 0 < 2 by omega)
  have hz := hA0.isy (show 1 < 2 by omega)
  have hyu : Y 0 = 105 ∨ Y 0 = 154 ∨ Y 0 = 174 := hy
  have hzu : Y 1 = 105 ∨ Y 1 = 154 ∨ Y 1 = 174 := hz
  obtain ⟨m0, m1, m2, m3, m4⟩ := hq
  have hok : e ≠ 5 → pbOK D E J := by
    intro n5
    rcases hend with z | z | z | z | z | z
    · exact z.2.1
    · exact z.2.1
    · exact z.2.1
    · exact z.2.1
    · exact z.2.1
    · exact absurd z.1 n5
  have rdA : ∀ h, Fr PAp h0 h → IA h X Y := fun h f => hA0.fr f (fun c p q => by have := PAp_no q; omega)
  have rdB : ∀ h, Fr PAp h0 h → RepB h (Y 0) D := fun h f => hB0.fr f (fun c p h1 h2 q => by have := PAp_no q; omega)
  have rdC : ∀ h, Fr PAp h0 h → RepB h (Y 1) E := fun h f => hC0.fr f (fun c p h1 h2 q => by have := PAp_no q; omega)
  intro m
  induction m using Nat.strongRecOn with
  | ind m ihm =>
  intro k hkm h hr hf hkJ n4 n5 mp
  have ok := hok n5
  have okj : ∀ j, j ≤ J → pbOK D E j := fun j hj => ⟨ok.1, fun i hi => ok.2.1 i (by omega), fun u hu => ok.2.2 u (by omega)⟩
  have w := pbW_all hD hE _ (okj _ hkJ)
  have h400 := w.2.1
  refine s_X12_apart_116 ?_
  rw [mp.1]
  by_cases c0 : e = 0 ∧ 27 * k = J
  · obtain ⟨ce, cj⟩ := c0
    have en : J = 27 * (pbN D E J).1 := by
      rcases hend with z | z | z | z | z | z
      · exact z.2.2.1
      all_goals omega
    have ek : (pbN D E (27 * k)).1 = k := by rw [cj]; omega
    rw [ek]
    refine ⟨is_103, fun _ => m0 ce h hr hf ?_, fun c => absurd ((i_le (by omega) (by omega)).2 (Nat.le_refl k)) c⟩
    rw [← cj]; exact mp.1
  have hkn : k < (pbN D E (27 * k)).1 := by
    by_cases c : 27 * k < J
    · have := (ok.2.1 (27 * k) c).1
      omega
    · have hj : 27 * k = J := by omega
      have : J / 27 < (pbN D E J).1 := by
        rcases hend with z | z | z | z | z | z
        · exact absurd ⟨z.1, hj⟩ c0
        · exact z.2.2.2.1
        · exact z.2.2.2.1
        · exact z.2.2.2.1
        · exact absurd ⟨z.1, hj⟩ n4
        · exact absurd z.1 n5
      rw [← hj] at this
      omega
  obtain ⟨wS, wU, al⟩ := w.2.2.1 k hkn
  have v := mp.2 k hkn
  simp (disch := first | assumption | omega) only [true_and, and_true, forall_eq, true_implies, false_implies, implies_true, not_true_eq_false, not_false_eq_true, false_and, and_false, ne_eq, ite_true, ite_false, Nat.reduceLeDiff, Nat.reduceEqDiff, Nat.reduceLT, Nat.reduceAdd, Nat.reduceMul, Nat.reduceSub, Nat.le_refl, eq_self, li_0, li_1, li_2, li_3, li_4, li_5, li_6, li_7, li_8, li_9, li_10, li_11, li_12, li_13, li_14, li_15, li_16, li_17, li_18, li_19, li_20, li_21, li_22, li_23, li_24, li_25, li_26, li_27, li_28, li_29, li_30, li_31, li_32, li_44, li_48, li_57, li_59, li_60, li_61, li_62, li_63, li_97, li_100, li_122, li_123, li_125, li_127, li_255, li_400, li_401, li_800, li_1023, li_1024, li_10827, i_add, i_mul, i_sub, i_p1, i_m1, i_nm, i_nm2, i_cl, i_cl0, vi_ok, i_lt, i_le, i_eq, lg_e, rf_103_4, rf_103_6, rf_103_7, rf_103_8, rf_103_9, rf_103_10, rf_103_21, rf_103_22, rf_103_23, rf_103_26, rf_103_27, rf_103_28, rf_103_29, rf_103_30, rf_103_31, rf_103_32, rf_103_33, rf_103_34, rf_103_35, rf_103_37, rf_103_38, rf_103_39, rf_103_44, rf_103_45, rf_103_46, rf_103_47, rf_103_48, rf_103_49, rf_103_54, rf_103_55, is_103, is_104, sz_104, is_125, sz_125, is_126, sz_126, is_127, sz_127, is_128, sz_128, is_129, sz_129, is_130, sz_130, is_131, sz_131, is_132, sz_132, is_133, sz_133, is_134, sz_134, is_135, sz_135, is_136, sz_136, is_137, sz_137, is_138, sz_138, is_139, sz_139, is_140, sz_140, is_141, sz_141, is_142, sz_142, is_143, sz_143, is_144, sz_144, is_145, sz_145, is_146, sz_146, is_147, sz_147, is_148, sz_148, is_149, sz_149, is_150, sz_150, is_151, sz_151, is_152, sz_152, is_153, sz_153, v.1, v.2.1, show ¬ (pbN D E (27 * k)).1 ≤ k by omega, isB_x hy]
  refine k_X12_unpack hr wS (fun h1 f1 s1 => ?_)
  have r1 := f1.refs hr
  have ff1 : Fr PAp h0 h1 := hf.trans (f1.fr.mono (fun c p q => Or.inl (Or.inl q)))
  refine k_X12_possible r1 hy wS s1 hD (rdB h1 ff1) ?_
  have v3 : h1.2.1 148 k = Int64.ofNat (ea ((pbN D E (27 * k)).2.2.1 k) 5) := by rw [f1.1]; exact v.2.2.1
  have v4 : h1.2.1 149 k = Int64.ofNat (eb ((pbN D E (27 * k)).2.2.1 k).2.2.2.2 6) := by rw [f1.1]; exact v.2.2.2.1
  (try simp (disch := first | assumption | omega) only [true_and, and_true, forall_eq, true_implies, false_implies, implies_true, not_true_eq_false, not_false_eq_true, false_and, and_false, ne_eq, ite_true, ite_false, Nat.reduceLeDiff, Nat.reduceEqDiff, Nat.reduceLT, Nat.reduceAdd, Nat.reduceMul, Nat.reduceSub, Nat.le_refl, eq_self, li_0, li_1, li_2, li_3, li_4, li_5, li_6, li_7, li_8, li_9, li_10, li_11, li_12, li_13, li_14, li_15, li_16, li_17, li_18, li_19, li_20, li_21, li_22, li_23, li_24, li_25, li_26, li_27, li_28, li_29, li_30, li_31, li_32, li_44, li_48, li_57, li_59, li_60, li_61, li_62, li_63, li_97, li_100, li_122, li_123, li_125, li_127, li_255, li_400, li_401, li_800, li_1023, li_1024, li_10827, i_add, i_mul, i_sub, i_p1, i_m1, i_nm, i_nm2, i_cl, i_cl0, vi_ok, i_lt, i_le, i_eq, lg_e, rf_103_4, rf_103_6, rf_103_7, rf_103_8, rf_103_9, rf_103_10, rf_103_21, rf_103_22, rf_103_23, rf_103_26, rf_103_27, rf_103_28, rf_103_29, rf_103_30, rf_103_31, rf_103_32, rf_103_33, rf_103_34, rf_103_35, rf_103_37, rf_103_38, rf_103_39, rf_103_44, rf_103_45, rf_103_46, rf_103_47, rf_103_48, rf_103_49, rf_103_54, rf_103_55, is_103, is_104, sz_104, is_125, sz_125, is_126, sz_126, is_127, sz_127, is_128, sz_128, is_129, sz_129, is_130, sz_130, is_131, sz_131, is_132, sz_132, is_133, sz_133, is_134, sz_134, is_135, sz_135, is_136, sz_136, is_137, sz_137, is_138, sz_138, is_139, sz_139, is_140, sz_140, is_141, sz_141, is_142, sz_142, is_143, sz_143, is_144, sz_144, is_145, sz_145, is_146, sz_146, is_147, sz_147, is_148, sz_148, is_149, sz_149, is_150, sz_150, is_151, sz_151, is_152, sz_152, is_153, sz_153, v3, v4, isB_x hz])
  refine k_X12_unpack r1 wU (fun h2 f2 s2 => ?_)
  have r2 := f2.refs r1
  have ff2 : Fr PAp h0 h2 := ff1.trans (f2.fr.mono (fun c p q => Or.inl (Or.inl q)))
  (try simp (disch := first | assumption | omega) only [true_and, and_true, forall_eq, true_implies, false_implies, implies_true, not_true_eq_false, not_false_eq_true, false_and, and_false, ne_eq, ite_true, ite_false, Nat.reduceLeDiff, Nat.reduceEqDiff, Nat.reduceLT, Nat.reduceAdd, Nat.reduceMul, Nat.reduceSub, Nat.le_refl, eq_self, li_0, li_1, li_2, li_3, li_4, li_5, li_6, li_7, li_8, li_9, li_10, li_11, li_12, li_13, li_14, li_15, li_16, li_17, li_18, li_19, li_20, li_21, li_22, li_23, li_24, li_25, li_26, li_27, li_28, li_29, li_30, li_31, li_32, li_44, li_48, li_57, li_59, li_60, li_61, li_62, li_63, li_97, li_100, li_122, li_123, li_125, li_127, li_255, li_400, li_401, li_800, li_1023, li_1024, li_10827, i_add, i_mul, i_sub, i_p1, i_m1, i_nm, i_nm2, i_cl, i_cl0, vi_ok, i_lt, i_le, i_eq, lg_e, isB_x hz])
  refine k_X12_possible r2 hz wU s2 hE (rdC h2 ff2) ?_
  have mp2 : MP h2 (pbN D E (27 * k)) := (mp.fr f1.fr (fun c p q => by unfold PS at q; omega)).fr f2.fr (fun c p q => by unfold PS at q; omega)
  revert wS wU al
  generalize hSe : (pbN D E (27 * k)).2.1 k = S
  generalize hUe : (pbN D E (27 * k)).2.2.1 k = U
  intro wS wU al
  have inner : ∀ d a, a + d = 27 → 27 * k + a ≤ J → ¬ (e = 4 ∧ 27 * k + a = J ∧ a < 27) → ∀ h, Refs h → Fr PAp h0 h → MP h (pbN D E (27 * k + a)) → L_X12_apart_176 l g h 103 (Y 0) (Y 1) (Int32.ofNat k) (Int32.ofNat (bsum (possD D S) 27)) (Int32.ofNat (bsum (possD E U) 27)) (Int32.ofNat (bsum (NS D E S U a) 27)) (Int32.ofNat a) Q := by
    intro d
    induction d with
    | zero =>
      intro a ha haJ _ h hr hf mp
      have : a = 27 := by omega
      subst this
      have ea27 : 27 * k + 27 = 27 * (k + 1) := by omega
      rw [ea27] at haJ mp
      have stk := pbN_ST hkn 27
      rw [ea27, hSe, hUe] at stk
      have bA := bsum_lt (possD E U) 27
      have eal : Int32.ofNat (bsum (possD E U) 27) &&& (Int32.ofNat (bsum (NS D E S U 27) 27) ^^^ (-1)) = Int32.ofNat (bsum (fun c => possD E U c ∧ ¬ NS D E S U 27 c) 27) := by
        rw [show (-1 : Int32) = Int32.ofNat 4294967295 from rfl, i_xor, i_and, n_andnot]
      have econ : bsum (fun c => possD E U c ∧ ¬ NS D E S U 27 c) 27 = bsum (fun c => c = 25 ∧ possD E U 25 ∧ ¬ possD D S 25) 27 := bsum_congr 27 (fun c hc => alone_iff hD hE wS wU al c hc)
      refine s_X12_apart_176 ⟨fun _ => ?_, fun z => absurd (by decide) z⟩
      rw [eal, econ]
      intro v97 e97
      rw [e97]
      by_cases c4 : possD E U 25 ∧ ¬ possD D S 25
      · have e25 : bsum (fun c => c = 25 ∧ possD E U 25 ∧ ¬ possD D S 25) 27 = bsum (fun c => c = 25) 27 := bsum_congr 27 (fun c hc => ⟨fun z => z.1, fun z => ⟨z, c4⟩⟩)
        rw [e25]
        have e4 : pbE4 D E (pbN D E (27 * (k + 1))) k := by
          unfold pbE4
          rw [stk.1, stk.2]; exact c4
        have hJe : e = 4 ∧ J = 27 * (k + 1) := by
          by_cases cc : 27 * (k + 1) < J
          · exact absurd e4 (ok.2.2 k cc)
          · have hj : 27 * (k + 1) = J := by omega
            rw [hj] at e4
            rcases hend with z | z | z | z | z | z
            · exact absurd e4 (z.2.2.2 k hj)
            · exact absurd e4 (z.2.2.1 k hj)
            · exact absurd e4 (z.2.2.1 k hj)
            · exact absurd e4 (z.2.2.1 k hj)
            · exact ⟨z.1, hj.symm⟩
            · exact absurd z.1 n5
        have ne : ¬ Int32.ofNat (bsum (fun c => c = 25) 27) = 0 := by rw [bsum_one 27 (by omega)]; decide
        refine ⟨fun _ => ?_, fun z => absurd z ne⟩
        have find : ∀ d2 c, c + d2 = 25 → L_X12_apart_499 l g h 103 (Int32.ofNat k) (Int32.ofNat (bsum (fun c => c = 25) 27)) (Int32.ofNat c) Q := by
          intro d2
          induction d2 with
          | zero =>
            intro c hc
            have : c = 25 := by omega
            subst this
            refine s_X12_apart_499 ?_
            rw [show (1 : Int32) = Int32.ofNat 1 from rfl, i_bit (show 25 < 27 by omega), bI_t rfl]
            refine ⟨fun _ => ⟨is_103, ?_⟩, fun z => absurd z (by decide)⟩
            have := m4 hJe.1 h hr hf (by rw [hJe.2]; exact mp)
            rw [hJe.2, show 27 * (k + 1) / 27 - 1 = k by omega] at this
            exact this
          | succ d2 ih3 =>
            intro c hc
            refine s_X12_apart_499 ?_
            simp (disch := first | assumption | omega) only [true_and, and_true, forall_eq, true_implies, false_implies, implies_true, not_true_eq_false, not_false_eq_true, false_and, and_false, ne_eq, ite_true, ite_false, Nat.reduceLeDiff, Nat.reduceEqDiff, Nat.reduceLT, Nat.reduceAdd, Nat.reduceMul, Nat.reduceSub, Nat.le_refl, eq_self, li_0, li_1, li_2, li_3, li_4, li_5, li_6, li_7, li_8, li_9, li_10, li_11, li_12, li_13, li_14, li_15, li_16, li_17, li_18, li_19, li_20, li_21, li_22, li_23, li_24, li_25, li_26, li_27, li_28, li_29, li_30, li_31, li_32, li_44, li_48, li_57, li_59, li_60, li_61, li_62, li_63, li_97, li_100, li_122, li_123, li_125, li_127, li_255, li_400, li_401, li_800, li_1023, li_1024, li_10827, i_add, i_mul, i_sub, i_p1, i_m1, i_nm, i_nm2, i_cl, i_cl0, vi_ok, i_lt, i_le, i_eq, lg_e, i_bit (show c < 27 by omega), bI_f (show ¬ c = 25 by omega)]
            exact ih3 (c + 1) (by omega)
        exact find 25 0 rfl
      · have e0 : bsum (fun c => c = 25 ∧ possD E U 25 ∧ ¬ possD D S 25) 27 = 0 := by
          rw [bsum_none (m := 0) 27 (fun c _ z => c4 z.2) (Nat.zero_le _)]
          rfl
        rw [e0]
        refine ⟨fun z => absurd rfl z, fun _ => ?_⟩
        intro v100 e100
        rw [e100, i_p1]
        refine ihm (J - 27 * (k + 1)) (by omega) (k + 1) (Or.inr ⟨by omega, Nat.le_refl _⟩) h hr hf (by omega) (fun ⟨z1, z2⟩ => ?_) n5 mp
        rcases hend with z | z | z | z | z | z
        · omega
        · omega
        · omega
        · omega
        · obtain ⟨u, u1, u2⟩ := z.2.2
          have : u = k := by omega
          subst this
          unfold pbE4 at u2
          rw [u1, stk.1, stk.2] at u2
          exact c4 u2
        · omega
    | succ d ih =>
      intro a ha haJ na4 h hr hf mp
      have ej1 : (27 * k + a) / 27 = k := by omega
      have ej2 : (27 * k + a) % 27 = a := by omega
      have wj := pbW_all hD hE _ (okj _ haJ)
      have mono := pbN_mono D E (show 27 * k ≤ 27 * k + a by omega)
      have hkj : k < (pbN D E (27 * k + a)).1 := by omega
      have hj4 := wj.2.1
      have stk := pbN_ST hkn a
      rw [hSe, hUe] at stk
      have eN : pbN D E (27 * k + a + 1) = pb1 D E (pbN D E (27 * k + a)) (27 * k + a) := rfl
      have rdA' := rdA h hf
      -- going on: no end here
      have go : ¬ pbE1 D E (pbN D E (27 * k + a)) (27 * k + a) → ¬ pbE2 D E (pbN D E (27 * k + a)) (27 * k + a) → ¬ pbE3 D E (pbN D E (27 * k + a)) (27 * k + a) → 27 * k + a < J := by
        intro g1 g2 g3
        rcases Nat.lt_or_ge (27 * k + a) J with z | z
        · exact z
        · have hj : 27 * k + a = J := by omega
          rw [hj] at g1 g2 g3
          rcases hend with z | z | z | z | z | z
          · have ze := z.1
            have := z.2.2.1
            have ha0 : a = 0 := by omega
            exact absurd ⟨ze, by omega⟩ c0
          · exact absurd z.2.2.2.2 g1
          · exact absurd z.2.2.2.2 g2
          · exact absurd z.2.2.2.2 g3
          · exact absurd ⟨z.1, hj, by omega⟩ na4
          · exact absurd z.1 n5
      have nx : ∀ h', 27 * k + a < J → Refs h' → Fr PAp h0 h' → MP h' (pbN D E (27 * k + a + 1)) → L_X12_apart_176 l g h' 103 (Y 0) (Y 1) (Int32.ofNat k) (Int32.ofNat (bsum (possD D S) 27)) (Int32.ofNat (bsum (possD E U) 27)) (Int32.ofNat (bsum (NS D E S U (a + 1)) 27)) (Int32.ofNat (a + 1)) Q := fun h' hlt r' f' mp' => ih (a + 1) (by omega) (by omega) (fun ⟨z1, z2, z3⟩ => by
        rcases hend with z | z | z | z | z | z
        · omega
        · omega
        · omega
        · omega
        · obtain ⟨u, u1, u2⟩ := z.2.2
          omega
        · omega) h' r' f' mp'
      have u1 : possD D ((pbN D E (27 * k + a)).2.1 ((27 * k + a) / 27)) ((27 * k + a) % 27) ↔ possD D S a := by rw [ej1, ej2, stk.1]
      refine s_X12_apart_176 ?_
      have vk := mp.2 k hkj
      rw [stk.1, stk.2] at vk
      simp (disch := first | assumption | omega) only [true_and, and_true, forall_eq, true_implies, false_implies, implies_true, not_true_eq_false, not_false_eq_true, false_and, and_false, ne_eq, ite_true, ite_false, Nat.reduceLeDiff, Nat.reduceEqDiff, Nat.reduceLT, Nat.reduceAdd, Nat.reduceMul, Nat.reduceSub, Nat.le_refl, eq_self, li_0, li_1, li_2, li_3, li_4, li_5, li_6, li_7, li_8, li_9, li_10, li_11, li_12, li_13, li_14, li_15, li_16, li_17, li_18, li_19, li_20, li_21, li_22, li_23, li_24, li_25, li_26, li_27, li_28, li_29, li_30, li_31, li_32, li_44, li_48, li_57, li_59, li_60, li_61, li_62, li_63, li_97, li_100, li_122, li_123, li_125, li_127, li_255, li_400, li_401, li_800, li_1023, li_1024, li_10827, i_add, i_mul, i_sub, i_p1, i_m1, i_nm, i_nm2, i_cl, i_cl0, vi_ok, i_lt, i_le, i_eq, lg_e, show ¬ 27 ≤ a by omega, i_bit (show a < 27 by omega), bI_ez, rf_103_4, rf_103_6, rf_103_7, rf_103_8, rf_103_9, rf_103_10, rf_103_21, rf_103_22, rf_103_23, rf_103_26, rf_103_27, rf_103_28, rf_103_29, rf_103_30, rf_103_31, rf_103_32, rf_103_33, rf_103_34, rf_103_35, rf_103_37, rf_103_38, rf_103_39, rf_103_44, rf_103_45, rf_103_46, rf_103_47, rf_103_48, rf_103_49, rf_103_54, rf_103_55, is_103, is_104, sz_104, is_125, sz_125, is_126, sz_126, is_127, sz_127, is_128, sz_128, is_129, sz_129, is_130, sz_130, is_131, sz_131, is_132, sz_132, is_133, sz_133, is_134, sz_134, is_135, sz_135, is_136, sz_136, is_137, sz_137, is_138, sz_138, is_139, sz_139, is_140, sz_140, is_141, sz_141, is_142, sz_142, is_143, sz_143, is_144, sz_144, is_145, sz_145, is_146, sz_146, is_147, sz_147, is_148, sz_148, is_149, sz_149, is_150, sz_150, is_151, sz_151, is_152, sz_152, is_153, sz_153, vk.2.2.1, vk.2.2.2.1, isB_x hy, isB_x hz]
      refine ⟨fun p => ?_, fun p => ?_⟩
      · have p := Classical.not_not.1 p
        refine k_X12_unpack hr wU (fun h1 f1 s1 => ?_)
        have r1 := f1.refs hr
        have ff1 : Fr PAp h0 h1 := hf.trans (f1.fr.mono (fun c p q => Or.inl (Or.inl q)))
        (try simp (disch := first | assumption | omega) only [true_and, and_true, forall_eq, true_implies, false_implies, implies_true, not_true_eq_false, not_false_eq_true, false_and, and_false, ne_eq, ite_true, ite_false, Nat.reduceLeDiff, Nat.reduceEqDiff, Nat.reduceLT, Nat.reduceAdd, Nat.reduceMul, Nat.reduceSub, Nat.le_refl, eq_self, li_0, li_1, li_2, li_3, li_4, li_5, li_6, li_7, li_8, li_9, li_10, li_11, li_12, li_13, li_14, li_15, li_16, li_17, li_18, li_19, li_20, li_21, li_22, li_23, li_24, li_25, li_26, li_27, li_28, li_29, li_30, li_31, li_32, li_44, li_48, li_57, li_59, li_60, li_61, li_62, li_63, li_97, li_100, li_122, li_123, li_125, li_127, li_255, li_400, li_401, li_800, li_1023, li_1024, li_10827, i_add, i_mul, i_sub, i_p1, i_m1, i_nm, i_nm2, i_cl, i_cl0, vi_ok, i_lt, i_le, i_eq, lg_e, isB_x hy, isB_x hz])
        refine k_sameAct r1 hy hz hD hE (rdB h1 ff1) (rdC h1 ff1) wU s1 p (fun c hc => ?_) (fun hn => ?_)
        · have ip := its_poss hE hc
          have G : pbG D E (pbN D E (27 * k + a)) (27 * k + a) (stepD D S a) (stepD E U c) := ⟨u1.2 p, by rw [ej1, ej2, stk.1], c, by rw [ej1, ej2, stk.2]; exact hc, by rw [ej1, stk.2]⟩
          have nE1 : ¬ pbE1 D E (pbN D E (27 * k + a)) (27 * k + a) := fun z => z.2 ⟨c, by rw [ej1, ej2, stk.2]; exact hc⟩
          have wT := ws_stepD hD wS p
          have wV := ws_stepD hE wU ip.1
          refine ⟨fun _ => ?_, fun z => absurd z (i_ne (by omega))⟩
          have enm : Int32.ofNat (bsum (NS D E S U a) 27) ||| jishl (Int32.ofNat 1) (Int32.ofNat c) = Int32.ofNat (bsum (NS D E S U (a + 1)) 27) := by
            rw [i_shl _ (by omega), Nat.one_mul, i_or, ← bsum_one 27 ip.2, bsum_join]
            exact congrArg Int32.ofNat (bsum_congr 27 (fun x hx => ⟨fun z => by
              rcases z with ⟨b, b1, b2, b3⟩ | z
              · exact ⟨b, by omega, b2, b3⟩
              · rw [z]; exact ⟨a, by omega, p, hc⟩, fun ⟨b, b1, b2, b3⟩ => by
              by_cases e : b = a
              · subst e; exact Or.inr (its_un hE b3 hc)
              · exact Or.inl ⟨b, by omega, b2, b3⟩⟩))
          (try simp (disch := first | assumption | omega) only [true_and, and_true, forall_eq, true_implies, false_implies, implies_true, not_true_eq_false, not_false_eq_true, false_and, and_false, ne_eq, ite_true, ite_false, Nat.reduceLeDiff, Nat.reduceEqDiff, Nat.reduceLT, Nat.reduceAdd, Nat.reduceMul, Nat.reduceSub, Nat.le_refl, eq_self, li_0, li_1, li_2, li_3, li_4, li_5, li_6, li_7, li_8, li_9, li_10, li_11, li_12, li_13, li_14, li_15, li_16, li_17, li_18, li_19, li_20, li_21, li_22, li_23, li_24, li_25, li_26, li_27, li_28, li_29, li_30, li_31, li_32, li_44, li_48, li_57, li_59, li_60, li_61, li_62, li_63, li_97, li_100, li_122, li_123, li_125, li_127, li_255, li_400, li_401, li_800, li_1023, li_1024, li_10827, i_add, i_mul, i_sub, i_p1, i_m1, i_nm, i_nm2, i_cl, i_cl0, vi_ok, i_lt, i_le, i_eq, lg_e])
          rw [enm]
          refine k_X12_acts r1 hz hE wU s1 (rdC h1 ff1) ip.2 ip.1 (fun h2 f2 s2 => ?_)
          have r2 := f2.refs r1
          have ff2 : Fr PAp h0 h2 := ff1.trans (f2.fr.mono (fun c p q => Or.inl (Or.inl q)))
          have fh2 : Fr PS h h2 := f1.fr.trans f2.fr
          refine k_X12_packed r2 wV s2 (k_X12_packedVars r2 wV s2 ?_)
          have va : h2.2.1 146 k = Int64.ofNat (ea S 5) := by rw [(fh2 146 k (fun q => by unfold PS at q; omega)).2.1]; exact vk.1
          have vb : h2.2.1 147 k = Int64.ofNat (eb S.2.2.2.2 6) := by rw [(fh2 147 k (fun q => by unfold PS at q; omega)).2.1]; exact vk.2.1
          (try simp (disch := first | assumption | omega) only [true_and, and_true, forall_eq, true_implies, false_implies, implies_true, not_true_eq_false, not_false_eq_true, false_and, and_false, ne_eq, ite_true, ite_false, Nat.reduceLeDiff, Nat.reduceEqDiff, Nat.reduceLT, Nat.reduceAdd, Nat.reduceMul, Nat.reduceSub, Nat.le_refl, eq_self, li_0, li_1, li_2, li_3, li_4, li_5, li_6, li_7, li_8, li_9, li_10, li_11, li_12, li_13, li_14, li_15, li_16, li_17, li_18, li_19, li_20, li_21, li_22, li_23, li_24, li_25, li_26, li_27, li_28, li_29, li_30, li_31, li_32, li_44, li_48, li_57, li_59, li_60, li_61, li_62, li_63, li_97, li_100, li_122, li_123, li_125, li_127, li_255, li_400, li_401, li_800, li_1023, li_1024, li_10827, i_add, i_mul, i_sub, i_p1, i_m1, i_nm, i_nm2, i_cl, i_cl0, vi_ok, i_lt, i_le, i_eq, lg_e, rf_103_4, rf_103_6, rf_103_7, rf_103_8, rf_103_9, rf_103_10, rf_103_21, rf_103_22, rf_103_23, rf_103_26, rf_103_27, rf_103_28, rf_103_29, rf_103_30, rf_103_31, rf_103_32, rf_103_33, rf_103_34, rf_103_35, rf_103_37, rf_103_38, rf_103_39, rf_103_44, rf_103_45, rf_103_46, rf_103_47, rf_103_48, rf_103_49, rf_103_54, rf_103_55, is_103, is_104, sz_104, is_125, sz_125, is_126, sz_126, is_127, sz_127, is_128, sz_128, is_129, sz_129, is_130, sz_130, is_131, sz_131, is_132, sz_132, is_133, sz_133, is_134, sz_134, is_135, sz_135, is_136, sz_136, is_137, sz_137, is_138, sz_138, is_139, sz_139, is_140, sz_140, is_141, sz_141, is_142, sz_142, is_143, sz_143, is_144, sz_144, is_145, sz_145, is_146, sz_146, is_147, sz_147, is_148, sz_148, is_149, sz_149, is_150, sz_150, is_151, sz_151, is_152, sz_152, is_153, sz_153, va, vb])
          refine k_X12_unpack r2 wS (fun h3 f3 s3 => ?_)
          have r3 := f3.refs r2
          have ff3 : Fr PAp h0 h3 := ff2.trans (f3.fr.mono (fun c p q => Or.inl (Or.inl q)))
          refine k_X12_acts r3 hy hD wS s3 (rdB h3 ff3) (by omega) p (fun h4 f4 s4 => ?_)
          have r4 := f4.refs r3
          have ff4 : Fr PAp h0 h4 := ff3.trans (f4.fr.mono (fun c p q => Or.inl (Or.inl q)))
          have fh4 : Fr PS h h4 := (fh2.trans f3.fr).trans f4.fr
          have mp4 : MP h4 (pbN D E (27 * k + a)) := mp.fr fh4 (fun c p q => by unfold PS at q; omega)
          have bT1 := ea_lt wT
          have bT2 := eb_lt wT.2.2.2.2.2
          have bV1 := ea_lt wV
          have bV2 := eb_lt wV.2.2.2.2.2
          have srch : ∀ d3 i, i + d3 = (pbN D E (27 * k + a)).1 → (∀ x, x < i → ¬ (en ((pbN D E (27 * k + a)).2.1 x) = en (stepD D S a) ∧ en ((pbN D E (27 * k + a)).2.2.1 x) = en (stepD E U c))) → L_X12_apart_290 l g h4 103 (Y 0) (Y 1) (Int32.ofNat k) (Int32.ofNat (bsum (possD D S) 27)) (Int32.ofNat (bsum (possD E U) 27)) (Int32.ofNat (bsum (NS D E S U (a + 1)) 27)) (Int32.ofNat a) (Int64.ofNat (ea (stepD E U c) 5)) (Int64.ofNat (eb (stepD E U c).2.2.2.2 6)) (Int32.ofNat i) Q := by
            intro d3
            induction d3 with
            | zero =>
              intro i hi hl
              have hn : pbNew (pbN D E (27 * k + a)) (stepD D S a) (stepD E U c) := fun x hx => hl x (by omega)
              have ei : i = (pbN D E (27 * k + a)).1 := by omega
              refine s_X12_apart_290 ?_
              simp (disch := first | assumption | omega) only [true_and, and_true, forall_eq, true_implies, false_implies, implies_true, not_true_eq_false, not_false_eq_true, false_and, and_false, ne_eq, ite_true, ite_false, Nat.reduceLeDiff, Nat.reduceEqDiff, Nat.reduceLT, Nat.reduceAdd, Nat.reduceMul, Nat.reduceSub, Nat.le_refl, eq_self, li_0, li_1, li_2, li_3, li_4, li_5, li_6, li_7, li_8, li_9, li_10, li_11, li_12, li_13, li_14, li_15, li_16, li_17, li_18, li_19, li_20, li_21, li_22, li_23, li_24, li_25, li_26, li_27, li_28, li_29, li_30, li_31, li_32, li_44, li_48, li_57, li_59, li_60, li_61, li_62, li_63, li_97, li_100, li_122, li_123, li_125, li_127, li_255, li_400, li_401, li_800, li_1023, li_1024, li_10827, i_add, i_mul, i_sub, i_p1, i_m1, i_nm, i_nm2, i_cl, i_cl0, vi_ok, i_lt, i_le, i_eq, lg_e, is_103, mp4.1, show (pbN D E (27 * k + a)).1 ≤ i by omega]
              refine s_X12_apart_361 ?_
              simp (disch := first | assumption | omega) only [true_and, and_true, forall_eq, true_implies, false_implies, implies_true, not_true_eq_false, not_false_eq_true, false_and, and_false, ne_eq, ite_true, ite_false, Nat.reduceLeDiff, Nat.reduceEqDiff, Nat.reduceLT, Nat.reduceAdd, Nat.reduceMul, Nat.reduceSub, Nat.le_refl, eq_self, li_0, li_1, li_2, li_3, li_4, li_5, li_6, li_7, li_8, li_9, li_10, li_11, li_12, li_13, li_14, li_15, li_16, li_17, li_18, li_19, li_20, li_21, li_22, li_23, li_24, li_25, li_26, li_27, li_28, li_29, li_30, li_31, li_32, li_44, li_48, li_57, li_59, li_60, li_61, li_62, li_63, li_97, li_100, li_122, li_123, li_125, li_127, li_255, li_400, li_401, li_800, li_1023, li_1024, li_10827, i_add, i_mul, i_sub, i_p1, i_m1, i_nm, i_nm2, i_cl, i_cl0, vi_ok, i_lt, i_le, i_eq, lg_e, rf_103_4, rf_103_6, rf_103_7, rf_103_8, rf_103_9, rf_103_10, rf_103_21, rf_103_22, rf_103_23, rf_103_26, rf_103_27, rf_103_28, rf_103_29, rf_103_30, rf_103_31, rf_103_32, rf_103_33, rf_103_34, rf_103_35, rf_103_37, rf_103_38, rf_103_39, rf_103_44, rf_103_45, rf_103_46, rf_103_47, rf_103_48, rf_103_49, rf_103_54, rf_103_55, is_103, is_104, sz_104, is_125, sz_125, is_126, sz_126, is_127, sz_127, is_128, sz_128, is_129, sz_129, is_130, sz_130, is_131, sz_131, is_132, sz_132, is_133, sz_133, is_134, sz_134, is_135, sz_135, is_136, sz_136, is_137, sz_137, is_138, sz_138, is_139, sz_139, is_140, sz_140, is_141, sz_141, is_142, sz_142, is_143, sz_143, is_144, sz_144, is_145, sz_145, is_146, sz_146, is_147, sz_147, is_148, sz_148, is_149, sz_149, is_150, sz_150, is_151, sz_151, is_152, sz_152, is_153, sz_153, mp4.1, show (pbN D E (27 * k + a)).1 ≤ i by omega]
              refine ⟨fun n400 => ?_, fun e400 => ?_⟩
              · refine k_X12_packed r4 wT s4 ?_
                simp (disch := first | assumption | omega) only [true_and, and_true, forall_eq, true_implies, false_implies, implies_true, not_true_eq_false, not_false_eq_true, false_and, and_false, ne_eq, ite_true, ite_false, Nat.reduceLeDiff, Nat.reduceEqDiff, Nat.reduceLT, Nat.reduceAdd, Nat.reduceMul, Nat.reduceSub, Nat.le_refl, eq_self, li_0, li_1, li_2, li_3, li_4, li_5, li_6, li_7, li_8, li_9, li_10, li_11, li_12, li_13, li_14, li_15, li_16, li_17, li_18, li_19, li_20, li_21, li_22, li_23, li_24, li_25, li_26, li_27, li_28, li_29, li_30, li_31, li_32, li_44, li_48, li_57, li_59, li_60, li_61, li_62, li_63, li_97, li_100, li_122, li_123, li_125, li_127, li_255, li_400, li_401, li_800, li_1023, li_1024, li_10827, i_add, i_mul, i_sub, i_p1, i_m1, i_nm, i_nm2, i_cl, i_cl0, vi_ok, i_lt, i_le, i_eq, lg_e, rf_103_4, rf_103_6, rf_103_7, rf_103_8, rf_103_9, rf_103_10, rf_103_21, rf_103_22, rf_103_23, rf_103_26, rf_103_27, rf_103_28, rf_103_29, rf_103_30, rf_103_31, rf_103_32, rf_103_33, rf_103_34, rf_103_35, rf_103_37, rf_103_38, rf_103_39, rf_103_44, rf_103_45, rf_103_46, rf_103_47, rf_103_48, rf_103_49, rf_103_54, rf_103_55, is_103, is_104, sz_104, is_125, sz_125, is_126, sz_126, is_127, sz_127, is_128, sz_128, is_129, sz_129, is_130, sz_130, is_131, sz_131, is_132, sz_132, is_133, sz_133, is_134, sz_134, is_135, sz_135, is_136, sz_136, is_137, sz_137, is_138, sz_138, is_139, sz_139, is_140, sz_140, is_141, sz_141, is_142, sz_142, is_143, sz_143, is_144, sz_144, is_145, sz_145, is_146, sz_146, is_147, sz_147, is_148, sz_148, is_149, sz_149, is_150, sz_150, is_151, sz_151, is_152, sz_152, is_153, sz_153, gI_s, gI_c, gI_p, gI_L, gI_R, gL_s, gL_c, gL_p, gL_I, gL_R, gR_s, gR_c, gR_p, gR_I, gR_L]
                have s5 : RepS (ax_setL h4 146 i (Int64.ofNat (ea (stepD D S a) 5))) (stepD D S a) := s4
                refine k_X12_packedVars r4.setL wT s5 ?_
                simp (disch := first | assumption | omega) only [true_and, and_true, forall_eq, true_implies, false_implies, implies_true, not_true_eq_false, not_false_eq_true, false_and, and_false, ne_eq, ite_true, ite_false, Nat.reduceLeDiff, Nat.reduceEqDiff, Nat.reduceLT, Nat.reduceAdd, Nat.reduceMul, Nat.reduceSub, Nat.le_refl, eq_self, li_0, li_1, li_2, li_3, li_4, li_5, li_6, li_7, li_8, li_9, li_10, li_11, li_12, li_13, li_14, li_15, li_16, li_17, li_18, li_19, li_20, li_21, li_22, li_23, li_24, li_25, li_26, li_27, li_28, li_29, li_30, li_31, li_32, li_44, li_48, li_57, li_59, li_60, li_61, li_62, li_63, li_97, li_100, li_122, li_123, li_125, li_127, li_255, li_400, li_401, li_800, li_1023, li_1024, li_10827, i_add, i_mul, i_sub, i_p1, i_m1, i_nm, i_nm2, i_cl, i_cl0, vi_ok, i_lt, i_le, i_eq, lg_e, rf_103_4, rf_103_6, rf_103_7, rf_103_8, rf_103_9, rf_103_10, rf_103_21, rf_103_22, rf_103_23, rf_103_26, rf_103_27, rf_103_28, rf_103_29, rf_103_30, rf_103_31, rf_103_32, rf_103_33, rf_103_34, rf_103_35, rf_103_37, rf_103_38, rf_103_39, rf_103_44, rf_103_45, rf_103_46, rf_103_47, rf_103_48, rf_103_49, rf_103_54, rf_103_55, is_103, is_104, sz_104, is_125, sz_125, is_126, sz_126, is_127, sz_127, is_128, sz_128, is_129, sz_129, is_130, sz_130, is_131, sz_131, is_132, sz_132, is_133, sz_133, is_134, sz_134, is_135, sz_135, is_136, sz_136, is_137, sz_137, is_138, sz_138, is_139, sz_139, is_140, sz_140, is_141, sz_141, is_142, sz_142, is_143, sz_143, is_144, sz_144, is_145, sz_145, is_146, sz_146, is_147, sz_147, is_148, sz_148, is_149, sz_149, is_150, sz_150, is_151, sz_151, is_152, sz_152, is_153, sz_153, gI_s, gI_c, gI_p, gI_L, gI_R, gL_s, gL_c, gL_p, gL_I, gL_R, gR_s, gR_c, gR_p, gR_I, gR_L, mp4.1]
                subst ei
                have add := pb1_add hE G hn
                have r7 : Refs (ax_setI (ax_setI (ax_setI (ax_setL (ax_setL (ax_setL (ax_setL h4 146 (pbN D E (27 * k + a)).1 (Int64.ofNat (ea (stepD D S a) 5))) 147 (pbN D E (27 * k + a)).1 (Int64.ofNat (eb (stepD D S a).2.2.2.2 6))) 148 (pbN D E (27 * k + a)).1 (Int64.ofNat (ea (stepD E U c) 5))) 149 (pbN D E (27 * k + a)).1 (Int64.ofNat (eb (stepD E U c).2.2.2.2 6))) 150 (pbN D E (27 * k + a)).1 (Int32.ofNat k)) 151 (pbN D E (27 * k + a)).1 (Int32.ofNat a)) 103 43 (Int32.ofNat ((pbN D E (27 * k + a)).1 + 1))) := r4.setL.setL.setL.setL.setI.setI.setI
                have f7 : Fr PAp h0 (ax_setI (ax_setI (ax_setI (ax_setL (ax_setL (ax_setL (ax_setL h4 146 (pbN D E (27 * k + a)).1 (Int64.ofNat (ea (stepD D S a) 5))) 147 (pbN D E (27 * k + a)).1 (Int64.ofNat (eb (stepD D S a).2.2.2.2 6))) 148 (pbN D E (27 * k + a)).1 (Int64.ofNat (ea (stepD E U c) 5))) 149 (pbN D E (27 * k + a)).1 (Int64.ofNat (eb (stepD E U c).2.2.2.2 6))) 150 (pbN D E (27 * k + a)).1 (Int32.ofNat k)) 151 (pbN D E (27 * k + a)).1 (Int32.ofNat a)) 103 43 (Int32.ofNat ((pbN D E (27 * k + a)).1 + 1))) := ((((((ff4.setL (Or.inr (Or.inl ⟨by omega, by omega⟩))).setL (Or.inr (Or.inl ⟨by omega, by omega⟩))).setL (Or.inr (Or.inl ⟨by omega, by omega⟩))).setL (Or.inr (Or.inl ⟨by omega, by omega⟩))).setI (Or.inr (Or.inl ⟨by omega, by omega⟩))).setI (Or.inr (Or.inl ⟨by omega, by omega⟩))).setI (Or.inr (Or.inr ⟨rfl, rfl⟩))
                have mp7 : MP (ax_setI (ax_setI (ax_setI (ax_setL (ax_setL (ax_setL (ax_setL h4 146 (pbN D E (27 * k + a)).1 (Int64.ofNat (ea (stepD D S a) 5))) 147 (pbN D E (27 * k + a)).1 (Int64.ofNat (eb (stepD D S a).2.2.2.2 6))) 148 (pbN D E (27 * k + a)).1 (Int64.ofNat (ea (stepD E U c) 5))) 149 (pbN D E (27 * k + a)).1 (Int64.ofNat (eb (stepD E U c).2.2.2.2 6))) 150 (pbN D E (27 * k + a)).1 (Int32.ofNat k)) 151 (pbN D E (27 * k + a)).1 (Int32.ofNat a)) 103 43 (Int32.ofNat ((pbN D E (27 * k + a)).1 + 1))) (pbN D E (27 * k + a + 1)) := by
                  rw [eN, add]
                  refine MP_add mp4 wj.1 (by simp (disch := first | assumption | omega) only [true_and, and_true, forall_eq, true_implies, false_implies, implies_true, not_true_eq_false, not_false_eq_true, false_and, and_false, ne_eq, ite_true, ite_false, Nat.reduceLeDiff, Nat.reduceEqDiff, Nat.reduceLT, Nat.reduceAdd, Nat.reduceMul, Nat.reduceSub, Nat.le_refl, eq_self, li_0, li_1, li_2, li_3, li_4, li_5, li_6, li_7, li_8, li_9, li_10, li_11, li_12, li_13, li_14, li_15, li_16, li_17, li_18, li_19, li_20, li_21, li_22, li_23, li_24, li_25, li_26, li_27, li_28, li_29, li_30, li_31, li_32, li_44, li_48, li_57, li_59, li_60, li_61, li_62, li_63, li_97, li_100, li_122, li_123, li_125, li_127, li_255, li_400, li_401, li_800, li_1023, li_1024, li_10827, i_add, i_mul, i_sub, i_p1, i_m1, i_nm, i_nm2, i_cl, i_cl0, vi_ok, i_lt, i_le, i_eq, lg_e, gI_s, gI_c, gI_p, gI_L, gI_R, gL_s, gL_c, gL_p, gL_I, gL_R, gR_s, gR_c, gR_p, gR_I, gR_L]) (by simp (disch := first | assumption | omega) only [true_and, and_true, forall_eq, true_implies, false_implies, implies_true, not_true_eq_false, not_false_eq_true, false_and, and_false, ne_eq, ite_true, ite_false, Nat.reduceLeDiff, Nat.reduceEqDiff, Nat.reduceLT, Nat.reduceAdd, Nat.reduceMul, Nat.reduceSub, Nat.le_refl, eq_self, li_0, li_1, li_2, li_3, li_4, li_5, li_6, li_7, li_8, li_9, li_10, li_11, li_12, li_13, li_14, li_15, li_16, li_17, li_18, li_19, li_20, li_21, li_22, li_23, li_24, li_25, li_26, li_27, li_28, li_29, li_30, li_31, li_32, li_44, li_48, li_57, li_59, li_60, li_61, li_62, li_63, li_97, li_100, li_122, li_123, li_125, li_127, li_255, li_400, li_401, li_800, li_1023, li_1024, li_10827, i_add, i_mul, i_sub, i_p1, i_m1, i_nm, i_nm2, i_cl, i_cl0, vi_ok, i_lt, i_le, i_eq, lg_e, gI_s, gI_c, gI_p, gI_L, gI_R, gL_s, gL_c, gL_p, gL_I, gL_R, gR_s, gR_c, gR_p, gR_I, gR_L]) (by simp (disch := first | assumption | omega) only [true_and, and_true, forall_eq, true_implies, false_implies, implies_true, not_true_eq_false, not_false_eq_true, false_and, and_false, ne_eq, ite_true, ite_false, Nat.reduceLeDiff, Nat.reduceEqDiff, Nat.reduceLT, Nat.reduceAdd, Nat.reduceMul, Nat.reduceSub, Nat.le_refl, eq_self, li_0, li_1, li_2, li_3, li_4, li_5, li_6, li_7, li_8, li_9, li_10, li_11, li_12, li_13, li_14, li_15, li_16, li_17, li_18, li_19, li_20, li_21, li_22, li_23, li_24, li_25, li_26, li_27, li_28, li_29, li_30, li_31, li_32, li_44, li_48, li_57, li_59, li_60, li_61, li_62, li_63, li_97, li_100, li_122, li_123, li_125, li_127, li_255, li_400, li_401, li_800, li_1023, li_1024, li_10827, i_add, i_mul, i_sub, i_p1, i_m1, i_nm, i_nm2, i_cl, i_cl0, vi_ok, i_lt, i_le, i_eq, lg_e, gI_s, gI_c, gI_p, gI_L, gI_R, gL_s, gL_c, gL_p, gL_I, gL_R, gR_s, gR_c, gR_p, gR_I, gR_L]) (by simp (disch := first | assumption | omega) only [true_and, and_true, forall_eq, true_implies, false_implies, implies_true, not_true_eq_false, not_false_eq_true, false_and, and_false, ne_eq, ite_true, ite_false, Nat.reduceLeDiff, Nat.reduceEqDiff, Nat.reduceLT, Nat.reduceAdd, Nat.reduceMul, Nat.reduceSub, Nat.le_refl, eq_self, li_0, li_1, li_2, li_3, li_4, li_5, li_6, li_7, li_8, li_9, li_10, li_11, li_12, li_13, li_14, li_15, li_16, li_17, li_18, li_19, li_20, li_21, li_22, li_23, li_24, li_25, li_26, li_27, li_28, li_29, li_30, li_31, li_32, li_44, li_48, li_57, li_59, li_60, li_61, li_62, li_63, li_97, li_100, li_122, li_123, li_125, li_127, li_255, li_400, li_401, li_800, li_1023, li_1024, li_10827, i_add, i_mul, i_sub, i_p1, i_m1, i_nm, i_nm2, i_cl, i_cl0, vi_ok, i_lt, i_le, i_eq, lg_e, gI_s, gI_c, gI_p, gI_L, gI_R, gL_s, gL_c, gL_p, gL_I, gL_R, gR_s, gR_c, gR_p, gR_I, gR_L]) (by simp (disch := first | assumption | omega) only [true_and, and_true, forall_eq, true_implies, false_implies, implies_true, not_true_eq_false, not_false_eq_true, false_and, and_false, ne_eq, ite_true, ite_false, Nat.reduceLeDiff, Nat.reduceEqDiff, Nat.reduceLT, Nat.reduceAdd, Nat.reduceMul, Nat.reduceSub, Nat.le_refl, eq_self, li_0, li_1, li_2, li_3, li_4, li_5, li_6, li_7, li_8, li_9, li_10, li_11, li_12, li_13, li_14, li_15, li_16, li_17, li_18, li_19, li_20, li_21, li_22, li_23, li_24, li_25, li_26, li_27, li_28, li_29, li_30, li_31, li_32, li_44, li_48, li_57, li_59, li_60, li_61, li_62, li_63, li_97, li_100, li_122, li_123, li_125, li_127, li_255, li_400, li_401, li_800, li_1023, li_1024, li_10827, i_add, i_mul, i_sub, i_p1, i_m1, i_nm, i_nm2, i_cl, i_cl0, vi_ok, i_lt, i_le, i_eq, lg_e, gI_s, gI_c, gI_p, gI_L, gI_R, gL_s, gL_c, gL_p, gL_I, gL_R, gR_s, gR_c, gR_p, gR_I, gR_L]) (by simp (disch := first | assumption | omega) only [true_and, and_true, forall_eq, true_implies, false_implies, implies_true, not_true_eq_false, not_false_eq_true, false_and, and_false, ne_eq, ite_true, ite_false, Nat.reduceLeDiff, Nat.reduceEqDiff, Nat.reduceLT, Nat.reduceAdd, Nat.reduceMul, Nat.reduceSub, Nat.le_refl, eq_self, li_0, li_1, li_2, li_3, li_4, li_5, li_6, li_7, li_8, li_9, li_10, li_11, li_12, li_13, li_14, li_15, li_16, li_17, li_18, li_19, li_20, li_21, li_22, li_23, li_24, li_25, li_26, li_27, li_28, li_29, li_30, li_31, li_32, li_44, li_48, li_57, li_59, li_60, li_61, li_62, li_63, li_97, li_100, li_122, li_123, li_125, li_127, li_255, li_400, li_401, li_800, li_1023, li_1024, li_10827, i_add, i_mul, i_sub, i_p1, i_m1, i_nm, i_nm2, i_cl, i_cl0, vi_ok, i_lt, i_le, i_eq, lg_e, gI_s, gI_c, gI_p, gI_L, gI_R, gL_s, gL_c, gL_p, gL_I, gL_R, gR_s, gR_c, gR_p, gR_I, gR_L]) (by simp (disch := first | assumption | omega) only [true_and, and_true, forall_eq, true_implies, false_implies, implies_true, not_true_eq_false, not_false_eq_true, false_and, and_false, ne_eq, ite_true, ite_false, Nat.reduceLeDiff, Nat.reduceEqDiff, Nat.reduceLT, Nat.reduceAdd, Nat.reduceMul, Nat.reduceSub, Nat.le_refl, eq_self, li_0, li_1, li_2, li_3, li_4, li_5, li_6, li_7, li_8, li_9, li_10, li_11, li_12, li_13, li_14, li_15, li_16, li_17, li_18, li_19, li_20, li_21, li_22, li_23, li_24, li_25, li_26, li_27, li_28, li_29, li_30, li_31, li_32, li_44, li_48, li_57, li_59, li_60, li_61, li_62, li_63, li_97, li_100, li_122, li_123, li_125, li_127, li_255, li_400, li_401, li_800, li_1023, li_1024, li_10827, i_add, i_mul, i_sub, i_p1, i_m1, i_nm, i_nm2, i_cl, i_cl0, vi_ok, i_lt, i_le, i_eq, lg_e, gI_s, gI_c, gI_p, gI_L, gI_R, gL_s, gL_c, gL_p, gL_I, gL_R, gR_s, gR_c, gR_p, gR_I, gR_L]) (by omega) (fun c2 i2 h1 h2 => by simp (disch := first | assumption | omega) only [true_and, and_true, forall_eq, true_implies, false_implies, implies_true, not_true_eq_false, not_false_eq_true, false_and, and_false, ne_eq, ite_true, ite_false, Nat.reduceLeDiff, Nat.reduceEqDiff, Nat.reduceLT, Nat.reduceAdd, Nat.reduceMul, Nat.reduceSub, Nat.le_refl, eq_self, li_0, li_1, li_2, li_3, li_4, li_5, li_6, li_7, li_8, li_9, li_10, li_11, li_12, li_13, li_14, li_15, li_16, li_17, li_18, li_19, li_20, li_21, li_22, li_23, li_24, li_25, li_26, li_27, li_28, li_29, li_30, li_31, li_32, li_44, li_48, li_57, li_59, li_60, li_61, li_62, li_63, li_97, li_100, li_122, li_123, li_125, li_127, li_255, li_400, li_401, li_800, li_1023, li_1024, li_10827, i_add, i_mul, i_sub, i_p1, i_m1, i_nm, i_nm2, i_cl, i_cl0, vi_ok, i_lt, i_le, i_eq, lg_e, gI_s, gI_c, gI_p, gI_L, gI_R, gL_s, gL_c, gL_p, gL_I, gL_R, gR_s, gR_c, gR_p, gR_I, gR_L])
                revert r7 f7 mp7
                generalize ax_setI (ax_setI (ax_setI (ax_setL (ax_setL (ax_setL (ax_setL h4 146 (pbN D E (27 * k + a)).1 (Int64.ofNat (ea (stepD D S a) 5))) 147 (pbN D E (27 * k + a)).1 (Int64.ofNat (eb (stepD D S a).2.2.2.2 6))) 148 (pbN D E (27 * k + a)).1 (Int64.ofNat (ea (stepD E U c) 5))) 149 (pbN D E (27 * k + a)).1 (Int64.ofNat (eb (stepD E U c).2.2.2.2 6))) 150 (pbN D E (27 * k + a)).1 (Int32.ofNat k)) 151 (pbN D E (27 * k + a)).1 (Int32.ofNat a)) 103 43 (Int32.ofNat ((pbN D E (27 * k + a)).1 + 1)) = h7
                intro r7 f7 mp7
                have eB : pbN D E (27 * k + a + 1) = pbAdd (pbN D E (27 * k + a)) (27 * k + a) (stepD D S a) (stepD E U c) := by rw [eN, add]
                have sT : (pbN D E (27 * k + a + 1)).2.1 (pbN D E (27 * k + a)).1 = stepD D S a := by rw [eB]; exact upS_s _ _ _
                have sV : (pbN D E (27 * k + a + 1)).2.2.1 (pbN D E (27 * k + a)).1 = stepD E U c := by rw [eB]; exact upS_s _ _ _
                have n7 : (pbN D E (27 * k + a + 1)).1 = (pbN D E (27 * k + a)).1 + 1 := by rw [eB]; rfl
                refine k_isAlike r7 (rdA h7 f7) hD hE (rdB h7 f7) (rdC h7 f7) mp7 (by omega) (by omega) (by rw [sT]; exact wT) (by rw [sV]; exact wV) (fun h8 r8 f8 al8 => ?_) (fun h8 r8 f8 al8 => ?_)
                · rw [sT, sV] at al8
                  have ff8 : Fr PAp h0 h8 := f7.trans (f8.mono (fun c p q => Or.inl q))
                  refine ⟨fun _ => ?_, fun z => absurd z (by decide)⟩
                  (try simp (disch := first | assumption | omega) only [true_and, and_true, forall_eq, true_implies, false_implies, implies_true, not_true_eq_false, not_false_eq_true, false_and, and_false, ne_eq, ite_true, ite_false, Nat.reduceLeDiff, Nat.reduceEqDiff, Nat.reduceLT, Nat.reduceAdd, Nat.reduceMul, Nat.reduceSub, Nat.le_refl, eq_self, li_0, li_1, li_2, li_3, li_4, li_5, li_6, li_7, li_8, li_9, li_10, li_11, li_12, li_13, li_14, li_15, li_16, li_17, li_18, li_19, li_20, li_21, li_22, li_23, li_24, li_25, li_26, li_27, li_28, li_29, li_30, li_31, li_32, li_44, li_48, li_57, li_59, li_60, li_61, li_62, li_63, li_97, li_100, li_122, li_123, li_125, li_127, li_255, li_400, li_401, li_800, li_1023, li_1024, li_10827, i_add, i_mul, i_sub, i_p1, i_m1, i_nm, i_nm2, i_cl, i_cl0, vi_ok, i_lt, i_le, i_eq, lg_e])
                  refine nx h8 (go nE1 (fun ⟨T2, V2, G2, n2, z⟩ => by omega) (fun ⟨T2, V2, G2, n2, z, y⟩ => ?_)) r8 ff8 (mp7.fr f8 (fun c p q => by have := PAl_no q; omega))
                  have := pb_un hE G G2
                  rw [← this.1, ← this.2] at y
                  exact y al8
                · rw [sT, sV] at al8
                  have ff8 : Fr PAp h0 h8 := f7.trans (f8.mono (fun c p q => Or.inl q))
                  refine ⟨fun z => absurd rfl z, fun _ => ?_⟩
                  have E3 : pbE3 D E (pbN D E (27 * k + a)) (27 * k + a) := ⟨_, _, G, hn, by omega, al8⟩
                  have hJe : e = 3 ∧ 27 * k + a = J := by
                    rcases Nat.lt_or_ge (27 * k + a) J with z | z
                    · exact absurd E3 (ok.2.1 _ z).2.2.2
                    · have hj : 27 * k + a = J := by omega
                      refine ⟨?_, hj⟩
                      rw [hj] at E3 nE1
                      rcases hend with z | z | z | z | z | z
                      · have ze := z.1
                        have := z.2.2.1
                        have ha0 : a = 0 := by omega
                        exact absurd ⟨ze, by omega⟩ c0
                      · exact absurd z.2.2.2.2 nE1
                      · obtain ⟨T2, V2, _, _, y⟩ := z.2.2.2.2
                        rw [← hj] at y; omega
                      · exact z.1
                      · exact absurd ⟨z.1, hj, by omega⟩ na4
                      · exact absurd z.1 n5
                  have := m3 hJe.1 h8 r8 ff8 (by rw [← hJe.2]; exact mp7.fr f8 (fun c p q => by have := PAl_no q; omega))
                  rw [← hJe.2] at this
                  exact this
              · have E2 : pbE2 D E (pbN D E (27 * k + a)) (27 * k + a) := ⟨_, _, G, hn, e400⟩
                have hJe : e = 2 ∧ 27 * k + a = J := by
                  rcases Nat.lt_or_ge (27 * k + a) J with z | z
                  · exact absurd E2 (ok.2.1 _ z).2.2.1
                  · have hj : 27 * k + a = J := by omega
                    refine ⟨?_, hj⟩
                    rw [hj] at E2 nE1
                    rcases hend with z | z | z | z | z | z
                    · have ze := z.1
                      have := z.2.2.1
                      have ha0 : a = 0 := by omega
                      exact absurd ⟨ze, by omega⟩ c0
                    · exact absurd z.2.2.2.2 nE1
                    · exact z.1
                    · obtain ⟨T2, V2, _, _, y, _⟩ := z.2.2.2.2
                      rw [← hj] at y; omega
                    · exact absurd ⟨z.1, hj, by omega⟩ na4
                    · exact absurd z.1 n5
                exact m2 hJe.1 h4 r4 ff4 (by rw [mp4.1, e400])
            | succ d3 ih3 =>
              intro i hi hl
              have wi := wj.2.2.1 i (by omega)
              have vi := mp4.2 i (by omega)
              have b1 := ea_lt wi.1
              have b2 := eb_lt wi.1.2.2.2.2.2
              have b3 := ea_lt wi.2.1
              have b4 := eb_lt wi.2.1.2.2.2.2.2
              have iS := en_iff wi.1 wT
              have iU := en_iff wi.2.1 wV
              have nxt : ¬ (en ((pbN D E (27 * k + a)).2.1 i) = en (stepD D S a) ∧ en ((pbN D E (27 * k + a)).2.2.1 i) = en (stepD E U c)) → L_X12_apart_290 l g h4 103 (Y 0) (Y 1) (Int32.ofNat k) (Int32.ofNat (bsum (possD D S) 27)) (Int32.ofNat (bsum (possD E U) 27)) (Int32.ofNat (bsum (NS D E S U (a + 1)) 27)) (Int32.ofNat a) (Int64.ofNat (ea (stepD E U c) 5)) (Int64.ofNat (eb (stepD E U c).2.2.2.2 6)) (Int32.ofNat (i + 1)) Q := by
                intro z
                refine ih3 (i + 1) (by omega) (fun x hx => ?_)
                by_cases e : x = i
                · rw [e]; exact z
                · exact hl x (by omega)
              refine s_X12_apart_290 ?_
              simp (disch := first | assumption | omega) only [true_and, and_true, forall_eq, true_implies, false_implies, implies_true, not_true_eq_false, not_false_eq_true, false_and, and_false, ne_eq, ite_true, ite_false, Nat.reduceLeDiff, Nat.reduceEqDiff, Nat.reduceLT, Nat.reduceAdd, Nat.reduceMul, Nat.reduceSub, Nat.le_refl, eq_self, li_0, li_1, li_2, li_3, li_4, li_5, li_6, li_7, li_8, li_9, li_10, li_11, li_12, li_13, li_14, li_15, li_16, li_17, li_18, li_19, li_20, li_21, li_22, li_23, li_24, li_25, li_26, li_27, li_28, li_29, li_30, li_31, li_32, li_44, li_48, li_57, li_59, li_60, li_61, li_62, li_63, li_97, li_100, li_122, li_123, li_125, li_127, li_255, li_400, li_401, li_800, li_1023, li_1024, li_10827, i_add, i_mul, i_sub, i_p1, i_m1, i_nm, i_nm2, i_cl, i_cl0, vi_ok, i_lt, i_le, i_eq, lg_e, rf_103_4, rf_103_6, rf_103_7, rf_103_8, rf_103_9, rf_103_10, rf_103_21, rf_103_22, rf_103_23, rf_103_26, rf_103_27, rf_103_28, rf_103_29, rf_103_30, rf_103_31, rf_103_32, rf_103_33, rf_103_34, rf_103_35, rf_103_37, rf_103_38, rf_103_39, rf_103_44, rf_103_45, rf_103_46, rf_103_47, rf_103_48, rf_103_49, rf_103_54, rf_103_55, is_103, is_104, sz_104, is_125, sz_125, is_126, sz_126, is_127, sz_127, is_128, sz_128, is_129, sz_129, is_130, sz_130, is_131, sz_131, is_132, sz_132, is_133, sz_133, is_134, sz_134, is_135, sz_135, is_136, sz_136, is_137, sz_137, is_138, sz_138, is_139, sz_139, is_140, sz_140, is_141, sz_141, is_142, sz_142, is_143, sz_143, is_144, sz_144, is_145, sz_145, is_146, sz_146, is_147, sz_147, is_148, sz_148, is_149, sz_149, is_150, sz_150, is_151, sz_151, is_152, sz_152, is_153, sz_153, mp4.1, show ¬ (pbN D E (27 * k + a)).1 ≤ i by omega, vi.1]
              refine k_X12_packed r4 wT s4 ⟨fun z => nxt (fun y => z (by rw [(iS.1 y.1).1])), fun z => ?_⟩
              (try simp (disch := first | assumption | omega) only [true_and, and_true, forall_eq, true_implies, false_implies, implies_true, not_true_eq_false, not_false_eq_true, false_and, and_false, ne_eq, ite_true, ite_false, Nat.reduceLeDiff, Nat.reduceEqDiff, Nat.reduceLT, Nat.reduceAdd, Nat.reduceMul, Nat.reduceSub, Nat.le_refl, eq_self, li_0, li_1, li_2, li_3, li_4, li_5, li_6, li_7, li_8, li_9, li_10, li_11, li_12, li_13, li_14, li_15, li_16, li_17, li_18, li_19, li_20, li_21, li_22, li_23, li_24, li_25, li_26, li_27, li_28, li_29, li_30, li_31, li_32, li_44, li_48, li_57, li_59, li_60, li_61, li_62, li_63, li_97, li_100, li_122, li_123, li_125, li_127, li_255, li_400, li_401, li_800, li_1023, li_1024, li_10827, i_add, i_mul, i_sub, i_p1, i_m1, i_nm, i_nm2, i_cl, i_cl0, vi_ok, i_lt, i_le, i_eq, lg_e, rf_103_4, rf_103_6, rf_103_7, rf_103_8, rf_103_9, rf_103_10, rf_103_21, rf_103_22, rf_103_23, rf_103_26, rf_103_27, rf_103_28, rf_103_29, rf_103_30, rf_103_31, rf_103_32, rf_103_33, rf_103_34, rf_103_35, rf_103_37, rf_103_38, rf_103_39, rf_103_44, rf_103_45, rf_103_46, rf_103_47, rf_103_48, rf_103_49, rf_103_54, rf_103_55, is_103, is_104, sz_104, is_125, sz_125, is_126, sz_126, is_127, sz_127, is_128, sz_128, is_129, sz_129, is_130, sz_130, is_131, sz_131, is_132, sz_132, is_133, sz_133, is_134, sz_134, is_135, sz_135, is_136, sz_136, is_137, sz_137, is_138, sz_138, is_139, sz_139, is_140, sz_140, is_141, sz_141, is_142, sz_142, is_143, sz_143, is_144, sz_144, is_145, sz_145, is_146, sz_146, is_147, sz_147, is_148, sz_148, is_149, sz_149, is_150, sz_150, is_151, sz_151, is_152, sz_152, is_153, sz_153, vi.2.1])
              refine k_X12_packedVars r4 wT s4 ⟨fun z2 => nxt (fun y => z2 (by rw [(iS.1 y.1).2])), fun z2 => ?_⟩
              (try simp (disch := first | assumption | omega) only [true_and, and_true, forall_eq, true_implies, false_implies, implies_true, not_true_eq_false, not_false_eq_true, false_and, and_false, ne_eq, ite_true, ite_false, Nat.reduceLeDiff, Nat.reduceEqDiff, Nat.reduceLT, Nat.reduceAdd, Nat.reduceMul, Nat.reduceSub, Nat.le_refl, eq_self, li_0, li_1, li_2, li_3, li_4, li_5, li_6, li_7, li_8, li_9, li_10, li_11, li_12, li_13, li_14, li_15, li_16, li_17, li_18, li_19, li_20, li_21, li_22, li_23, li_24, li_25, li_26, li_27, li_28, li_29, li_30, li_31, li_32, li_44, li_48, li_57, li_59, li_60, li_61, li_62, li_63, li_97, li_100, li_122, li_123, li_125, li_127, li_255, li_400, li_401, li_800, li_1023, li_1024, li_10827, i_add, i_mul, i_sub, i_p1, i_m1, i_nm, i_nm2, i_cl, i_cl0, vi_ok, i_lt, i_le, i_eq, lg_e, rf_103_4, rf_103_6, rf_103_7, rf_103_8, rf_103_9, rf_103_10, rf_103_21, rf_103_22, rf_103_23, rf_103_26, rf_103_27, rf_103_28, rf_103_29, rf_103_30, rf_103_31, rf_103_32, rf_103_33, rf_103_34, rf_103_35, rf_103_37, rf_103_38, rf_103_39, rf_103_44, rf_103_45, rf_103_46, rf_103_47, rf_103_48, rf_103_49, rf_103_54, rf_103_55, is_103, is_104, sz_104, is_125, sz_125, is_126, sz_126, is_127, sz_127, is_128, sz_128, is_129, sz_129, is_130, sz_130, is_131, sz_131, is_132, sz_132, is_133, sz_133, is_134, sz_134, is_135, sz_135, is_136, sz_136, is_137, sz_137, is_138, sz_138, is_139, sz_139, is_140, sz_140, is_141, sz_141, is_142, sz_142, is_143, sz_143, is_144, sz_144, is_145, sz_145, is_146, sz_146, is_147, sz_147, is_148, sz_148, is_149, sz_149, is_150, sz_150, is_151, sz_151, is_152, sz_152, is_153, sz_153, vi.2.2.1, vi.2.2.2.1])
              refine ⟨fun z3 => nxt (fun y => z3 (by rw [(iU.1 y.2).1])), fun z3 => ⟨fun z4 => ?_, fun z4 => nxt (fun y => z4 (by rw [(iU.1 y.2).2]))⟩⟩
              have q1 := (l_eq (by omega) (by omega)).1 z
              have q2 := (l_eq (by omega) (by omega)).1 z2
              have q3 := (l_eq (by omega) (by omega)).1 z3
              have q4 := (l_eq (by omega) (by omega)).1 z4
              have hit : ¬ pbNew (pbN D E (27 * k + a)) (stepD D S a) (stepD E U c) := fun y => y i (by omega) ⟨iS.2 ⟨q1, q2⟩, iU.2 ⟨q3, q4⟩⟩
              have un : ∀ T2 V2, pbG D E (pbN D E (27 * k + a)) (27 * k + a) T2 V2 → ¬ pbNew (pbN D E (27 * k + a)) T2 V2 := fun T2 V2 G2 => by
                have := pb_un hE G G2
                rw [← this.1, ← this.2]; exact hit
              have same : pbN D E (27 * k + a + 1) = pbN D E (27 * k + a) := by rw [eN]; exact pb1_same (fun ⟨T2, V2, G2, n2⟩ => un T2 V2 G2 n2)
              refine s_X12_apart_361 ?_
              simp (disch := first | assumption | omega) only [true_and, and_true, forall_eq, true_implies, false_implies, implies_true, not_true_eq_false, not_false_eq_true, false_and, and_false, ne_eq, ite_true, ite_false, Nat.reduceLeDiff, Nat.reduceEqDiff, Nat.reduceLT, Nat.reduceAdd, Nat.reduceMul, Nat.reduceSub, Nat.le_refl, eq_self, li_0, li_1, li_2, li_3, li_4, li_5, li_6, li_7, li_8, li_9, li_10, li_11, li_12, li_13, li_14, li_15, li_16, li_17, li_18, li_19, li_20, li_21, li_22, li_23, li_24, li_25, li_26, li_27, li_28, li_29, li_30, li_31, li_32, li_44, li_48, li_57, li_59, li_60, li_61, li_62, li_63, li_97, li_100, li_122, li_123, li_125, li_127, li_255, li_400, li_401, li_800, li_1023, li_1024, li_10827, i_add, i_mul, i_sub, i_p1, i_m1, i_nm, i_nm2, i_cl, i_cl0, vi_ok, i_lt, i_le, i_eq, lg_e, is_103, mp4.1, show ¬ (pbN D E (27 * k + a)).1 ≤ i by omega]
              exact nx h4 (go nE1 (fun ⟨T2, V2, G2, n2, _⟩ => un T2 V2 G2 n2) (fun ⟨T2, V2, G2, n2, _⟩ => un T2 V2 G2 n2)) r4 ff4 (by rw [same]; exact mp4)
          exact srch _ 0 (Nat.zero_add _) (fun x hx => absurd hx (Nat.not_lt_zero x))
        · have E1 : pbE1 D E (pbN D E (27 * k + a)) (27 * k + a) := ⟨u1.2 p, by rw [ej1, ej2, stk.2]; exact hn⟩
          have noG : ∀ T2 V2, ¬ pbG D E (pbN D E (27 * k + a)) (27 * k + a) T2 V2 := fun T2 V2 ⟨_, _, c, hc, _⟩ => E1.2 ⟨c, hc⟩
          have hJe : e = 1 ∧ 27 * k + a = J := by
            rcases Nat.lt_or_ge (27 * k + a) J with z | z
            · exact absurd E1 (ok.2.1 _ z).2.1
            · have hj : 27 * k + a = J := by omega
              refine ⟨?_, hj⟩
              rw [hj] at noG
              rcases hend with z | z | z | z | z | z
              · have ze := z.1
                have := z.2.2.1
                have ha0 : a = 0 := by omega
                exact absurd ⟨ze, by omega⟩ c0
              · exact z.1
              · obtain ⟨T2, V2, G2, _⟩ := z.2.2.2.2
                exact absurd G2 (noG T2 V2)
              · obtain ⟨T2, V2, G2, _⟩ := z.2.2.2.2
                exact absurd G2 (noG T2 V2)
              · exact absurd ⟨z.1, hj, by omega⟩ na4
              · exact absurd z.1 n5
          refine ⟨fun z => absurd rfl z, fun _ => ?_⟩
          have := m1 hJe.1 h1 r1 ff1 (by rw [← hJe.2]; exact mp.fr f1.fr (fun c p q => by unfold PS at q; omega))
          rw [← hJe.2, ej1, ej2] at this
          exact this
      · have np : ¬ possD D ((pbN D E (27 * k + a)).2.1 ((27 * k + a) / 27)) ((27 * k + a) % 27) := fun z => p (u1.1 z)
        have same : pbN D E (27 * k + a + 1) = pbN D E (27 * k + a) := by rw [eN]; exact pb1_same (fun ⟨T, V, G, _⟩ => np G.1)
        have enm : bsum (NS D E S U a) 27 = bsum (NS D E S U (a + 1)) 27 := bsum_congr 27 (fun x hx => ⟨fun ⟨b, b1, b2, b3⟩ => ⟨b, by omega, b2, b3⟩, fun ⟨b, b1, b2, b3⟩ => by
          by_cases e : b = a
          · subst e; exact absurd b2 p
          · exact ⟨b, by omega, b2, b3⟩⟩)
        rw [enm]
        exact nx h (go (fun z => np z.1) (fun ⟨T, V, G, _⟩ => np G.1) (fun ⟨T, V, G, _⟩ => np G.1)) hr hf (by rw [same]; exact mp)
  have ns0 : bsum (NS D E S U 0) 27 = 0 := by
    rw [bsum_none (m := 0) 27 (fun c _ ⟨b, b1, _⟩ => absurd b1 (Nat.not_lt_zero b)) (Nat.zero_le _)]
    rfl
  have := inner 27 0 rfl (by omega) (fun ⟨z1, z2, _⟩ => n4 ⟨z1, by omega⟩) h2 r2 ff2 mp2
  rw [ns0] at this
  exact this
