def kb (j i : Nat) : Nat := ((ax_sb.getD j []).getD i 0).toNatClampNeg
def kl (j : Nat) : Nat := ax_sl.getD j 0
/-- the key words' numbers -/
def kc (j : Nat) : Nat := wM (kb j) 0 (kl j)
theorem kl_8 : ∀ j : Fin 14, 0 < kl j.1 ∧ kl j.1 ≤ 8 := by decide
theorem kb_le : ∀ j : Fin 14, ∀ i : Fin 8, i.1 < kl j.1 → 97 ≤ kb j.1 i.1 ∧ kb j.1 i.1 ≤ 122 ∧ (ax_sb.getD j.1 []).getD i.1 0 = Int32.ofNat (kb j.1 i.1) := by decide
theorem key_le {j i : Nat} (hj : j < 14) (hi : i < kl j) : 97 ≤ kb j i ∧ kb j i ≤ 122 ∧ (ax_sb.getD j []).getD i 0 = Int32.ofNat (kb j i) := kb_le ⟨j, hj⟩ ⟨i, Nat.lt_of_lt_of_le hi (kl_8 ⟨j, hj⟩).2⟩ hi
theorem kc_w {j : Nat} (hj : j < 14) : kc j < 1099511627776 := wM_lt8 (kl_8 ⟨j, hj⟩).2 (fun i hi => by rw [Nat.zero_add]; exact ⟨(key_le hj hi).1, (key_le hj hi).2.1⟩)
/-- a TOKEN that is a WORD -/
theorem tk_word {T : Nat → Nat} {n p : Nat} (hn : n ≤ 800) (hp : p ≤ n) (h1 : (tk (bt T n) p).1 = 1) : ∃ L, L ≤ 8 ∧ (tk (bt T n) p).2.2.2 = (tk (bt T n) p).2.2.1 + L ∧ (tk (bt T n) p).2.2.2 ≤ n ∧ (∀ i, i < L → 97 ≤ bt T n ((tk (bt T n) p).2.2.1 + i) ∧ bt T n ((tk (bt T n) p).2.2.1 + i) ≤ 122) ∧ (tk (bt T n) p).2.1 = wM (bt T n) (tk (bt T n) p).2.2.1 L := by
  obtain ⟨s1, s2, s3, s4⟩ := run_bt (q := isBl) (T := T) (by decide) hn hp
  unfold tk at h1 ⊢
  revert h1 s1 s2 s3 s4
  generalize runF isBl (bt T n) 801 p = s
  intro h1 s1 s2 s3 s4
  by_cases c : bt T n s = 256
  · rw [if_pos c] at h1; exact absurd h1 (show ¬ (0 : Nat) = 1 by decide)
  · rw [if_neg c] at h1 ⊢
    by_cases c1 : isLe (bt T n s) = true
    · rw [if_pos c1] at h1 ⊢
      obtain ⟨e1, e2, e3, e4⟩ := run_bt (q := isLe) (T := T) (by decide) hn s2
      revert h1 e1 e2 e3 e4
      generalize runF isLe (bt T n) 801 s = e
      intro h1 e1 e2 e3 e4
      have z2 : (if e - s ≤ 8 then 1 else 3) = 1 := h1
      by_cases y : e - s ≤ 8
      · exact ⟨e - s, y, by show e = s + (e - s); omega, e2, fun i hi => le_iff.1 (e3 (s + i) (by omega) (by omega)), rfl⟩
      · rw [if_neg y] at z2; exact absurd z2 (by decide)
    · rw [if_neg c1] at h1
      by_cases c2 : isDi (bt T n s) = true
      · rw [if_pos c2] at h1
        have z2 : (if runF isDi (bt T n) 801 s - s ≤ 2 then 2 else 3) = 1 := h1
        by_cases y : runF isDi (bt T n) 801 s - s ≤ 2
        · rw [if_pos y] at z2; exact absurd z2 (by decide)
        · rw [if_neg y] at z2; exact absurd z2 (by decide)
      · rw [if_neg c2] at h1
        have z2 : (if isSi (bt T n s) = true then bt T n s else 3) = 1 := h1
        by_cases y : isSi (bt T n s) = true
        · rw [if_pos y] at z2; have := si_iff.1 y; omega
        · rw [if_neg y] at z2; exact absurd z2 (by decide)
theorem k_says {l : Launch} {g : AG} {h : AH} {T : Nat → Nat} {n p : Nat} {Q : Int32 → AH → Prop} (j : Nat) (hj : j < 14) (hn : n ≤ 800) (hp : p ≤ n) (te : TapC h T n) (tc : TokC h (tk (bt T n) p)) (q1 : (tk (bt T n) p).1 = 1 → (tk (bt T n) p).2.1 = kc j → Q 1 h) (q0 : ¬ ((tk (bt T n) p).1 = 1 ∧ (tk (bt T n) p).2.1 = kc j) → Q 0 h) : C_X8_says l g h 68 (1000 + j) Q := by
  have ok := tk_ok (fun k hk => (te.2.2 k hk).1) hn hp
  have tw := fun z => tk_word (T := T) hn hp z
  revert tc q1 q0 ok tw
  generalize tk (bt T n) p = t
  intro tc q1 q0 ok tw
  obtain ⟨v3, v4, v2, _, _⟩ := tc
  have k8 := kl_8 ⟨j, hj⟩
  have k8' : kl j ≤ 8 := k8.2
  refine c_X8_says (s_X8_says_0 ?_)
  rw [v3, v2, v4, Nat.add_sub_cancel_left]
  refine ⟨is_68, fun z => q0 (fun y => z (by rw [y.1]; rfl)), fun z => ⟨⟨by omega, by omega⟩, ?_⟩⟩
  have t1 : t.1 = 1 := (i_eq (b := 1) (by omega) (by omega)).1 z
  obtain ⟨L, L8, nx, nn, lets, val⟩ := tw t1
  have kk : ∀ i, i < kl j → 97 ≤ kb j (0 + i) ∧ kb j (0 + i) ≤ 122 := fun i hi => by rw [Nat.zero_add]; exact ⟨(key_le hj hi).1, (key_le hj hi).2.1⟩
  have eL : Int32.ofNat t.2.2.2 - Int32.ofNat t.2.2.1 = Int32.ofNat L := by rw [i_sub (by omega)]; congr 1; omega
  rw [eL]
  have loop : L = kl j → ∀ d i, i + d = kl j → (∀ x, x < i → bt T n (t.2.2.1 + x) = kb j x) → L_X8_says_28 l g h 68 (1000 + j) (Int32.ofNat i) Q := by
    intro eq d
    induction d with
    | zero =>
      intro i hi hx
      refine s_X8_says_28 ⟨⟨by omega, by omega⟩, fun _ => q1 t1 ?_, fun z => absurd ?_ z⟩
      · rw [val, eq]
        exact wM_congr _ (fun x hx2 => by rw [Nat.zero_add]; exact hx x (by omega))
      · rw [Nat.add_sub_cancel_left]
        exact (i_le (by show kl j < _; omega) (by omega)).2 (by show kl j ≤ i; omega)
    | succ d ih =>
      intro i hi hx
      have ik : i < kl j := by omega
      have pl : t.2.2.1 + i < n := by omega
      have key := key_le hj ik
      refine s_X8_says_28 ?_
      rw [Nat.add_sub_cancel_left, te.1, v4, i_add, i_cl (by omega), i_cl (by omega), (te.2.2 _ pl).2, key.2.2]
      have t256 := (te.2.2 _ pl).1
      refine ⟨⟨by omega, by omega⟩, fun z => absurd ((i_le (by show kl j < _; omega) (by omega)).1 z) (by show ¬ kl j ≤ i; omega), fun _ => ⟨is_68, is_2, vi_ok (by omega) (by rw [sz_2]; omega), ⟨by omega, by omega⟩, vi_ok (by omega) ik, ?_⟩⟩
      intro v12 e12
      rw [e12]
      refine ⟨fun z => ?_, fun z => q0 (fun y => z ?_)⟩
      · intro v15 e15
        rw [e15, i_p1]
        refine ih (i + 1) (by omega) (fun x hx2 => ?_)
        by_cases c : x = i
        · rw [c, bt_in pl]; exact (i_eq (by omega) (by omega)).1 z
        · exact hx x (by omega)
      · have := (wM_inj L (kl j) lets kk (by rw [← val]; exact y.2)).2 i (by omega)
        rw [Nat.zero_add, bt_in pl] at this
        rw [this]
  refine ⟨fun z => ?_, fun z => q0 (fun y => z ?_)⟩
  · have eq : L = kl j := (i_eq (by omega) (by show kl j < _; omega)).1 z
    exact loop eq (kl j) 0 (Nat.zero_add _) (fun x hx => absurd hx (Nat.not_lt_zero x))
  · have := (wM_inj L (kl j) lets kk (by rw [← val]; exact y.2)).1
    rw [this]; rfl
/-- the model's text -/
def TapM (h : AH) (T : Nat → Nat) (n : Nat) : Prop := h.1 103 12 = Int32.ofNat n ∧ ∀ k, k < n → T k < 256 ∧ h.1 129 k &&& 255 = Int32.ofNat (T k)
def PNx (c p : Nat) : Prop := c = 103 ∧ 13 ≤ p ∧ p ≤ 18
theorem TapM.fr {P : Nat → Nat → Prop} {h h1 : AH} {T : Nat → Nat} {n : Nat} (t : TapM h T n) (f : Fr P h h1) (e : ∀ c p, P c p → c ≠ 129 ∧ ¬ (c = 103 ∧ p = 12)) : TapM h1 T n := by
  obtain ⟨t1, t2⟩ := t
  refine ⟨?_, fun k hk => ?_⟩
  · rw [(f 103 12 (fun q => (e _ _ q).2 ⟨rfl, rfl⟩)).1]; exact t1
  · rw [(f 129 k (fun q => (e _ _ q).1 rfl)).1]; exact t2 k hk
theorem k_byteAt {l : Launch} {g : AG} {h : AH} {T : Nat → Nat} {n k : Nat} {Q : Int32 → AH → Prop} (hr : Refs h) (te : TapM h T n) (hn : n ≤ 800) (hk : k ≤ 800) (q1 : k < n → Q (Int32.ofNat (T k)) h) (q0 : n ≤ k → Q (-1) h) : C_X12_byteAt l g h 103 (Int32.ofNat k) Q := by
  refine c_X12_byteAt (s_X12_byteAt_0 ?_)
  rw [te.1]
  refine ⟨is_103, fun z => q0 ((i_le (by omega) (by omega)).1 z), fun z => ?_⟩
  have hlt : k < n := by
    rcases Nat.lt_or_ge k n with y | y
    · exact y
    · exact absurd ((i_le (by omega) (by omega)).2 y) z
  rw [rf_103_10 hr, i_cl (by omega), (te.2 k hlt).2]
  exact ⟨is_129, vi_ok (by omega) (by rw [sz_129]; omega), q1 hlt⟩
theorem m_isLetter {l : Launch} {g : AG} {h : AH} {c : Nat} {Q : Int32 → AH → Prop} (hc : c < 2147483648) (q1 : isLe c = true → Q 1 h) (q0 : isLe c = false → Q 0 h) : C_X12_isLetter l g h (Int32.ofNat c) Q := by
  refine c_X12_isLetter (s_X12_isLetter_0 ?_)
  simp (disch := first | assumption | omega) only [true_and, and_true, forall_eq, true_implies, false_implies, implies_true, not_true_eq_false, not_false_eq_true, false_and, and_false, ne_eq, ite_true, ite_false, Nat.reduceLeDiff, Nat.reduceEqDiff, Nat.reduceLT, Nat.reduceAdd, Nat.reduceMul, Nat.reduceSub, Nat.le_refl, eq_self, li_0, li_1, li_2, li_3, li_4, li_5, li_6, li_7, li_8, li_9, li_10, li_11, li_12, li_13, li_14, li_15, li_16, li_17, li_18, li_19, li_20, li_21, li_22, li_23, li_24, li_25, li_26, li_27, li_28, li_29, li_30, li_31, li_32, li_44, li_48, li_57, li_59, li_60, li_61, li_62, li_63, li_97, li_100, li_122, li_123, li_125, li_127, li_255, li_400, li_401, li_800, li_1023, li_1024, li_10827, i_add, i_mul, i_sub, i_p1, i_m1, i_nm, i_nm2, i_cl, i_cl0, vi_ok, i_lt, i_le, i_eq, lg_e]
  refine ⟨fun z => q0 (decide_eq_false (by omega)), fun z => ⟨fun y => q0 (decide_eq_false (by omega)), fun y => q1 (decide_eq_true (by omega))⟩⟩
theorem m_isDigit {l : Launch} {g : AG} {h : AH} {c : Nat} {Q : Int32 → AH → Prop} (hc : c < 2147483648) (q1 : isDi c = true → Q 1 h) (q0 : isDi c = false → Q 0 h) : C_X12_isDigit l g h (Int32.ofNat c) Q := by
  refine c_X12_isDigit (s_X12_isDigit_0 ?_)
  simp (disch := first | assumption | omega) only [true_and, and_true, forall_eq, true_implies, false_implies, implies_true, not_true_eq_false, not_false_eq_true, false_and, and_false, ne_eq, ite_true, ite_false, Nat.reduceLeDiff, Nat.reduceEqDiff, Nat.reduceLT, Nat.reduceAdd, Nat.reduceMul, Nat.reduceSub, Nat.le_refl, eq_self, li_0, li_1, li_2, li_3, li_4, li_5, li_6, li_7, li_8, li_9, li_10, li_11, li_12, li_13, li_14, li_15, li_16, li_17, li_18, li_19, li_20, li_21, li_22, li_23, li_24, li_25, li_26, li_27, li_28, li_29, li_30, li_31, li_32, li_44, li_48, li_57, li_59, li_60, li_61, li_62, li_63, li_97, li_100, li_122, li_123, li_125, li_127, li_255, li_400, li_401, li_800, li_1023, li_1024, li_10827, i_add, i_mul, i_sub, i_p1, i_m1, i_nm, i_nm2, i_cl, i_cl0, vi_ok, i_lt, i_le, i_eq, lg_e]
  refine ⟨fun z => q0 (decide_eq_false (by omega)), fun z => ⟨fun y => q0 (decide_eq_false (by omega)), fun y => q1 (decide_eq_true (by omega))⟩⟩
theorem m_isLetter_n {l : Launch} {g : AG} {h : AH} {Q : Int32 → AH → Prop} (q0 : Q 0 h) : C_X12_isLetter l g h (-1) Q :=
  c_X12_isLetter (s_X12_isLetter_0 ⟨fun _ => q0, fun z => absurd (by decide) z⟩)
theorem m_isDigit_n {l : Launch} {g : AG} {h : AH} {Q : Int32 → AH → Prop} (q0 : Q 0 h) : C_X12_isDigit l g h (-1) Q :=
  c_X12_isDigit (s_X12_isDigit_0 ⟨fun _ => q0, fun z => absurd (by decide) z⟩)
/-- the model's TOKEN -/
def srt (k : Nat) : Nat := if k = 0 then 1 else if k = 1 then 2 else if k = 2 then 3 else if k = 3 then 0 else 4
def TokM (h : AH) (t : Nat × Nat × Nat × Nat) : Prop := h.1 103 14 = Int32.ofNat (srt t.1) ∧ h.1 103 15 = Int32.ofNat t.2.2.1 ∧ (t.1 ≠ 3 → h.1 103 13 = Int32.ofNat t.2.2.2) ∧ (3 < t.1 → h.1 103 16 = Int32.ofNat t.1) ∧ (t.1 = 1 → h.2.1 103 18 = Int64.ofNat t.2.1) ∧ (t.1 = 2 → h.1 103 17 = Int32.ofNat t.2.1)
theorem k_next {l : Launch} {g : AG} {h0 : AH} {T : Nat → Nat} {n p : Nat} {Q : AH → Prop} (hr0 : Refs h0) (hn : n ≤ 800) (hp : p ≤ n) (t0 : TapM h0 T n) (a0 : h0.1 103 13 = Int32.ofNat p)
    (hq : ∀ h', Refs h' → Fr PNx h0 h' → TokM h' (tk (bt T n) p) → Q h') : C_X12_next l g h0 103 Q := by
  obtain ⟨s1, s2, s3, s4⟩ := run_bt (q := isBl) (T := T) (by decide) hn hp
  unfold tk at hq
  revert hq s1 s2 s3 s4
  generalize runF isBl (bt T n) 801 p = s
  intro hq s1 s2 s3 s4
  -- a WORD
  have word : isLe (bt T n s) = true → (∀ h', Refs h' → Fr PNx h0 h' → TokM h' (if runF isLe (bt T n) 801 s - s ≤ 8 then 1 else 3, wM (bt T n) s (runF isLe (bt T n) 801 s - s), s, runF isLe (bt T n) 801 s) → Q h') → ∀ h, Refs h → Fr PNx h0 h → h.1 103 13 = Int32.ofNat s → h.1 103 14 = 0 → h.1 103 15 = Int32.ofNat s → h.2.1 103 18 = 0 → L_X12_next_93 l g h 103 0 Q := by
    intro c1
    obtain ⟨e1, e2, e3, e4⟩ := run_bt (q := isLe) (T := T) (by decide) hn s2
    revert e1 e2 e3 e4
    generalize runF isLe (bt T n) 801 s = e
    intro e1 e2 e3 e4 hq
    have loop : ∀ d k, s + k + d = e → ∀ h, Refs h → Fr PNx h0 h → h.1 103 13 = Int32.ofNat (s + k) → h.1 103 14 = 0 → h.1 103 15 = Int32.ofNat s → (k ≤ 8 → h.2.1 103 18 = Int64.ofNat (wM (bt T n) s k)) → L_X12_next_93 l g h 103 (Int32.ofNat k) Q := by
      intro d
      induction d with
      | zero =>
        intro k hk h hr f v13 v14 v15 v18
        have te : TapM h T n := t0.fr f (fun c p q => by unfold PNx at q; omega)
        have ek : e - s = k := by omega
        rw [ek] at hq
        have fin : (9 ≤ Int32.ofNat k → Q h) ∧ (¬ 9 ≤ Int32.ofNat k → ∀ h61, h61 = ax_setI h 103 14 2 → Q h61) := by
          refine ⟨fun z => ?_, fun z h61 e61 => ?_⟩
          · have k9 : ¬ k ≤ 8 := by have := (i_le (a := 9) (by omega) (by omega)).1 z; omega
            rw [if_neg k9] at hq
            exact hq h hr f ⟨v14, v15, fun y => absurd rfl y, fun y => absurd y (show ¬ 3 < 3 by omega), fun y => absurd y (show ¬ (3 : Nat) = 1 by decide), fun y => absurd y (show ¬ (3 : Nat) = 2 by decide)⟩
          · have k9 : k ≤ 8 := by
              rcases Nat.lt_or_ge 8 k with y | y
              · exact absurd ((i_le (a := 9) (by omega) (by omega)).2 y) z
              · exact y
            rw [if_pos k9] at hq
            refine hq h61 (by rw [e61]; exact hr.setI) (by rw [e61]; exact f.setI ⟨rfl, by omega, by omega⟩) ⟨by rw [e61, gI_s]; rfl, by rw [e61, gI_p (by omega)]; exact v15, fun _ => by rw [e61, gI_p (by omega), v13]; congr 1, fun y => absurd y (show ¬ 3 < 1 by omega), fun y => by rw [e61]; exact v18 k9, fun y => absurd y (show ¬ (1 : Nat) = 2 by decide)⟩
        refine s_X12_next_93 ?_
        rw [v13]
        refine ⟨is_103, k_byteAt hr te hn (by omega) (fun hlt => ?_) (fun hge => m_isLetter_n ⟨fun _ => fin, fun u => absurd rfl u⟩)⟩
        have t256 := (te.2 _ hlt).1
        refine m_isLetter (by omega) (fun y => ?_) (fun y => ⟨fun _ => fin, fun u => absurd rfl u⟩)
        rw [show e = s + k by omega, bt_in hlt, y] at e4
        exact absurd e4 (by decide)
      | succ d ih =>
        intro k hk h hr f v13 v14 v15 v18
        have te : TapM h T n := t0.fr f (fun c p q => by unfold PNx at q; omega)
        have hlt : s + k < n := by omega
        have lk := e3 (s + k) (by omega) (by omega)
        have bk := bt_in (T := T) hlt
        rw [bk] at lk
        have ld := le_iff.1 lk
        have t256 := (te.2 _ hlt).1
        refine s_X12_next_93 ?_
        rw [v13]
        refine ⟨is_103, k_byteAt hr te hn (by omega) (fun _ => ?_) (fun z => absurd z (by omega))⟩
        refine m_isLetter (by omega) (fun y => ⟨fun u => absurd u (by decide), fun _ => ⟨fun z => ?_, fun z => ?_⟩⟩) (fun y => absurd (y.symm.trans lk) (by decide))
        · intro v89 e89 h91 e91
          rw [e89, i_p1]
          rw [v13, i_p1] at e91
          have k8 := (i_le (a := 8) (by omega) (by omega)).1 z
          exact ih (k + 1) (by omega) h91 (by rw [e91]; exact hr.setI) (by rw [e91]; exact f.setI ⟨rfl, by omega, by omega⟩) (by rw [e91, gI_s]; rfl) (by rw [e91, gI_p (by omega)]; exact v14) (by rw [e91, gI_p (by omega)]; exact v15) (fun x => by omega)
        · have k8 : k < 8 := by
            rcases Nat.lt_or_ge k 8 with x | x
            · exact x
            · exact absurd ((i_le (a := 8) (by omega) (by omega)).2 x) z
          rw [v13]
          refine k_byteAt hr te hn (by omega) (fun _ => ?_) (fun z => absurd z (by omega))
          intro v96 e96 h98 e98 v100 e100 h102 e102
          have w13 : h98.1 103 13 = Int32.ofNat (s + k) := by rw [e98]; exact v13
          rw [w13, i_p1] at e102
          rw [e100, i_p1]
          refine ih (k + 1) (by omega) h102 (by rw [e102, e98]; exact hr.setL.setI) (by rw [e102, e98]; exact (f.setL ⟨rfl, by omega, by omega⟩).setI ⟨rfl, by omega, by omega⟩) (by rw [e102, gI_s]; rfl) (by rw [e102, e98, gI_p (by omega)]; exact v14) (by rw [e102, e98, gI_p (by omega)]; exact v15) (fun x => ?_)
          have : h102.2.1 103 18 = v96 := by rw [e102, e98]; exact gL_s _ _ _ _
          rw [this, e96, v18 (by omega), show (97 : Int32) = Int32.ofNat 97 from rfl, i_sub (by omega), i_p1, l_of (by omega), show (32 : Int64) = Int64.ofNat 32 from rfl, l_mul, l_add]
          show _ = Int64.ofNat (32 * wM (bt T n) s k + (bt T n (s + k) - 96))
          rw [bk]
          congr 1
          omega
    intro h hr f v13 v14 v15 v18
    exact loop (e - s) 0 (by omega) h hr f v13 v14 v15 (fun _ => v18)
  -- a NUMBER
  have num : isDi (bt T n s) = true → (∀ h', Refs h' → Fr PNx h0 h' → TokM h' (if runF isDi (bt T n) 801 s - s ≤ 2 then 2 else 3, nM (bt T n) s (runF isDi (bt T n) 801 s - s), s, runF isDi (bt T n) 801 s) → Q h') → ∀ h, Refs h → Fr PNx h0 h → h.1 103 13 = Int32.ofNat s → h.1 103 14 = 0 → h.1 103 15 = Int32.ofNat s → h.1 103 17 = 0 → L_X12_next_182 l g h 103 0 Q := by
    intro c1
    obtain ⟨e1, e2, e3, e4⟩ := run_bt (q := isDi) (T := T) (by decide) hn s2
    revert e1 e2 e3 e4
    generalize runF isDi (bt T n) 801 s = e
    intro e1 e2 e3 e4 hq
    have loop : ∀ d k, s + k + d = e → ∀ h, Refs h → Fr PNx h0 h → h.1 103 13 = Int32.ofNat (s + k) → h.1 103 14 = 0 → h.1 103 15 = Int32.ofNat s → (k ≤ 2 → h.1 103 17 = Int32.ofNat (nM (bt T n) s k)) → L_X12_next_182 l g h 103 (Int32.ofNat k) Q := by
      intro d
      induction d with
      | zero =>
        intro k hk h hr f v13 v14 v15 v18
        have te : TapM h T n := t0.fr f (fun c p q => by unfold PNx at q; omega)
        have ek : e - s = k := by omega
        rw [ek] at hq
        have fin : (3 ≤ Int32.ofNat k → Q h) ∧ (¬ 3 ≤ Int32.ofNat k → ∀ h61, h61 = ax_setI h 103 14 3 → Q h61) := by
          refine ⟨fun z => ?_, fun z h61 e61 => ?_⟩
          · have k9 : ¬ k ≤ 2 := by have := (i_le (a := 3) (by omega) (by omega)).1 z; omega
            rw [if_neg k9] at hq
            exact hq h hr f ⟨v14, v15, fun y => absurd rfl y, fun y => absurd y (show ¬ 3 < 3 by omega), fun y => absurd y (show ¬ (3 : Nat) = 1 by decide), fun y => absurd y (show ¬ (3 : Nat) = 2 by decide)⟩
          · have k9 : k ≤ 2 := by
              rcases Nat.lt_or_ge 2 k with y | y
              · exact absurd ((i_le (a := 3) (by omega) (by omega)).2 y) z
              · exact y
            rw [if_pos k9] at hq
            refine hq h61 (by rw [e61]; exact hr.setI) (by rw [e61]; exact f.setI ⟨rfl, by omega, by omega⟩) ⟨by rw [e61, gI_s]; rfl, by rw [e61, gI_p (by omega)]; exact v15, fun _ => by rw [e61, gI_p (by omega), v13]; congr 1, fun y => absurd y (show ¬ 3 < 2 by omega), fun y => absurd y (show ¬ (2 : Nat) = 1 by decide), fun y => by rw [e61, gI_p (by omega)]; exact v18 k9⟩
        refine s_X12_next_182 ?_
        rw [v13]
        refine ⟨is_103, k_byteAt hr te hn (by omega) (fun hlt => ?_) (fun hge => m_isDigit_n ⟨fun _ => fin, fun u => absurd rfl u⟩)⟩
        have t256 := (te.2 _ hlt).1
        refine m_isDigit (by omega) (fun y => ?_) (fun y => ⟨fun _ => fin, fun u => absurd rfl u⟩)
        rw [show e = s + k by omega, bt_in hlt, y] at e4
        exact absurd e4 (by decide)
      | succ d ih =>
        intro k hk h hr f v13 v14 v15 v18
        have te : TapM h T n := t0.fr f (fun c p q => by unfold PNx at q; omega)
        have hlt : s + k < n := by omega
        have lk := e3 (s + k) (by omega) (by omega)
        have bk := bt_in (T := T) hlt
        rw [bk] at lk
        have ld := di_iff.1 lk
        have t256 := (te.2 _ hlt).1
        refine s_X12_next_182 ?_
        rw [v13]
        refine ⟨is_103, k_byteAt hr te hn (by omega) (fun _ => ?_) (fun z => absurd z (by omega))⟩
        refine m_isDigit (by omega) (fun y => ⟨fun u => absurd u (by decide), fun _ => ⟨fun z => ?_, fun z => ?_⟩⟩) (fun y => absurd (y.symm.trans lk) (by decide))
        · intro v89 e89 h91 e91
          rw [e89, i_p1]
          rw [v13, i_p1] at e91
          have k8 := (i_le (a := 2) (by omega) (by omega)).1 z
          exact ih (k + 1) (by omega) h91 (by rw [e91]; exact hr.setI) (by rw [e91]; exact f.setI ⟨rfl, by omega, by omega⟩) (by rw [e91, gI_s]; rfl) (by rw [e91, gI_p (by omega)]; exact v14) (by rw [e91, gI_p (by omega)]; exact v15) (fun x => by omega)
        · have k8 : k < 2 := by
            rcases Nat.lt_or_ge k 2 with x | x
            · exact x
            · exact absurd ((i_le (a := 2) (by omega) (by omega)).2 x) z
          rw [v13]
          refine k_byteAt hr te hn (by omega) (fun _ => ?_) (fun z => absurd z (by omega))
          intro h71 e71 v73 e73 h75 e75
          have w13 : h71.1 103 13 = Int32.ofNat (s + k) := by rw [e71, gI_p (by omega)]; exact v13
          rw [w13, i_p1] at e75
          rw [e73, i_p1]
          refine ih (k + 1) (by omega) h75 (by rw [e75, e71]; exact hr.setI.setI) (by rw [e75, e71]; exact (f.setI ⟨rfl, by omega, by omega⟩).setI ⟨rfl, by omega, by omega⟩) (by rw [e75, gI_s]; rfl) (by rw [e75, e71, gI_p (by omega), gI_p (by omega)]; exact v14) (by rw [e75, e71, gI_p (by omega), gI_p (by omega)]; exact v15) (fun x => ?_)
          rw [e75, gI_p (by omega), e71, gI_s, v18 (by omega), show (10 : Int32) = Int32.ofNat 10 from rfl, show (48 : Int32) = Int32.ofNat 48 from rfl, i_mul, i_add, i_sub (by omega)]
          show _ = Int32.ofNat (10 * nM (bt T n) s k + (bt T n (s + k) - 48))
          rw [bk]
          congr 1
          omega
    intro h hr f v13 v14 v15 v18
    exact loop (e - s) 0 (by omega) h hr f v13 v14 v15 (fun _ => v18)
  have loop : ∀ d k, p + k + d = s → ∀ h, Refs h → Fr PNx h0 h → h.1 103 13 = Int32.ofNat (p + k) → L_X12_next_0 l g h 103 Q := by
    intro d
    induction d with
    | zero =>
      intro k hk h hr f v13
      have te : TapM h T n := t0.fr f (fun c p q => by unfold PNx at q; omega)
      have ek : p + k = s := by omega
      rw [ek] at v13
      -- behind the blanks
      have fin : ∀ h12, h12 = ax_setI h 103 15 (h.1 103 13) → ∀ h14, h14 = ax_setI h12 103 14 0 → ∀ h16, h16 = ax_setI h14 103 16 0 → Refs h16 ∧ Fr PNx h0 h16 ∧ h16.1 103 13 = Int32.ofNat s ∧ h16.1 103 14 = 0 ∧ h16.1 103 15 = Int32.ofNat s := by
        intro h12 e12 h14 e14 h16 e16
        rw [v13] at e12
        refine ⟨by rw [e16, e14, e12]; exact hr.setI.setI.setI, by rw [e16, e14, e12]; exact ((f.setI ⟨rfl, by omega, by omega⟩).setI ⟨rfl, by omega, by omega⟩).setI ⟨rfl, by omega, by omega⟩, by rw [e16, e14, e12, gI_p (by omega), gI_p (by omega), gI_p (by omega)]; exact v13, by rw [e16, gI_p (by omega), e14, gI_s], by rw [e16, e14, gI_p (by omega), gI_p (by omega), e12, gI_s]⟩
      refine s_X12_next_0 ?_
      rw [v13]
      refine ⟨is_103, k_byteAt hr te hn (by omega) (fun hlt => ?_) (fun hge => ?_)⟩
      · have t256 := (te.2 _ hlt).1
        have nb : ¬ (T s = 32 ∨ T s = 10) := fun y => by
          rw [bt_in hlt, bl_iff.2 y] at s4
          exact absurd s4 (by decide)
        refine ⟨fun y => absurd (Or.inl ((i_eq (b := 32) (by omega) (by omega)).1 y)) nb, fun y => ?_⟩
        rw [v13]
        refine k_byteAt hr te hn (by omega) (fun _ => ⟨fun x => ?_, fun x => absurd (Or.inr ((i_eq (b := 10) (by omega) (by omega)).1 x)) nb⟩) (fun z => absurd z (by omega))
        intro h12 e12 h14 e14 h16 e16
        obtain ⟨r16, f16, w13, w14, w15⟩ := fin h12 e12 h14 e14 h16 e16
        clear e12 e14 e16
        have te : TapM h16 T n := t0.fr f16 (fun c p q => by unfold PNx at q; omega)
        rw [w13]
        rw [if_neg (by rw [bt_in hlt]; omega)] at hq
        refine k_byteAt r16 te hn (by omega) (fun _ => ⟨fun _ => ?_, fun z => absurd z (i_ne (by omega))⟩) (fun z => absurd z (by omega))
        refine m_isLetter (by omega) (fun y => ⟨fun u => absurd u (by decide), fun _ => ?_⟩) (fun y => ⟨fun _ => ?_, fun u => absurd rfl u⟩)
        · have c1 : isLe (bt T n s) = true := by rw [bt_in hlt]; exact y
          rw [if_pos c1] at hq
          intro h39 e39
          exact word c1 hq h39 (by rw [e39]; exact r16.setL) (by rw [e39]; exact f16.setL ⟨rfl, by omega, by omega⟩) (by rw [e39]; exact w13) (by rw [e39]; exact w14) (by rw [e39]; exact w15) (by rw [e39]; exact gL_s _ _ _ _)
        · rw [if_neg (by rw [bt_in hlt, y]; decide)] at hq
          refine m_isDigit (by omega) (fun x => ⟨fun u => absurd u (by decide), fun _ => ?_⟩) (fun x => ⟨fun _ => ?_, fun u => absurd rfl u⟩)
          · have c1 : isDi (bt T n s) = true := by rw [bt_in hlt]; exact x
            rw [if_pos c1] at hq
            intro h37 e37
            exact num c1 hq h37 (by rw [e37]; exact r16.setI) (by rw [e37]; exact f16.setI ⟨rfl, by omega, by omega⟩) (by rw [e37, gI_p (by omega)]; exact w13) (by rw [e37, gI_p (by omega)]; exact w14) (by rw [e37, gI_p (by omega)]; exact w15) (by rw [e37]; exact gI_s _ _ _ _)
          · rw [if_neg (by rw [bt_in hlt, x]; decide), bt_in hlt] at hq
            have sg : isSi (T s) = true → L_X12_next_295 l g h16 103 (Int32.ofNat (T s)) Q := by
              intro w
              rw [if_pos w] at hq
              have sg := si_iff.1 w
              refine s_X12_next_295 ⟨is_103, ?_⟩
              intro h46 e46 h48 e48
              have y13 : h48.1 103 13 = Int32.ofNat s := by rw [e48, e46, gI_p (by omega), gI_p (by omega)]; exact w13
              rw [y13, i_p1]
              intro h50 e50
              have es : srt (T s) = 4 := by
                unfold srt
                rw [if_neg (by omega), if_neg (by omega), if_neg (by omega), if_neg (by omega)]
              refine hq h50 (by rw [e50, e48, e46]; exact r16.setI.setI.setI) (by rw [e50, e48, e46]; exact ((f16.setI ⟨rfl, by omega, by omega⟩).setI ⟨rfl, by omega, by omega⟩).setI ⟨rfl, by omega, by omega⟩) ⟨?_, ?_, fun _ => by rw [e50, gI_s], fun _ => by rw [e50, gI_p (by omega), e48, gI_s], fun u => ?_, fun u => ?_⟩
              · rw [e50, gI_p (by omega), e48, gI_p (by omega), e46, gI_s]
                show _ = Int32.ofNat (srt (T s))
                rw [es]; rfl
              · rw [e50, gI_p (by omega), e48, gI_p (by omega), e46, gI_p (by omega)]; exact w15
              · have u2 : T s = 1 := u
                omega
              · have u2 : T s = 2 := u
                omega
            simp (disch := first | assumption | omega) only [true_and, and_true, forall_eq, true_implies, false_implies, implies_true, not_true_eq_false, not_false_eq_true, false_and, and_false, ne_eq, ite_true, ite_false, Nat.reduceLeDiff, Nat.reduceEqDiff, Nat.reduceLT, Nat.reduceAdd, Nat.reduceMul, Nat.reduceSub, Nat.le_refl, eq_self, li_0, li_1, li_2, li_3, li_4, li_5, li_6, li_7, li_8, li_9, li_10, li_11, li_12, li_13, li_14, li_15, li_16, li_17, li_18, li_19, li_20, li_21, li_22, li_23, li_24, li_25, li_26, li_27, li_28, li_29, li_30, li_31, li_32, li_44, li_48, li_57, li_59, li_60, li_61, li_62, li_63, li_97, li_100, li_122, li_123, li_125, li_127, li_255, li_400, li_401, li_800, li_1023, li_1024, li_10827, i_add, i_mul, i_sub, i_p1, i_m1, i_nm, i_nm2, i_cl, i_cl0, vi_ok, i_lt, i_le, i_eq, lg_e]
            refine ⟨fun z => sg (decide_eq_true (by omega)), fun z1 => ⟨fun z => sg (decide_eq_true (by omega)), fun z2 => ⟨fun z => sg (decide_eq_true (by omega)), fun z3 => ⟨fun z => sg (decide_eq_true (by omega)), fun z4 => ⟨fun z => sg (decide_eq_true (by omega)), fun z5 => ⟨fun z => sg (decide_eq_true (by omega)), fun z6 => ⟨fun z => ?_, fun z => sg (decide_eq_true (by omega))⟩⟩⟩⟩⟩⟩⟩
            rw [if_neg (by rw [show isSi (T s) = false from decide_eq_false (by omega)]; decide)] at hq
            exact hq h16 r16 f16 ⟨w14, w15, fun y => absurd rfl y, fun y => absurd y (show ¬ 3 < 3 by omega), fun y => absurd y (show ¬ (3 : Nat) = 1 by decide), fun y => absurd y (show ¬ (3 : Nat) = 2 by decide)⟩
      · refine ⟨fun y => absurd y (by decide), fun y => ?_⟩
        rw [v13]
        refine k_byteAt hr te hn (by omega) (fun z => absurd z (by omega)) (fun _ => ⟨fun _ => ?_, fun z => absurd z (by decide)⟩)
        intro h12 e12 h14 e14 h16 e16
        obtain ⟨r16, f16, w13, w14, w15⟩ := fin h12 e12 h14 e14 h16 e16
        clear e12 e14 e16
        have te : TapM h16 T n := t0.fr f16 (fun c p q => by unfold PNx at q; omega)
        rw [w13]
        rw [if_pos (bt_out hge)] at hq
        refine k_byteAt r16 te hn (by omega) (fun z => absurd z (by omega)) (fun _ => ⟨fun z => absurd rfl z, fun _ => ?_⟩)
        intro h41 e41
        exact hq h41 (by rw [e41]; exact r16.setI) (by rw [e41]; exact f16.setI ⟨rfl, by omega, by omega⟩) ⟨by rw [e41, gI_s]; rfl, by rw [e41, gI_p (by omega)]; exact w15, fun _ => by rw [e41, gI_p (by omega)]; exact w13, fun y => absurd y (show ¬ 3 < 0 by omega), fun y => absurd y (show ¬ (0 : Nat) = 1 by decide), fun y => absurd y (show ¬ (0 : Nat) = 2 by decide)⟩
    | succ d ih =>
      intro k hk h hr f v13
      have te : TapM h T n := t0.fr f (fun c p q => by unfold PNx at q; omega)
      have hlt : p + k < n := by omega
      have t256 := (te.2 _ hlt).1
      have bl := bl_iff.1 (s3 (p + k) (by omega) (by omega))
      rw [bt_in hlt] at bl
      have nx : L_X12_next_0 l g (ax_setI h 103 13 (Int32.ofNat (p + k) + 1)) 103 Q := by
        rw [i_p1]
        exact ih (k + 1) (by omega) _ hr.setI (f.setI ⟨rfl, by omega, by omega⟩) (by rw [gI_s]; rfl)
      refine s_X12_next_0 ?_
      rw [v13]
      refine ⟨is_103, k_byteAt hr te hn (by omega) (fun _ => ⟨fun y => ?_, fun y => ?_⟩) (fun z => absurd z (by omega))⟩
      · intro h6 e6
        rw [e6, v13]; exact nx
      · rw [v13]
        refine k_byteAt hr te hn (by omega) (fun _ => ⟨fun x => ?_, fun x => ?_⟩) (fun z => absurd z (by omega))
        · rcases bl with w | w
          · rw [w] at y; exact absurd rfl y
          · rw [w] at x; exact absurd rfl x
        · intro h43 e43
          rw [e43, v13]; exact nx
  exact c_X12_next (loop (s - p) 0 (by omega) h0 hr0 (Fr.refl _ _) a0)
