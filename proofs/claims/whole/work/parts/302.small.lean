theorem k_X9_refused {l : Launch} {g : AG} {h : AH} {x1 : Int32} {Q : Int32 → AH → Prop} (hq : Q (-1) (ax_setI h 1 12 x1)) : C_X9_refused l g h 1 x1 Q := by
  refine c_X9_refused (s_X9_refused_0 ⟨⟨by decide, rfl⟩, ?_⟩)
  intro h2 e
  subst e
  exact hq
theorem k_X9_granted {l : Launch} {g : AG} {h : AH} {x1 : Int32} {Q : Int32 → AH → Prop} (hq : Q x1 (ax_setI h 1 12 0)) : C_X9_granted l g h 1 x1 Q := by
  refine c_X9_granted (s_X9_granted_0 ⟨⟨by decide, rfl⟩, ?_⟩)
  intro h2 e
  subst e
  exact hq
theorem k_X12_refused {l : Launch} {g : AG} {h : AH} {x1 : Int32} {Q : Int32 → AH → Prop} (hq : Q (-1) (ax_setI (ax_setI h 103 1 x1) 103 2 (-1))) : C_X12_refused l g h 103 x1 Q := by
  refine c_X12_refused (s_X12_refused_0 ⟨⟨by decide, rfl⟩, ?_⟩)
  intro h2 e h3 e3
  subst e e3
  exact hq
theorem k_X12_done {l : Launch} {g : AG} {h : AH} {x1 : Int32} {Q : Int32 → AH → Prop} (hq : Q x1 (ax_setI (ax_setI h 103 1 0) 103 2 (-1))) : C_X12_done l g h 103 x1 Q := by
  refine c_X12_done (s_X12_done_0 ⟨⟨by decide, rfl⟩, ?_⟩)
  intro h2 e h3 e3
  subst e e3
  exact hq
theorem k_X9_fault {l : Launch} {g : AG} {h : AH} {Q : Int32 → AH → Prop} (hr : Refs h) (hq : Q (h.1 67 3) h) : C_X9_fault l g h 1 Q := by
  refine c_X9_fault (s_X9_fault_0 ?_)
  rw [rf_1_4 hr]
  exact ⟨⟨by decide, rfl⟩, ⟨by decide, rfl⟩, hq⟩
theorem k_X12_fault {l : Launch} {g : AG} {h : AH} {Q : Int32 → AH → Prop} (hq : Q (h.1 103 3) (ax_setI h 103 0 0)) : C_X12_fault l g h 103 Q := by
  refine c_X12_fault (s_X12_fault_0 ⟨⟨by decide, rfl⟩, ?_⟩)
  intro h2 e
  subst e
  rw [gI_I]
  simpa using hq
theorem k_X9_where {l : Launch} {g : AG} {h : AH} {Q : Int32 → AH → Prop} (hr : Refs h) (hq : Q (if h.1 1 12 = 3 then h.1 67 4 else -1) h) : C_X9_where l g h 1 Q := by
  refine c_X9_where (s_X9_where_0 ?_)
  rw [rf_1_4 hr]
  refine ⟨⟨by decide, rfl⟩, fun c => ?_, fun c => ⟨⟨by decide, rfl⟩, ?_⟩⟩
  · rw [if_neg c] at hq; exact hq
  · rw [if_pos c] at hq; exact hq
theorem k_X12_where {l : Launch} {g : AG} {h : AH} {Q : Int32 → AH → Prop} (hq : Q (h.1 103 2) (ax_setI h 103 0 0)) : C_X12_where l g h 103 Q := by
  refine c_X12_where (s_X12_where_0 ⟨⟨by decide, rfl⟩, ?_⟩)
  intro h2 e
  subst e
  rw [gI_I]
  simpa using hq
theorem k_X9_trouble {l : Launch} {g : AG} {h : AH} {Q : Int32 → AH → Prop} (hq : Q (h.1 1 12) h) : C_X9_trouble l g h 1 Q := c_X9_trouble (s_X9_trouble_0 ⟨⟨by decide, rfl⟩, hq⟩)
theorem k_X12_trouble {l : Launch} {g : AG} {h : AH} {Q : Int32 → AH → Prop} (hq : Q (h.1 103 1) (ax_setI h 103 0 0)) : C_X12_trouble l g h 103 Q := by
  refine c_X12_trouble (s_X12_trouble_0 ⟨⟨by decide, rfl⟩, ?_⟩)
  intro h2 e
  subst e
  rw [gI_I]
  simpa using hq
theorem k_X9_tried {l : Launch} {g : AG} {h : AH} {Q : Int32 → AH → Prop} (hq : Q (h.1 1 11) h) : C_X9_tried l g h 1 Q := c_X9_tried (s_X9_tried_0 ⟨⟨by decide, rfl⟩, hq⟩)
theorem k_X12_tried {l : Launch} {g : AG} {h : AH} {Q : Int32 → AH → Prop} (hq : Q (h.1 103 41) (ax_setI h 103 0 0)) : C_X12_tried l g h 103 Q := by
  refine c_X12_tried (s_X12_tried_0 ⟨⟨by decide, rfl⟩, ?_⟩)
  intro h2 e
  subst e
  rw [gI_I]
  simpa using hq
theorem k_X12_isAct {l : Launch} {g : AG} {h : AH} {x0 : Int32} {Q : Int32 → AH → Prop} (hq : Q (if 0 ≤ x0 ∧ x0 < 27 then 1 else 0) h) : C_X12_isAct l g h x0 Q := by
  refine c_X12_isAct (s_X12_isAct_0 ⟨fun c => ?_, fun c => ⟨fun d => ?_, fun d => ?_⟩⟩)
  · rw [if_neg (fun q => absurd c (by have := q.1; rw [Int32.lt_iff_toInt_lt]; rw [Int32.le_iff_toInt_le] at this; omega))] at hq
    exact hq
  · rw [if_neg (fun q => absurd d (by have := q.2; rw [Int32.le_iff_toInt_le]; rw [Int32.lt_iff_toInt_lt] at this; omega))] at hq
    exact hq
  · rw [if_pos ⟨by rw [Int32.lt_iff_toInt_lt] at c; rw [Int32.le_iff_toInt_le]; omega, by rw [Int32.le_iff_toInt_le] at d; rw [Int32.lt_iff_toInt_lt]; omega⟩] at hq
    exact hq
theorem k_X1_stands {l : Launch} {g : AG} {h : AH} {Q : Int32 → AH → Prop} (hq : Q (if h.1 74 0 = -1 then 0 else 1) h) : C_X1_stands l g h 74 Q := by
  refine c_X1_stands (s_X1_stands_0 ⟨⟨by decide, rfl⟩, fun c => ?_, fun c => ?_⟩)
  · rw [if_pos c] at hq; exact hq
  · rw [if_neg c] at hq; exact hq
theorem k_X1_many {l : Launch} {g : AG} {h : AH} {Q : Int32 → AH → Prop} (hr : Refs h) (hq : Q (if h.1 74 0 = -1 then 0 else h.1 75 0) h) : C_X1_many l g h 74 Q := by
  refine c_X1_many (s_X1_many_0 ⟨⟨by decide, rfl⟩, k_X1_stands ?_⟩)
  rw [rf_74_2 hr]
  by_cases c : h.1 74 0 = -1
  · rw [if_pos c] at hq ⊢
    exact ⟨fun _ => hq, fun d => absurd rfl d⟩
  · rw [if_neg c] at hq ⊢
    exact ⟨fun d => absurd d (by decide), fun _ => ⟨⟨by decide, rfl⟩, hq⟩⟩
