def C_X12_isWord (l : Launch) (g : AG) (h : AH) (x0 : Nat) (x1 : Nat)  (Q : Int32 → AH → Prop) : Prop := Ct l g mX12_isWord 5 143 194 194 h [.ref x0, .ref x1] (ax_QI Q)
def L_X12_isWord_0 (l : Launch) (g : AG) (h : AH) (x0 : Nat) (x1 : Nat)  (Q : Int32 → AH → Prop) : Prop := Wp l g mX12_isWord 5 143 194 194 194 0 [(0, .ref x0), (1, .ref x1)] [] h (FM g 194 194 (ax_QI Q))
set_option maxRecDepth 100000 in
set_option maxHeartbeats 4000000 in
theorem s_X12_isWord_0 {l : Launch} {g : AG} {h : AH} {x0 : Nat} {x1 : Nat}  {Q : Int32 → AH → Prop} (hb : (Is 194 x0 11) ∧ ( ((¬ h.1 x0 14 = 2 → (Q 0 h)) ∧ (h.1 x0 14 = 2 → (C_X12_wordOf l g h x1 (fun r5 h4 => ( ((¬ lg_cmp (h.2.1 x0 18) r5 = 0 → (Q 0 h4)) ∧ (lg_cmp (h.2.1 x0 18) r5 = 0 → (Q 1 h4)))))))))) : L_X12_isWord_0 l g h x0 x1  Q := by
  obtain ⟨i1, hb⟩ := hb
  refine wp_aload_n 0 dX12_isWord_0 rfl rfl ?_
  refine wp_getI dX12_isWord_1 fl_X12_159 i1 ?_
  refine wp_iconst (v := 2) dX12_isWord_4 (by decide) ?_
  refine wp_icmp_ne (tgt := 24) dX12_isWord_5 (by decide) (fun c2 => ?_) (fun c2 => ?_)
  · have hb := hb.1 c2
    refine wp_iconst (v := 0) dX12_isWord_24 (by decide) ?_
    exact wp_zret rfl dX12_isWord_25 (Or.inl rfl) ⟨_, rfl, hb⟩
  · have hb := hb.2 c2
    refine wp_aload_n 0 dX12_isWord_8 rfl rfl ?_
    refine wp_getL dX12_isWord_9 fl_X12_169 i1 ?_
    refine wp_aload_n 1 dX12_isWord_12 rfl rfl ?_
    refine wp_callS (as := [.ref x1]) dX12_isWord_13 cb_X12_wordOf lk_X12_179 st_X12_wordOf rfl (Nat.le_of_ble_eq_true rfl) ⟨by decide, by decide⟩ ⟨Nat.le_refl _, Nat.le_refl _, Nat.le_refl _⟩ hb (fun r0 h4 hb => ?_)
    obtain ⟨r5, rfl, hb⟩ := hb
    refine wp_lcmp dX12_isWord_16 ?_
    refine wp_if_ne (tgt := 24) dX12_isWord_17 (by decide) (fun c6 => ?_) (fun c6 => ?_)
    · have hb := hb.1 c6
      refine wp_iconst (v := 0) dX12_isWord_24 (by decide) ?_
      exact wp_zret rfl dX12_isWord_25 (Or.inl rfl) ⟨_, rfl, hb⟩
    · have hb := hb.2 c6
      refine wp_iconst (v := 1) dX12_isWord_20 (by decide) ?_
      refine wp_goto (tgt := 25) dX12_isWord_21 (by decide) ?_
      exact wp_zret rfl dX12_isWord_25 (Or.inr rfl) ⟨_, rfl, hb⟩
theorem c_X12_isWord {l : Launch} {g : AG} {h : AH} {x0 : Nat} {x1 : Nat}  {Q : Int32 → AH → Prop} (hb : L_X12_isWord_0 l g h x0 x1  Q) : C_X12_isWord l g h x0 x1  Q := ax_met rfl (Nat.le_of_ble_eq_true rfl) hb
def C_X12_is (l : Launch) (g : AG) (h : AH) (x0 : Nat) (x1 : Int32)  (Q : Int32 → AH → Prop) : Prop := Ct l g mX12_is 0 0 194 194 h [.ref x0, .int x1] (ax_QI Q)
def L_X12_is_0 (l : Launch) (g : AG) (h : AH) (x0 : Nat) (x1 : Int32)  (Q : Int32 → AH → Prop) : Prop := Wp l g mX12_is 0 0 194 194 194 0 [(0, .ref x0), (1, .int x1)] [] h (FM g 194 194 (ax_QI Q))
set_option maxRecDepth 100000 in
set_option maxHeartbeats 4000000 in
theorem s_X12_is_0 {l : Launch} {g : AG} {h : AH} {x0 : Nat} {x1 : Int32}  {Q : Int32 → AH → Prop} (hb : (Is 194 x0 11) ∧ ( ((¬ h.1 x0 14 = 4 → (Q 0 h)) ∧ (h.1 x0 14 = 4 → (((¬ h.1 x0 16 = x1 → (Q 0 h)) ∧ (h.1 x0 16 = x1 → (Q 1 h)))))))) : L_X12_is_0 l g h x0 x1  Q := by
  obtain ⟨i1, hb⟩ := hb
  refine wp_aload_n 0 dX12_is_0 rfl rfl ?_
  refine wp_getI dX12_is_1 fl_X12_159 i1 ?_
  refine wp_iconst (v := 4) dX12_is_4 (by decide) ?_
  refine wp_icmp_ne (tgt := 20) dX12_is_5 (by decide) (fun c2 => ?_) (fun c2 => ?_)
  · have hb := hb.1 c2
    refine wp_iconst (v := 0) dX12_is_20 (by decide) ?_
    exact wp_zret rfl dX12_is_21 (Or.inl rfl) ⟨_, rfl, hb⟩
  · have hb := hb.2 c2
    refine wp_aload_n 0 dX12_is_8 rfl rfl ?_
    refine wp_getI dX12_is_9 fl_X12_162 i1 ?_
    refine wp_iload_n 1 dX12_is_12 rfl rfl ?_
    refine wp_icmp_ne (tgt := 20) dX12_is_13 (by decide) (fun c3 => ?_) (fun c3 => ?_)
    · have hb := hb.1 c3
      refine wp_iconst (v := 0) dX12_is_20 (by decide) ?_
      exact wp_zret rfl dX12_is_21 (Or.inl rfl) ⟨_, rfl, hb⟩
    · have hb := hb.2 c3
      refine wp_iconst (v := 1) dX12_is_16 (by decide) ?_
      refine wp_goto (tgt := 21) dX12_is_17 (by decide) ?_
      exact wp_zret rfl dX12_is_21 (Or.inr rfl) ⟨_, rfl, hb⟩
theorem c_X12_is {l : Launch} {g : AG} {h : AH} {x0 : Nat} {x1 : Int32}  {Q : Int32 → AH → Prop} (hb : L_X12_is_0 l g h x0 x1  Q) : C_X12_is l g h x0 x1  Q := ax_met rfl (Nat.le_of_ble_eq_true rfl) hb
def C_X12_find (l : Launch) (g : AG) (h : AH) (x0 : Nat) (x1 : Int32) (x2 : Int32) (x3 : Int64)  (Q : Int32 → AH → Prop) : Prop := Ct l g mX12_find 0 0 194 194 h [.ref x0, .int x1, .int x2, .long x3] (ax_QI Q)
def L_X12_find_0 (l : Launch) (g : AG) (h : AH) (x0 : Nat) (x1 : Int32) (x2 : Int32) (x3 : Int64)  (Q : Int32 → AH → Prop) : Prop := Wp l g mX12_find 0 0 194 194 194 0 [(0, .ref x0), (1, .int x1), (2, .int x2), (3, .long x3)] [] h (FM g 194 194 (ax_QI Q))
def L_X12_find_3 (l : Launch) (g : AG) (h : AH) (x0 : Nat) (x2 : Int32) (x3 : Int64) (x5 : Int32)  (Q : Int32 → AH → Prop) : Prop := Wp l g mX12_find 0 0 194 194 194 3 [(0, .ref x0), (2, .int x2), (3, .long x3), (5, .int x5)] [] h (FM g 194 194 (ax_QI Q))
def L_X12_find_24 (l : Launch) (g : AG) (h : AH) (x2 : Int32) (x5 : Int32)  (Q : Int32 → AH → Prop) : Prop := Wp l g mX12_find 0 0 194 194 194 24 [(2, .int x2), (5, .int x5)] [] h (FM g 194 194 (ax_QI Q))
set_option maxRecDepth 100000 in
set_option maxHeartbeats 4000000 in
theorem s_X12_find_0 {l : Launch} {g : AG} {h : AH} {x0 : Nat} {x1 : Int32} {x2 : Int32} {x3 : Int64}  {Q : Int32 → AH → Prop} (hb : L_X12_find_3 l g h x0 x2 x3 x1  Q) : L_X12_find_0 l g h x0 x1 x2 x3  Q := by
  refine wp_iload_n 1 dX12_find_0 rfl rfl ?_
  refine wp_istore (lv2 := [(5, .int x1), (0, .ref x0), (1, .int x1), (2, .int x2), (3, .long x3)]) dX12_find_1 (by decide) rfl ?_
  exact wp_sub [1, 3, 4, 0] rfl hb
set_option maxRecDepth 100000 in
set_option maxHeartbeats 4000000 in
theorem s_X12_find_3 {l : Launch} {g : AG} {h : AH} {x0 : Nat} {x2 : Int32} {x3 : Int64} {x5 : Int32}  {Q : Int32 → AH → Prop} (hb : ((x2 ≤ x5 → (L_X12_find_24 l g h x2 x5  Q)) ∧ (¬ (x2 ≤ x5) → ((Is 194 x0 21) ∧ ( (vp_in x5 (ax_s x0).2) ∧ ( ((lg_cmp (h.2.1 x0 x5.toNatClampNeg) x3 = 0 → (L_X12_find_24 l g h x2 x5  Q)) ∧ (¬ (lg_cmp (h.2.1 x0 x5.toNatClampNeg) x3 = 0) → (∀ v5 : Int32, v5 = x5 + (1) → ( L_X12_find_3 l g h x0 x2 x3 v5  Q)))))))))) : L_X12_find_3 l g h x0 x2 x3 x5  Q := by
  refine wp_iload 3 dX12_find_3 rfl ?_
  refine wp_iload_n 1 dX12_find_5 rfl rfl ?_
  refine wp_icmp_ge (tgt := 24) dX12_find_6 (by decide) (fun c1 => ?_) (fun c1 => ?_)
  · have hb := hb.1 c1
    exact wp_sub [1, 3] rfl hb
  · have hb := hb.2 c1
    obtain ⟨i2, hb⟩ := hb
    refine wp_aload_n 0 dX12_find_9 rfl rfl ?_
    refine wp_iload 3 dX12_find_10 rfl ?_
    obtain ⟨b3, hb⟩ := hb
    refine wp_laload dX12_find_12 i2 b3 ?_
    refine wp_lload_n 2 dX12_find_13 rfl rfl ?_
    refine wp_lcmp dX12_find_14 ?_
    refine wp_if_eq (tgt := 24) dX12_find_15 (by decide) (fun c4 => ?_) (fun c4 => ?_)
    · have hb := hb.1 c4
      exact wp_sub [1, 3] rfl hb
    · have hb := hb.2 c4
      obtain ⟨v5, e6⟩ : ∃ y : Int32, y = x5 + (1) := ⟨_, rfl⟩
      have hb := hb v5 e6
      refine wp_iinc (v := v5) (lv2 := [(5, .int v5), (0, .ref x0), (2, .int x2), (3, .long x3)]) 3 dX12_find_18 rfl (by rw [e6]; rfl) (by decide) rfl ?_
      refine wp_goto (tgt := 3) dX12_find_21 (by decide) ?_
      exact wp_sub [1, 2, 3, 0] rfl hb
set_option maxRecDepth 100000 in
set_option maxHeartbeats 4000000 in
theorem s_X12_find_24 {l : Launch} {g : AG} {h : AH} {x2 : Int32} {x5 : Int32}  {Q : Int32 → AH → Prop} (hb : ((x2 ≤ x5 → (Q (-1) h)) ∧ (¬ (x2 ≤ x5) → (Q x5 h)))) : L_X12_find_24 l g h x2 x5  Q := by
  refine wp_iload 1 dX12_find_24 rfl ?_
  refine wp_iload_n 0 dX12_find_26 rfl rfl ?_
  refine wp_icmp_ge (tgt := 35) dX12_find_27 (by decide) (fun c7 => ?_) (fun c7 => ?_)
  · have hb := hb.1 c7
    refine wp_iconst (v := (-1)) dX12_find_35 (by decide) ?_
    exact wp_iret rfl dX12_find_36 ⟨_, rfl, hb⟩
  · have hb := hb.2 c7
    refine wp_iload 1 dX12_find_30 rfl ?_
    refine wp_goto (tgt := 36) dX12_find_32 (by decide) ?_
    exact wp_iret rfl dX12_find_36 ⟨_, rfl, hb⟩
theorem c_X12_find {l : Launch} {g : AG} {h : AH} {x0 : Nat} {x1 : Int32} {x2 : Int32} {x3 : Int64}  {Q : Int32 → AH → Prop} (hb : L_X12_find_0 l g h x0 x1 x2 x3  Q) : C_X12_find l g h x0 x1 x2 x3  Q := ax_met rfl (Nat.le_of_ble_eq_true rfl) hb
def C_X12_feed (l : Launch) (g : AG) (h : AH) (x0 : Nat) (x1 : Int32) (x2 : Int32) (x3 : Int32) (x4 : Int32) (x5 : Int32)  (Q : Int32 → AH → Prop) : Prop := Ct l g mX12_feed 0 0 194 194 h [.ref x0, .int x1, .int x2, .int x3, .int x4, .int x5] (ax_QI Q)
def L_X12_feed_0 (l : Launch) (g : AG) (h : AH) (x0 : Nat) (x1 : Int32) (x2 : Int32) (x3 : Int32) (x4 : Int32) (x5 : Int32)  (Q : Int32 → AH → Prop) : Prop := Wp l g mX12_feed 0 0 194 194 194 0 [(0, .ref x0), (1, .int x1), (2, .int x2), (3, .int x3), (4, .int x4), (5, .int x5)] [] h (FM g 194 194 (ax_QI Q))
def L_X12_feed_23 (l : Launch) (g : AG) (h : AH) (x0 : Nat) (x1 : Int32) (x2 : Int32) (x3 : Int32) (x4 : Int32) (x5 : Int32) (x6 : Int32)  (Q : Int32 → AH → Prop) : Prop := Wp l g mX12_feed 0 0 194 194 194 23 [(0, .ref x0), (1, .int x1), (2, .int x2), (3, .int x3), (4, .int x4), (5, .int x5), (6, .int x6)] [] h (FM g 194 194 (ax_QI Q))
def L_X12_feed_76 (l : Launch) (g : AG) (h : AH) (x0 : Nat) (x1 : Int32) (x2 : Int32) (x3 : Int32) (x4 : Int32) (x5 : Int32) (x6 : Int32) (s0 : Int32) (Q : Int32 → AH → Prop) : Prop := Wp l g mX12_feed 0 0 194 194 194 76 [(0, .ref x0), (1, .int x1), (2, .int x2), (3, .int x3), (4, .int x4), (5, .int x5), (6, .int x6)] [.int s0] h (FM g 194 194 (ax_QI Q))
set_option maxRecDepth 100000 in
set_option maxHeartbeats 4000000 in
theorem s_X12_feed_0 {l : Launch} {g : AG} {h : AH} {x0 : Nat} {x1 : Int32} {x2 : Int32} {x3 : Int32} {x4 : Int32} {x5 : Int32}  {Q : Int32 → AH → Prop} (hb : (Is 194 x0 11) ∧ ( ∀ h2 : AH, h2 = ax_setI h x0 0 0 → ( (((h2.1 x0 11) + 20 ≤ 800 → (L_X12_feed_23 l g h2 x0 x1 x2 x3 x4 x5 0  Q)) ∧ (¬ ((h2.1 x0 11) + 20 ≤ 800) → (Q (-1) h2)))))) : L_X12_feed_0 l g h x0 x1 x2 x3 x4 x5  Q := by
  obtain ⟨i1, hb⟩ := hb
  refine wp_aload_n 0 dX12_feed_0 rfl rfl ?_
  refine wp_iconst (v := 0) dX12_feed_1 (by decide) ?_
  refine wp_putI dX12_feed_2 fl_X12_1 (Or.inl rfl) i1 ?_
  refine wp_topH (fun h2 e3 => ?_)
  have hb := hb h2 e3
  refine wp_aload_n 0 dX12_feed_5 rfl rfl ?_
  refine wp_getI dX12_feed_6 fl_X12_313 i1 ?_
  refine wp_bipush (v := 20) dX12_feed_9 (by decide) ?_
  refine wp_iadd dX12_feed_11 ?_
  refine wp_sipush (v := 800) dX12_feed_12 (by decide) ?_
  refine wp_icmp_le (tgt := 20) dX12_feed_15 (by decide) (fun c4 => ?_) (fun c4 => ?_)
  · have hb := hb.1 c4
    refine wp_iconst (v := 0) dX12_feed_20 (by decide) ?_
    refine wp_istore (lv2 := [(6, .int 0), (0, .ref x0), (1, .int x1), (2, .int x2), (3, .int x3), (4, .int x4), (5, .int x5)]) dX12_feed_21 (by decide) rfl ?_
    exact wp_sub [1, 2, 3, 4, 5, 6, 0] rfl hb
  · have hb := hb.2 c4
    refine wp_iconst (v := (-1)) dX12_feed_18 (by decide) ?_
    exact wp_iret rfl dX12_feed_19 ⟨_, rfl, hb⟩
set_option maxRecDepth 100000 in
set_option maxHeartbeats 4000000 in
theorem s_X12_feed_23 {l : Launch} {g : AG} {h : AH} {x0 : Nat} {x1 : Int32} {x2 : Int32} {x3 : Int32} {x4 : Int32} {x5 : Int32} {x6 : Int32}  {Q : Int32 → AH → Prop} (hb : ((20 ≤ x6 → ((Is 194 x0 11) ∧ ( Q (h.1 x0 11) h))) ∧ (¬ (20 ≤ x6) → (((4 ≤ x6 → (((8 ≤ x6 → (((12 ≤ x6 → (((16 ≤ x6 → (L_X12_feed_76 l g h x0 x1 x2 x3 x4 x5 x6 x5 Q)) ∧ (¬ (16 ≤ x6) → (L_X12_feed_76 l g h x0 x1 x2 x3 x4 x5 x6 x4 Q))))) ∧ (¬ (12 ≤ x6) → (L_X12_feed_76 l g h x0 x1 x2 x3 x4 x5 x6 x3 Q))))) ∧ (¬ (8 ≤ x6) → (L_X12_feed_76 l g h x0 x1 x2 x3 x4 x5 x6 x2 Q))))) ∧ (¬ (4 ≤ x6) → (L_X12_feed_76 l g h x0 x1 x2 x3 x4 x5 x6 x1 Q))))))) : L_X12_feed_23 l g h x0 x1 x2 x3 x4 x5 x6  Q := by
  refine wp_iload 6 dX12_feed_23 rfl ?_
  refine wp_bipush (v := 20) dX12_feed_25 (by decide) ?_
  refine wp_icmp_ge (tgt := 117) dX12_feed_27 (by decide) (fun c5 => ?_) (fun c5 => ?_)
  · have hb := hb.1 c5
    obtain ⟨i6, hb⟩ := hb
    refine wp_aload_n 0 dX12_feed_117 rfl rfl ?_
    refine wp_getI dX12_feed_118 fl_X12_313 i6 ?_
    exact wp_iret rfl dX12_feed_121 ⟨_, rfl, hb⟩
  · have hb := hb.2 c5
    refine wp_iload 6 dX12_feed_30 rfl ?_
    refine wp_iconst (v := 4) dX12_feed_32 (by decide) ?_
    refine wp_icmp_ge (tgt := 40) dX12_feed_33 (by decide) (fun c7 => ?_) (fun c7 => ?_)
    · have hb := hb.1 c7
      refine wp_iload 6 dX12_feed_40 rfl ?_
      refine wp_bipush (v := 8) dX12_feed_42 (by decide) ?_
      refine wp_icmp_ge (tgt := 51) dX12_feed_44 (by decide) (fun c8 => ?_) (fun c8 => ?_)
      · have hb := hb.1 c8
        refine wp_iload 6 dX12_feed_51 rfl ?_
        refine wp_bipush (v := 12) dX12_feed_53 (by decide) ?_
        refine wp_icmp_ge (tgt := 62) dX12_feed_55 (by decide) (fun c9 => ?_) (fun c9 => ?_)
        · have hb := hb.1 c9
          refine wp_iload 6 dX12_feed_62 rfl ?_
          refine wp_bipush (v := 16) dX12_feed_64 (by decide) ?_
          refine wp_icmp_ge (tgt := 74) dX12_feed_66 (by decide) (fun c10 => ?_) (fun c10 => ?_)
          · have hb := hb.1 c10
            refine wp_iload 5 dX12_feed_74 rfl ?_
            exact hb
          · have hb := hb.2 c10
            refine wp_iload 4 dX12_feed_69 rfl ?_
            refine wp_goto (tgt := 76) dX12_feed_71 (by decide) ?_
            exact hb
        · have hb := hb.2 c9
          refine wp_iload_n 3 dX12_feed_58 rfl rfl ?_
          refine wp_goto (tgt := 76) dX12_feed_59 (by decide) ?_
          exact hb
      · have hb := hb.2 c8
        refine wp_iload_n 2 dX12_feed_47 rfl rfl ?_
        refine wp_goto (tgt := 76) dX12_feed_48 (by decide) ?_
        exact hb
    · have hb := hb.2 c7
      refine wp_iload_n 1 dX12_feed_36 rfl rfl ?_
      refine wp_goto (tgt := 76) dX12_feed_37 (by decide) ?_
      exact hb
set_option maxRecDepth 100000 in
set_option maxHeartbeats 4000000 in
theorem s_X12_feed_76 {l : Launch} {g : AG} {h : AH} {x0 : Nat} {x1 : Int32} {x2 : Int32} {x3 : Int32} {x4 : Int32} {x5 : Int32} {x6 : Int32} {s0 : Int32} {Q : Int32 → AH → Prop} (hb : (Is 194 x0 11) ∧ ( (Is 194 (h.2.2 x0 10) 22) ∧ ( (vp_in (h.1 x0 11) (ax_s (h.2.2 x0 10)).2) ∧ ( ∀ h14 : AH, h14 = ax_setI h (h.2.2 x0 10) (h.1 x0 11).toNatClampNeg (vp_nar .byte ((jishr s0 (24 - (8 * (jirem x6 4)))).toInt8.toInt32)) → ( ∀ h16 : AH, h16 = ax_setI h14 x0 11 ((h14.1 x0 11) + 1) → ( ∀ v18 : Int32, v18 = x6 + (1) → ( L_X12_feed_23 l g h16 x0 x1 x2 x3 x4 x5 v18  Q))))))) : L_X12_feed_76 l g h x0 x1 x2 x3 x4 x5 x6 s0 Q := by
  refine wp_istore (lv2 := [(7, .int s0), (0, .ref x0), (1, .int x1), (2, .int x2), (3, .int x3), (4, .int x4), (5, .int x5), (6, .int x6)]) dX12_feed_76 (by decide) rfl ?_
  obtain ⟨i11, hb⟩ := hb
  refine wp_aload_n 1 dX12_feed_78 rfl rfl ?_
  obtain ⟨i12, hb⟩ := hb
  refine wp_getR dX12_feed_79 fl_X12_48 i11 (i12.ne (by decide)) ?_
  refine wp_aload_n 1 dX12_feed_82 rfl rfl ?_
  refine wp_getI dX12_feed_83 fl_X12_313 i11 ?_
  refine wp_iload 0 dX12_feed_86 rfl ?_
  refine wp_bipush (v := 24) dX12_feed_88 (by decide) ?_
  refine wp_bipush (v := 8) dX12_feed_90 (by decide) ?_
  refine wp_iload 7 dX12_feed_92 rfl ?_
  refine wp_iconst (v := 4) dX12_feed_94 (by decide) ?_
  refine wp_irem dX12_feed_95 (by decide) ?_
  refine wp_imul dX12_feed_96 ?_
  refine wp_isub dX12_feed_97 ?_
  refine wp_ishr dX12_feed_98 ?_
  refine wp_i2b dX12_feed_99 ?_
  obtain ⟨b13, hb⟩ := hb
  refine wp_bastore dX12_feed_100 i12 b13 ?_
  refine wp_topH (fun h14 e15 => ?_)
  have hb := hb h14 e15
  refine wp_aload_n 1 dX12_feed_101 rfl rfl ?_
  refine wp_dup dX12_feed_102 rfl ?_
  refine wp_getI dX12_feed_103 fl_X12_313 i11 ?_
  refine wp_iconst (v := 1) dX12_feed_106 (by decide) ?_
  refine wp_iadd dX12_feed_107 ?_
  refine wp_putI dX12_feed_108 fl_X12_313 (Or.inl rfl) i11 ?_
  refine wp_topH (fun h16 e17 => ?_)
  have hb := hb h16 e17
  obtain ⟨v18, e19⟩ : ∃ y : Int32, y = x6 + (1) := ⟨_, rfl⟩
  have hb := hb v18 e19
  refine wp_iinc (v := v18) (lv2 := [(6, .int v18), (7, .int s0), (0, .ref x0), (1, .int x1), (2, .int x2), (3, .int x3), (4, .int x4), (5, .int x5)]) 7 dX12_feed_111 rfl (by rw [e19]; rfl) (by decide) rfl ?_
  refine wp_goto (tgt := 23) dX12_feed_114 (by decide) ?_
  exact wp_sub [2, 3, 4, 5, 6, 7, 0] rfl hb
theorem c_X12_feed {l : Launch} {g : AG} {h : AH} {x0 : Nat} {x1 : Int32} {x2 : Int32} {x3 : Int32} {x4 : Int32} {x5 : Int32}  {Q : Int32 → AH → Prop} (hb : L_X12_feed_0 l g h x0 x1 x2 x3 x4 x5  Q) : C_X12_feed l g h x0 x1 x2 x3 x4 x5  Q := ax_met rfl (Nat.le_of_ble_eq_true rfl) hb
