def C_X12_stop (l : Launch) (g : AG) (h : AH) (x0 : Nat) (x1 : Int32) (x2 : Int32)  (Q : Nat → AH → Prop) : Prop := Ct l g mX12_stop 0 0 194 194 h [.ref x0, .int x1, .int x2] (ax_QR Q)
def L_X12_stop_0 (l : Launch) (g : AG) (h : AH) (x0 : Nat) (x1 : Int32) (x2 : Int32)  (Q : Nat → AH → Prop) : Prop := Wp l g mX12_stop 0 0 194 194 194 0 [(0, .ref x0), (1, .int x1), (2, .int x2)] [] h (FM g 194 194 (ax_QR Q))
set_option maxRecDepth 100000 in
set_option maxHeartbeats 4000000 in
theorem s_X12_stop_0 {l : Launch} {g : AG} {h : AH} {x0 : Nat} {x1 : Int32} {x2 : Int32}  {Q : Nat → AH → Prop} (hb : (Is 194 x0 11) ∧ ( (Is 194 (h.2.2 x0 9) 10) ∧ ( ∀ h3 : AH, h3 = ax_setI h (h.2.2 x0 9) 6 x1 → ( (Is 194 (h3.2.2 x0 9) 10) ∧ ( ∀ h6 : AH, h6 = ax_setI h3 (h3.2.2 x0 9) 7 x2 → ( (Is 194 (h6.2.2 x0 9) 10) ∧ ( Q (h6.2.2 x0 9) h6))))))) : L_X12_stop_0 l g h x0 x1 x2  Q := by
  obtain ⟨i1, hb⟩ := hb
  refine wp_aload_n 0 dX12_stop_0 rfl rfl ?_
  obtain ⟨i2, hb⟩ := hb
  refine wp_getR dX12_stop_1 fl_X12_44 i1 (i2.ne (by decide)) ?_
  refine wp_iload_n 1 dX12_stop_4 rfl rfl ?_
  refine wp_putI dX12_stop_5 fl_X12_131 (Or.inl rfl) i2 ?_
  refine wp_topH (fun h3 e4 => ?_)
  have hb := hb h3 e4
  refine wp_aload_n 0 dX12_stop_8 rfl rfl ?_
  obtain ⟨i5, hb⟩ := hb
  refine wp_getR dX12_stop_9 fl_X12_44 i1 (i5.ne (by decide)) ?_
  refine wp_iload_n 2 dX12_stop_12 rfl rfl ?_
  refine wp_putI dX12_stop_13 fl_X12_133 (Or.inl rfl) i5 ?_
  refine wp_topH (fun h6 e7 => ?_)
  have hb := hb h6 e7
  refine wp_aload_n 0 dX12_stop_16 rfl rfl ?_
  obtain ⟨i8, hb⟩ := hb
  refine wp_getR dX12_stop_17 fl_X12_44 i1 (i8.ne (by decide)) ?_
  exact wp_aret rfl dX12_stop_20 ⟨_, rfl, hb⟩
theorem c_X12_stop {l : Launch} {g : AG} {h : AH} {x0 : Nat} {x1 : Int32} {x2 : Int32}  {Q : Nat → AH → Prop} (hb : L_X12_stop_0 l g h x0 x1 x2  Q) : C_X12_stop l g h x0 x1 x2  Q := ax_met rfl rfl (Nat.le_of_ble_eq_true rfl) hb
def C_X12_byteAt (l : Launch) (g : AG) (h : AH) (x0 : Nat) (x1 : Int32)  (Q : Int32 → AH → Prop) : Prop := Ct l g mX12_byteAt 0 0 194 194 h [.ref x0, .int x1] (ax_QI Q)
def L_X12_byteAt_0 (l : Launch) (g : AG) (h : AH) (x0 : Nat) (x1 : Int32)  (Q : Int32 → AH → Prop) : Prop := Wp l g mX12_byteAt 0 0 194 194 194 0 [(0, .ref x0), (1, .int x1)] [] h (FM g 194 194 (ax_QI Q))
set_option maxRecDepth 100000 in
set_option maxHeartbeats 4000000 in
theorem s_X12_byteAt_0 {l : Launch} {g : AG} {h : AH} {x0 : Nat} {x1 : Int32}  {Q : Int32 → AH → Prop} (hb : (Is 194 x0 11) ∧ ( ((h.1 x0 12 ≤ x1 → (Q (-1) h)) ∧ (¬ (h.1 x0 12 ≤ x1) → ((Is 194 (h.2.2 x0 10) 22) ∧ ( (vp_in x1 (ax_s (h.2.2 x0 10)).2) ∧ ( Q ((h.1 (h.2.2 x0 10) x1.toNatClampNeg) &&& 255) h))))))) : L_X12_byteAt_0 l g h x0 x1  Q := by
  refine wp_iload_n 1 dX12_byteAt_0 rfl rfl ?_
  obtain ⟨i1, hb⟩ := hb
  refine wp_aload_n 0 dX12_byteAt_1 rfl rfl ?_
  refine wp_getI dX12_byteAt_2 fl_X12_136 i1 ?_
  refine wp_icmp_ge (tgt := 21) dX12_byteAt_5 (by decide) (fun c2 => ?_) (fun c2 => ?_)
  · have hb := hb.1 c2
    refine wp_iconst (v := (-1)) dX12_byteAt_21 (by decide) ?_
    exact wp_iret rfl dX12_byteAt_22 ⟨_, rfl, hb⟩
  · have hb := hb.2 c2
    refine wp_aload_n 0 dX12_byteAt_8 rfl rfl ?_
    obtain ⟨i3, hb⟩ := hb
    refine wp_getR dX12_byteAt_9 fl_X12_48 i1 (i3.ne (by decide)) ?_
    refine wp_iload_n 1 dX12_byteAt_12 rfl rfl ?_
    obtain ⟨b4, hb⟩ := hb
    refine wp_baload dX12_byteAt_13 i3 b4 ?_
    refine wp_sipush (v := 255) dX12_byteAt_14 (by decide) ?_
    refine wp_iand dX12_byteAt_17 ?_
    refine wp_goto (tgt := 22) dX12_byteAt_18 (by decide) ?_
    exact wp_iret rfl dX12_byteAt_22 ⟨_, rfl, hb⟩
theorem c_X12_byteAt {l : Launch} {g : AG} {h : AH} {x0 : Nat} {x1 : Int32}  {Q : Int32 → AH → Prop} (hb : L_X12_byteAt_0 l g h x0 x1  Q) : C_X12_byteAt l g h x0 x1  Q := ax_met rfl rfl (Nat.le_of_ble_eq_true rfl) hb
def C_X12_isLetter (l : Launch) (g : AG) (h : AH) (x0 : Int32)  (Q : Int32 → AH → Prop) : Prop := Ct l g mX12_isLetter 0 0 194 194 h [.int x0] (ax_QI Q)
def L_X12_isLetter_0 (l : Launch) (g : AG) (h : AH) (x0 : Int32)  (Q : Int32 → AH → Prop) : Prop := Wp l g mX12_isLetter 0 0 194 194 194 0 [(0, .int x0)] [] h (FM g 194 194 (ax_QI Q))
set_option maxRecDepth 100000 in
set_option maxHeartbeats 4000000 in
theorem s_X12_isLetter_0 {l : Launch} {g : AG} {h : AH} {x0 : Int32}  {Q : Int32 → AH → Prop} (hb : ((x0 < 97 → (Q 0 h)) ∧ (¬ (x0 < 97) → (((122 < x0 → (Q 0 h)) ∧ (¬ (122 < x0) → (Q 1 h))))))) : L_X12_isLetter_0 l g h x0  Q := by
  refine wp_iload_n 0 dX12_isLetter_0 rfl rfl ?_
  refine wp_bipush (v := 97) dX12_isLetter_1 (by decide) ?_
  refine wp_icmp_lt (tgt := 16) dX12_isLetter_3 (by decide) (fun c1 => ?_) (fun c1 => ?_)
  · have hb := hb.1 c1
    refine wp_iconst (v := 0) dX12_isLetter_16 (by decide) ?_
    exact wp_zret rfl dX12_isLetter_17 (Or.inl rfl) ⟨_, rfl, hb⟩
  · have hb := hb.2 c1
    refine wp_iload_n 0 dX12_isLetter_6 rfl rfl ?_
    refine wp_bipush (v := 122) dX12_isLetter_7 (by decide) ?_
    refine wp_icmp_gt (tgt := 16) dX12_isLetter_9 (by decide) (fun c2 => ?_) (fun c2 => ?_)
    · have hb := hb.1 c2
      refine wp_iconst (v := 0) dX12_isLetter_16 (by decide) ?_
      exact wp_zret rfl dX12_isLetter_17 (Or.inl rfl) ⟨_, rfl, hb⟩
    · have hb := hb.2 c2
      refine wp_iconst (v := 1) dX12_isLetter_12 (by decide) ?_
      refine wp_goto (tgt := 17) dX12_isLetter_13 (by decide) ?_
      exact wp_zret rfl dX12_isLetter_17 (Or.inr rfl) ⟨_, rfl, hb⟩
theorem c_X12_isLetter {l : Launch} {g : AG} {h : AH} {x0 : Int32}  {Q : Int32 → AH → Prop} (hb : L_X12_isLetter_0 l g h x0  Q) : C_X12_isLetter l g h x0  Q := ax_met rfl rfl (Nat.le_of_ble_eq_true rfl) hb
def C_X12_isDigit (l : Launch) (g : AG) (h : AH) (x0 : Int32)  (Q : Int32 → AH → Prop) : Prop := Ct l g mX12_isDigit 0 0 194 194 h [.int x0] (ax_QI Q)
def L_X12_isDigit_0 (l : Launch) (g : AG) (h : AH) (x0 : Int32)  (Q : Int32 → AH → Prop) : Prop := Wp l g mX12_isDigit 0 0 194 194 194 0 [(0, .int x0)] [] h (FM g 194 194 (ax_QI Q))
set_option maxRecDepth 100000 in
set_option maxHeartbeats 4000000 in
theorem s_X12_isDigit_0 {l : Launch} {g : AG} {h : AH} {x0 : Int32}  {Q : Int32 → AH → Prop} (hb : ((x0 < 48 → (Q 0 h)) ∧ (¬ (x0 < 48) → (((57 < x0 → (Q 0 h)) ∧ (¬ (57 < x0) → (Q 1 h))))))) : L_X12_isDigit_0 l g h x0  Q := by
  refine wp_iload_n 0 dX12_isDigit_0 rfl rfl ?_
  refine wp_bipush (v := 48) dX12_isDigit_1 (by decide) ?_
  refine wp_icmp_lt (tgt := 16) dX12_isDigit_3 (by decide) (fun c1 => ?_) (fun c1 => ?_)
  · have hb := hb.1 c1
    refine wp_iconst (v := 0) dX12_isDigit_16 (by decide) ?_
    exact wp_zret rfl dX12_isDigit_17 (Or.inl rfl) ⟨_, rfl, hb⟩
  · have hb := hb.2 c1
    refine wp_iload_n 0 dX12_isDigit_6 rfl rfl ?_
    refine wp_bipush (v := 57) dX12_isDigit_7 (by decide) ?_
    refine wp_icmp_gt (tgt := 16) dX12_isDigit_9 (by decide) (fun c2 => ?_) (fun c2 => ?_)
    · have hb := hb.1 c2
      refine wp_iconst (v := 0) dX12_isDigit_16 (by decide) ?_
      exact wp_zret rfl dX12_isDigit_17 (Or.inl rfl) ⟨_, rfl, hb⟩
    · have hb := hb.2 c2
      refine wp_iconst (v := 1) dX12_isDigit_12 (by decide) ?_
      refine wp_goto (tgt := 17) dX12_isDigit_13 (by decide) ?_
      exact wp_zret rfl dX12_isDigit_17 (Or.inr rfl) ⟨_, rfl, hb⟩
theorem c_X12_isDigit {l : Launch} {g : AG} {h : AH} {x0 : Int32}  {Q : Int32 → AH → Prop} (hb : L_X12_isDigit_0 l g h x0  Q) : C_X12_isDigit l g h x0  Q := ax_met rfl rfl (Nat.le_of_ble_eq_true rfl) hb
def C_X12_wordOf (l : Launch) (g : AG) (h : AH) (x0 : Nat)  (Q : Int64 → AH → Prop) : Prop := Ct l g mX12_wordOf 4 120 194 194 h [.ref x0] (ax_QL Q)
def L_X12_wordOf_0 (l : Launch) (g : AG) (h : AH) (x0 : Nat)  (Q : Int64 → AH → Prop) : Prop := Wp l g mX12_wordOf 4 120 194 194 194 0 [(0, .ref x0)] [] h (FM g 194 194 (ax_QL Q))
def L_X12_wordOf_4 (l : Launch) (g : AG) (h : AH) (x0 : Nat) (x1 : Int64) (x3 : Int32)  (Q : Int64 → AH → Prop) : Prop := Wp l g mX12_wordOf 4 120 194 194 194 4 [(0, .ref x0), (1, .long x1), (3, .int x3)] [] h (FM g 194 194 (ax_QL Q))
set_option maxRecDepth 100000 in
set_option maxHeartbeats 4000000 in
theorem s_X12_wordOf_0 {l : Launch} {g : AG} {h : AH} {x0 : Nat}  {Q : Int64 → AH → Prop} (hb : L_X12_wordOf_4 l g h x0 0 0  Q) : L_X12_wordOf_0 l g h x0  Q := by
  refine wp_lconst (v := 0) dX12_wordOf_0 (by decide) ?_
  refine wp_lstore_n (lv2 := [(1, .long 0), (0, .ref x0)]) dX12_wordOf_1 rfl (by decide) rfl ?_
  refine wp_iconst (v := 0) dX12_wordOf_2 (by decide) ?_
  refine wp_istore_n (lv2 := [(3, .int 0), (1, .long 0), (0, .ref x0)]) dX12_wordOf_3 rfl (by decide) rfl ?_
  exact wp_sub [2, 1, 0] rfl hb
set_option maxRecDepth 100000 in
set_option maxHeartbeats 4000000 in
theorem s_X12_wordOf_4 {l : Launch} {g : AG} {h : AH} {x0 : Nat} {x1 : Int64} {x3 : Int32}  {Q : Int64 → AH → Prop} (hb : (1000 ≤ x0 ∧ x0 < 1014) ∧ ( ((nI (ax_sl.getD (x0 - 1000) 0) ≤ x3 → (Q x1 h)) ∧ (¬ (nI (ax_sl.getD (x0 - 1000) 0) ≤ x3) → ((1000 ≤ x0 ∧ x0 < 1014) ∧ ( (vp_in x3 (ax_sl.getD (x0 - 1000) 0)) ∧ ( ∀ v5 : Int32, v5 = ((ax_sb.getD (x0 - 1000) []).getD x3.toNatClampNeg 0) → ( ∀ v7 : Int64, v7 = ((32 * x1) + (((v5 - 97) + 1).toInt64)) → ( ∀ v9 : Int32, v9 = x3 + (1) → ( L_X12_wordOf_4 l g h x0 v7 v9  Q)))))))))) : L_X12_wordOf_4 l g h x0 x1 x3  Q := by
  refine wp_iload_n 2 dX12_wordOf_4 rfl rfl ?_
  refine wp_aload_n 0 dX12_wordOf_5 rfl rfl ?_
  obtain ⟨q1, hb⟩ := hb
  refine wp_slen dX12_wordOf_6 lk_X12_139 q1 (Nat.le_of_ble_eq_true rfl) (by decide) (by decide) ⟨Nat.le_refl _, Nat.le_refl _⟩ ?_
  refine wp_icmp_ge (tgt := 36) dX12_wordOf_9 (by decide) (fun c2 => ?_) (fun c2 => ?_)
  · have hb := hb.1 c2
    refine wp_lload_n 1 dX12_wordOf_36 rfl rfl ?_
    exact wp_lret rfl dX12_wordOf_37 ⟨_, rfl, hb⟩
  · have hb := hb.2 c2
    refine wp_ldc2 (v := 32) dX12_wordOf_12 lk_X12_145 ?_
    refine wp_lload_n 1 dX12_wordOf_15 rfl rfl ?_
    refine wp_lmul dX12_wordOf_16 ?_
    refine wp_aload_n 0 dX12_wordOf_17 rfl rfl ?_
    refine wp_iload_n 2 dX12_wordOf_18 rfl rfl ?_
    obtain ⟨q3, hb⟩ := hb
    obtain ⟨q4, hb⟩ := hb
    refine wp_schar dX12_wordOf_19 lk_X12_147 q3 q4 (Nat.le_of_ble_eq_true rfl) (by decide) (by decide) ⟨Nat.le_refl _, Nat.le_refl _⟩ ?_
    refine wp_topi (fun v5 e6 => ?_)
    have hb := hb v5 e6
    refine wp_bipush (v := 97) dX12_wordOf_22 (by decide) ?_
    refine wp_isub dX12_wordOf_24 ?_
    refine wp_iconst (v := 1) dX12_wordOf_25 (by decide) ?_
    refine wp_iadd dX12_wordOf_26 ?_
    refine wp_i2l dX12_wordOf_27 ?_
    refine wp_ladd dX12_wordOf_28 ?_
    refine wp_topl (fun v7 e8 => ?_)
    have hb := hb v7 e8
    refine wp_lstore_n (lv2 := [(1, .long v7), (0, .ref x0), (3, .int x3)]) dX12_wordOf_29 rfl (by decide) rfl ?_
    obtain ⟨v9, e10⟩ : ∃ y : Int32, y = x3 + (1) := ⟨_, rfl⟩
    have hb := hb v9 e10
    refine wp_iinc (v := v9) (lv2 := [(3, .int v9), (1, .long v7), (0, .ref x0)]) 2 dX12_wordOf_30 rfl (by rw [e10]; rfl) (by decide) rfl ?_
    refine wp_goto (tgt := 4) dX12_wordOf_33 (by decide) ?_
    exact wp_sub [2, 1, 0] rfl hb
theorem c_X12_wordOf {l : Launch} {g : AG} {h : AH} {x0 : Nat}  {Q : Int64 → AH → Prop} (hb : L_X12_wordOf_0 l g h x0  Q) : C_X12_wordOf l g h x0  Q := ax_met rfl rfl (Nat.le_of_ble_eq_true rfl) hb
def C_X12_next (l : Launch) (g : AG) (h : AH) (x0 : Nat)  (Q : AH → Prop) : Prop := Ct l g mX12_next 1 21 194 194 h [.ref x0] (ax_QV Q)
def L_X12_next_0 (l : Launch) (g : AG) (h : AH) (x0 : Nat)  (Q : AH → Prop) : Prop := Wp l g mX12_next 1 21 194 194 194 0 [(0, .ref x0)] [] h (FM g 194 194 (ax_QV Q))
def L_X12_next_295 (l : Launch) (g : AG) (h : AH) (x0 : Nat) (x1 : Int32)  (Q : AH → Prop) : Prop := Wp l g mX12_next 1 21 194 194 194 295 [(0, .ref x0), (1, .int x1)] [] h (FM g 194 194 (ax_QV Q))
def L_X12_next_182 (l : Launch) (g : AG) (h : AH) (x0 : Nat) (x2 : Int32)  (Q : AH → Prop) : Prop := Wp l g mX12_next 1 21 194 194 194 182 [(0, .ref x0), (2, .int x2)] [] h (FM g 194 194 (ax_QV Q))
def L_X12_next_93 (l : Launch) (g : AG) (h : AH) (x0 : Nat) (x2 : Int32)  (Q : AH → Prop) : Prop := Wp l g mX12_next 1 21 194 194 194 93 [(0, .ref x0), (2, .int x2)] [] h (FM g 194 194 (ax_QV Q))
set_option maxRecDepth 100000 in
set_option maxHeartbeats 4000000 in
theorem s_X12_next_0 {l : Launch} {g : AG} {h : AH} {x0 : Nat}  {Q : AH → Prop} (hb : (Is 194 x0 11) ∧ ( C_X12_byteAt l g h x0 (h.1 x0 13) (fun r4 h3 => ( ((r4 = 32 → (∀ h6 : AH, h6 = ax_setI h3 x0 13 ((h3.1 x0 13) + 1) → ( L_X12_next_0 l g h6 x0  Q))) ∧ (¬ (r4 = 32) → (C_X12_byteAt l g h3 x0 (h3.1 x0 13) (fun r10 h9 => ( ((¬ r10 = 10 → (∀ h12 : AH, h12 = ax_setI h9 x0 15 (h9.1 x0 13) → ( ∀ h14 : AH, h14 = ax_setI h12 x0 14 0 → ( ∀ h16 : AH, h16 = ax_setI h14 x0 16 0 → ( C_X12_byteAt l g h16 x0 (h16.1 x0 13) (fun r20 h19 => ( ((¬ r20 = (-1) → (C_X12_isLetter l g h19 r20 (fun r24 h23 => ( ((r24 = 0 → (C_X12_isDigit l g h23 r20 (fun r28 h27 => ( ((r28 = 0 → (((r20 = 123 → (L_X12_next_295 l g h27 x0 r20  Q)) ∧ (¬ (r20 = 123) → (((r20 = 125 → (L_X12_next_295 l g h27 x0 r20  Q)) ∧ (¬ (r20 = 125) → (((r20 = 59 → (L_X12_next_295 l g h27 x0 r20  Q)) ∧ (¬ (r20 = 59) → (((r20 = 44 → (L_X12_next_295 l g h27 x0 r20  Q)) ∧ (¬ (r20 = 44) → (((r20 = 61 → (L_X12_next_295 l g h27 x0 r20  Q)) ∧ (¬ (r20 = 61) → (((r20 = 60 → (L_X12_next_295 l g h27 x0 r20  Q)) ∧ (¬ (r20 = 60) → (((¬ r20 = 62 → (Q h27)) ∧ (r20 = 62 → (L_X12_next_295 l g h27 x0 r20  Q))))))))))))))))))))))) ∧ (¬ (r28 = 0) → (∀ h37 : AH, h37 = ax_setI h27 x0 17 0 → ( L_X12_next_182 l g h37 x0 0  Q)))))))) ∧ (¬ (r24 = 0) → (∀ h39 : AH, h39 = ax_setL h23 x0 18 0 → ( L_X12_next_93 l g h39 x0 0  Q)))))))) ∧ (r20 = (-1) → (∀ h41 : AH, h41 = ax_setI h19 x0 14 1 → ( Q h41))))))))))) ∧ (r10 = 10 → (∀ h43 : AH, h43 = ax_setI h9 x0 13 ((h9.1 x0 13) + 1) → ( L_X12_next_0 l g h43 x0  Q))))))))))))) : L_X12_next_0 l g h x0  Q := by
  obtain ⟨i1, hb⟩ := hb
  refine wp_aload_n 0 dX12_next_0 rfl rfl ?_
  refine wp_aload_n 0 dX12_next_1 rfl rfl ?_
  refine wp_getI dX12_next_2 fl_X12_151 i1 ?_
  refine wp_callV (as := [.int (h.1 x0 13)]) dX12_next_5 cb_X12_byteAt lk_X12_154 im_X12_byteAt se_X12_byteAt rfl (Nat.le_of_ble_eq_true rfl) ⟨by decide, by decide⟩ ⟨Nat.le_refl _, Nat.le_refl _, Nat.le_refl _⟩ i1 rfl (by decide) hb (fun r0 h3 hb => ?_)
  obtain ⟨r4, rfl, hb⟩ := hb
  refine wp_bipush (v := 32) dX12_next_8 (by decide) ?_
  refine wp_icmp_eq (tgt := 26) dX12_next_10 (by decide) (fun c5 => ?_) (fun c5 => ?_)
  · have hb := hb.1 c5
    refine wp_aload_n 0 dX12_next_26 rfl rfl ?_
    refine wp_dup dX12_next_27 rfl ?_
    refine wp_getI dX12_next_28 fl_X12_151 i1 ?_
    refine wp_iconst (v := 1) dX12_next_31 (by decide) ?_
    refine wp_iadd dX12_next_32 ?_
    refine wp_putI dX12_next_33 fl_X12_151 (Or.inl rfl) i1 ?_
    refine wp_topH (fun h6 e7 => ?_)
    have hb := hb h6 e7
    refine wp_goto (tgt := 0) dX12_next_36 (by decide) ?_
    exact hb
  · have hb := hb.2 c5
    refine wp_aload_n 0 dX12_next_13 rfl rfl ?_
    refine wp_aload_n 0 dX12_next_14 rfl rfl ?_
    refine wp_getI dX12_next_15 fl_X12_151 i1 ?_
    refine wp_callV (as := [.int (h3.1 x0 13)]) dX12_next_18 cb_X12_byteAt lk_X12_154 im_X12_byteAt se_X12_byteAt rfl (Nat.le_of_ble_eq_true rfl) ⟨by decide, by decide⟩ ⟨Nat.le_refl _, Nat.le_refl _, Nat.le_refl _⟩ i1 rfl (by decide) hb (fun r0 h9 hb => ?_)
    obtain ⟨r10, rfl, hb⟩ := hb
    refine wp_bipush (v := 10) dX12_next_21 (by decide) ?_
    refine wp_icmp_ne (tgt := 39) dX12_next_23 (by decide) (fun c11 => ?_) (fun c11 => ?_)
    · have hb := hb.1 c11
      refine wp_aload_n 0 dX12_next_39 rfl rfl ?_
      refine wp_aload_n 0 dX12_next_40 rfl rfl ?_
      refine wp_getI dX12_next_41 fl_X12_151 i1 ?_
      refine wp_putI dX12_next_44 fl_X12_158 (Or.inl rfl) i1 ?_
      refine wp_topH (fun h12 e13 => ?_)
      have hb := hb h12 e13
      refine wp_aload_n 0 dX12_next_47 rfl rfl ?_
      refine wp_iconst (v := 0) dX12_next_48 (by decide) ?_
      refine wp_putI dX12_next_49 fl_X12_159 (Or.inl rfl) i1 ?_
      refine wp_topH (fun h14 e15 => ?_)
      have hb := hb h14 e15
      refine wp_aload_n 0 dX12_next_52 rfl rfl ?_
      refine wp_iconst (v := 0) dX12_next_53 (by decide) ?_
      refine wp_putI dX12_next_54 fl_X12_162 (Or.inl rfl) i1 ?_
      refine wp_topH (fun h16 e17 => ?_)
      have hb := hb h16 e17
      refine wp_aload_n 0 dX12_next_57 rfl rfl ?_
      refine wp_aload_n 0 dX12_next_58 rfl rfl ?_
      refine wp_getI dX12_next_59 fl_X12_151 i1 ?_
      refine wp_callV (as := [.int (h16.1 x0 13)]) dX12_next_62 cb_X12_byteAt lk_X12_154 im_X12_byteAt se_X12_byteAt rfl (Nat.le_of_ble_eq_true rfl) ⟨by decide, by decide⟩ ⟨Nat.le_refl _, Nat.le_refl _, Nat.le_refl _⟩ i1 rfl (by decide) hb (fun r0 h19 hb => ?_)
      obtain ⟨r20, rfl, hb⟩ := hb
      refine wp_istore_n (lv2 := [(1, .int r20), (0, .ref x0)]) dX12_next_65 rfl (by decide) rfl ?_
      refine wp_iconst (v := 0) dX12_next_66 (by decide) ?_
      refine wp_istore_n (lv2 := [(2, .int 0), (1, .int r20), (0, .ref x0)]) dX12_next_67 rfl (by decide) rfl ?_
      refine wp_iload_n 1 dX12_next_68 rfl rfl ?_
      refine wp_iconst (v := (-1)) dX12_next_69 (by decide) ?_
      refine wp_icmp_ne (tgt := 81) dX12_next_70 (by decide) (fun c21 => ?_) (fun c21 => ?_)
      · have hb := hb.1 c21
        refine wp_iload_n 1 dX12_next_81 rfl rfl ?_
        refine wp_callS (as := [.int r20]) dX12_next_82 cb_X12_isLetter lk_X12_165 st_X12_isLetter rfl (Nat.le_of_ble_eq_true rfl) ⟨by decide, by decide⟩ ⟨Nat.le_refl _, Nat.le_refl _, Nat.le_refl _⟩ hb (fun r0 h23 hb => ?_)
        obtain ⟨r24, rfl, hb⟩ := hb
        refine wp_if_eq (tgt := 170) dX12_next_85 (by decide) (fun c25 => ?_) (fun c25 => ?_)
        · have hb := hb.1 c25
          refine wp_iload_n 1 dX12_next_170 rfl rfl ?_
          refine wp_callS (as := [.int r20]) dX12_next_171 cb_X12_isDigit lk_X12_173 st_X12_isDigit rfl (Nat.le_of_ble_eq_true rfl) ⟨by decide, by decide⟩ ⟨Nat.le_refl _, Nat.le_refl _, Nat.le_refl _⟩ hb (fun r0 h27 hb => ?_)
          obtain ⟨r28, rfl, hb⟩ := hb
          refine wp_if_eq (tgt := 253) dX12_next_174 (by decide) (fun c29 => ?_) (fun c29 => ?_)
          · have hb := hb.1 c29
            refine wp_iload_n 1 dX12_next_253 rfl rfl ?_
            refine wp_bipush (v := 123) dX12_next_254 (by decide) ?_
            refine wp_icmp_eq (tgt := 295) dX12_next_256 (by decide) (fun c30 => ?_) (fun c30 => ?_)
            · have hb := hb.1 c30
              exact wp_sub [2, 1] rfl hb
            · have hb := hb.2 c30
              refine wp_iload_n 1 dX12_next_259 rfl rfl ?_
              refine wp_bipush (v := 125) dX12_next_260 (by decide) ?_
              refine wp_icmp_eq (tgt := 295) dX12_next_262 (by decide) (fun c31 => ?_) (fun c31 => ?_)
              · have hb := hb.1 c31
                exact wp_sub [2, 1] rfl hb
              · have hb := hb.2 c31
                refine wp_iload_n 1 dX12_next_265 rfl rfl ?_
                refine wp_bipush (v := 59) dX12_next_266 (by decide) ?_
                refine wp_icmp_eq (tgt := 295) dX12_next_268 (by decide) (fun c32 => ?_) (fun c32 => ?_)
                · have hb := hb.1 c32
                  exact wp_sub [2, 1] rfl hb
                · have hb := hb.2 c32
                  refine wp_iload_n 1 dX12_next_271 rfl rfl ?_
                  refine wp_bipush (v := 44) dX12_next_272 (by decide) ?_
                  refine wp_icmp_eq (tgt := 295) dX12_next_274 (by decide) (fun c33 => ?_) (fun c33 => ?_)
                  · have hb := hb.1 c33
                    exact wp_sub [2, 1] rfl hb
                  · have hb := hb.2 c33
                    refine wp_iload_n 1 dX12_next_277 rfl rfl ?_
                    refine wp_bipush (v := 61) dX12_next_278 (by decide) ?_
                    refine wp_icmp_eq (tgt := 295) dX12_next_280 (by decide) (fun c34 => ?_) (fun c34 => ?_)
                    · have hb := hb.1 c34
                      exact wp_sub [2, 1] rfl hb
                    · have hb := hb.2 c34
                      refine wp_iload_n 1 dX12_next_283 rfl rfl ?_
                      refine wp_bipush (v := 60) dX12_next_284 (by decide) ?_
                      refine wp_icmp_eq (tgt := 295) dX12_next_286 (by decide) (fun c35 => ?_) (fun c35 => ?_)
                      · have hb := hb.1 c35
                        exact wp_sub [2, 1] rfl hb
                      · have hb := hb.2 c35
                        refine wp_iload_n 1 dX12_next_289 rfl rfl ?_
                        refine wp_bipush (v := 62) dX12_next_290 (by decide) ?_
                        refine wp_icmp_ne (tgt := 315) dX12_next_292 (by decide) (fun c36 => ?_) (fun c36 => ?_)
                        · have hb := hb.1 c36
                          exact wp_vret rfl dX12_next_315 ⟨rfl, hb⟩
                        · have hb := hb.2 c36
                          exact wp_sub [2, 1] rfl hb
          · have hb := hb.2 c29
            refine wp_aload_n 2 dX12_next_177 rfl rfl ?_
            refine wp_iconst (v := 0) dX12_next_178 (by decide) ?_
            refine wp_putI dX12_next_179 fl_X12_176 (Or.inl rfl) i1 ?_
            refine wp_topH (fun h37 e38 => ?_)
            have hb := hb h37 e38
            exact wp_sub [2, 0] rfl hb
        · have hb := hb.2 c25
          refine wp_aload_n 2 dX12_next_88 rfl rfl ?_
          refine wp_lconst (v := 0) dX12_next_89 (by decide) ?_
          refine wp_putL dX12_next_90 fl_X12_169 (Or.inl rfl) i1 ?_
          refine wp_topH (fun h39 e40 => ?_)
          have hb := hb h39 e40
          exact wp_sub [2, 0] rfl hb
      · have hb := hb.2 c21
        refine wp_aload_n 2 dX12_next_73 rfl rfl ?_
        refine wp_iconst (v := 1) dX12_next_74 (by decide) ?_
        refine wp_putI dX12_next_75 fl_X12_159 (Or.inl rfl) i1 ?_
        refine wp_topH (fun h41 e42 => ?_)
        have hb := hb h41 e42
        refine wp_goto (tgt := 315) dX12_next_78 (by decide) ?_
        exact wp_vret rfl dX12_next_315 ⟨rfl, hb⟩
    · have hb := hb.2 c11
      refine wp_aload_n 0 dX12_next_26 rfl rfl ?_
      refine wp_dup dX12_next_27 rfl ?_
      refine wp_getI dX12_next_28 fl_X12_151 i1 ?_
      refine wp_iconst (v := 1) dX12_next_31 (by decide) ?_
      refine wp_iadd dX12_next_32 ?_
      refine wp_putI dX12_next_33 fl_X12_151 (Or.inl rfl) i1 ?_
      refine wp_topH (fun h43 e44 => ?_)
      have hb := hb h43 e44
      refine wp_goto (tgt := 0) dX12_next_36 (by decide) ?_
      exact hb
set_option maxRecDepth 100000 in
set_option maxHeartbeats 4000000 in
theorem s_X12_next_295 {l : Launch} {g : AG} {h : AH} {x0 : Nat} {x1 : Int32}  {Q : AH → Prop} (hb : (Is 194 x0 11) ∧ ( ∀ h46 : AH, h46 = ax_setI h x0 14 4 → ( ∀ h48 : AH, h48 = ax_setI h46 x0 16 x1 → ( ∀ h50 : AH, h50 = ax_setI h48 x0 13 ((h48.1 x0 13) + 1) → ( Q h50))))) : L_X12_next_295 l g h x0 x1  Q := by
  obtain ⟨i45, hb⟩ := hb
  refine wp_aload_n 0 dX12_next_295 rfl rfl ?_
  refine wp_iconst (v := 4) dX12_next_296 (by decide) ?_
  refine wp_putI dX12_next_297 fl_X12_159 (Or.inl rfl) i45 ?_
  refine wp_topH (fun h46 e47 => ?_)
  have hb := hb h46 e47
  refine wp_aload_n 0 dX12_next_300 rfl rfl ?_
  refine wp_iload_n 1 dX12_next_301 rfl rfl ?_
  refine wp_putI dX12_next_302 fl_X12_162 (Or.inl rfl) i45 ?_
  refine wp_topH (fun h48 e49 => ?_)
  have hb := hb h48 e49
  refine wp_aload_n 0 dX12_next_305 rfl rfl ?_
  refine wp_dup dX12_next_306 rfl ?_
  refine wp_getI dX12_next_307 fl_X12_151 i45 ?_
  refine wp_iconst (v := 1) dX12_next_310 (by decide) ?_
  refine wp_iadd dX12_next_311 ?_
  refine wp_putI dX12_next_312 fl_X12_151 (Or.inl rfl) i45 ?_
  refine wp_topH (fun h50 e51 => ?_)
  have hb := hb h50 e51
  exact wp_vret rfl dX12_next_315 ⟨rfl, hb⟩
set_option maxRecDepth 100000 in
set_option maxHeartbeats 4000000 in
theorem s_X12_next_182 {l : Launch} {g : AG} {h : AH} {x0 : Nat} {x2 : Int32}  {Q : AH → Prop} (hb : (Is 194 x0 11) ∧ ( C_X12_byteAt l g h x0 (h.1 x0 13) (fun r55 h54 => ( C_X12_isDigit l g h54 r55 (fun r58 h57 => ( ((r58 = 0 → (((3 ≤ x2 → (Q h57)) ∧ (¬ (3 ≤ x2) → (∀ h61 : AH, h61 = ax_setI h57 x0 14 3 → ( Q h61)))))) ∧ (¬ (r58 = 0) → (((2 ≤ x2 → (∀ v64 : Int32, v64 = x2 + (1) → ( ∀ h66 : AH, h66 = ax_setI h57 x0 13 ((h57.1 x0 13) + 1) → ( L_X12_next_182 l g h66 x0 v64  Q)))) ∧ (¬ (2 ≤ x2) → (C_X12_byteAt l g h57 x0 (h57.1 x0 13) (fun r70 h69 => ( ∀ h71 : AH, h71 = ax_setI h69 x0 17 (((10 * (h57.1 x0 17)) + r70) - 48) → ( ∀ v73 : Int32, v73 = x2 + (1) → ( ∀ h75 : AH, h75 = ax_setI h71 x0 13 ((h71.1 x0 13) + 1) → ( L_X12_next_182 l g h75 x0 v73  Q))))))))))))))))) : L_X12_next_182 l g h x0 x2  Q := by
  obtain ⟨i52, hb⟩ := hb
  refine wp_aload_n 0 dX12_next_182 rfl rfl ?_
  refine wp_aload_n 0 dX12_next_183 rfl rfl ?_
  refine wp_getI dX12_next_184 fl_X12_151 i52 ?_
  refine wp_callV (as := [.int (h.1 x0 13)]) dX12_next_187 cb_X12_byteAt lk_X12_154 im_X12_byteAt se_X12_byteAt rfl (Nat.le_of_ble_eq_true rfl) ⟨by decide, by decide⟩ ⟨Nat.le_refl _, Nat.le_refl _, Nat.le_refl _⟩ i52 rfl (by decide) hb (fun r0 h54 hb => ?_)
  obtain ⟨r55, rfl, hb⟩ := hb
  refine wp_callS (as := [.int r55]) dX12_next_190 cb_X12_isDigit lk_X12_173 st_X12_isDigit rfl (Nat.le_of_ble_eq_true rfl) ⟨by decide, by decide⟩ ⟨Nat.le_refl _, Nat.le_refl _, Nat.le_refl _⟩ hb (fun r0 h57 hb => ?_)
  obtain ⟨r58, rfl, hb⟩ := hb
  refine wp_if_eq (tgt := 240) dX12_next_193 (by decide) (fun c59 => ?_) (fun c59 => ?_)
  · have hb := hb.1 c59
    refine wp_iload_n 1 dX12_next_240 rfl rfl ?_
    refine wp_iconst (v := 3) dX12_next_241 (by decide) ?_
    refine wp_icmp_ge (tgt := 315) dX12_next_242 (by decide) (fun c60 => ?_) (fun c60 => ?_)
    · have hb := hb.1 c60
      exact wp_vret rfl dX12_next_315 ⟨rfl, hb⟩
    · have hb := hb.2 c60
      refine wp_aload_n 0 dX12_next_245 rfl rfl ?_
      refine wp_iconst (v := 3) dX12_next_246 (by decide) ?_
      refine wp_putI dX12_next_247 fl_X12_159 (Or.inl rfl) i52 ?_
      refine wp_topH (fun h61 e62 => ?_)
      have hb := hb h61 e62
      refine wp_goto (tgt := 315) dX12_next_250 (by decide) ?_
      exact wp_vret rfl dX12_next_315 ⟨rfl, hb⟩
  · have hb := hb.2 c59
    refine wp_iload_n 1 dX12_next_196 rfl rfl ?_
    refine wp_iconst (v := 2) dX12_next_197 (by decide) ?_
    refine wp_icmp_ge (tgt := 224) dX12_next_198 (by decide) (fun c63 => ?_) (fun c63 => ?_)
    · have hb := hb.1 c63
      obtain ⟨v64, e65⟩ : ∃ y : Int32, y = x2 + (1) := ⟨_, rfl⟩
      have hb := hb v64 e65
      refine wp_iinc (v := v64) (lv2 := [(2, .int v64), (0, .ref x0)]) 1 dX12_next_224 rfl (by rw [e65]; rfl) (by decide) rfl ?_
      refine wp_aload_n 1 dX12_next_227 rfl rfl ?_
      refine wp_dup dX12_next_228 rfl ?_
      refine wp_getI dX12_next_229 fl_X12_151 i52 ?_
      refine wp_iconst (v := 1) dX12_next_232 (by decide) ?_
      refine wp_iadd dX12_next_233 ?_
      refine wp_putI dX12_next_234 fl_X12_151 (Or.inl rfl) i52 ?_
      refine wp_topH (fun h66 e67 => ?_)
      have hb := hb h66 e67
      refine wp_goto (tgt := 182) dX12_next_237 (by decide) ?_
      exact wp_sub [1, 0] rfl hb
    · have hb := hb.2 c63
      refine wp_aload_n 0 dX12_next_201 rfl rfl ?_
      refine wp_bipush (v := 10) dX12_next_202 (by decide) ?_
      refine wp_aload_n 0 dX12_next_204 rfl rfl ?_
      refine wp_getI dX12_next_205 fl_X12_176 i52 ?_
      refine wp_imul dX12_next_208 ?_
      refine wp_aload_n 0 dX12_next_209 rfl rfl ?_
      refine wp_aload_n 0 dX12_next_210 rfl rfl ?_
      refine wp_getI dX12_next_211 fl_X12_151 i52 ?_
      refine wp_callV (as := [.int (h57.1 x0 13)]) dX12_next_214 cb_X12_byteAt lk_X12_154 im_X12_byteAt se_X12_byteAt rfl (Nat.le_of_ble_eq_true rfl) ⟨by decide, by decide⟩ ⟨Nat.le_refl _, Nat.le_refl _, Nat.le_refl _⟩ i52 rfl (by decide) hb (fun r0 h69 hb => ?_)
      obtain ⟨r70, rfl, hb⟩ := hb
      refine wp_iadd dX12_next_217 ?_
      refine wp_bipush (v := 48) dX12_next_218 (by decide) ?_
      refine wp_isub dX12_next_220 ?_
      refine wp_putI dX12_next_221 fl_X12_176 (Or.inl rfl) i52 ?_
      refine wp_topH (fun h71 e72 => ?_)
      have hb := hb h71 e72
      obtain ⟨v73, e74⟩ : ∃ y : Int32, y = x2 + (1) := ⟨_, rfl⟩
      have hb := hb v73 e74
      refine wp_iinc (v := v73) (lv2 := [(2, .int v73), (0, .ref x0)]) 1 dX12_next_224 rfl (by rw [e74]; rfl) (by decide) rfl ?_
      refine wp_aload_n 1 dX12_next_227 rfl rfl ?_
      refine wp_dup dX12_next_228 rfl ?_
      refine wp_getI dX12_next_229 fl_X12_151 i52 ?_
      refine wp_iconst (v := 1) dX12_next_232 (by decide) ?_
      refine wp_iadd dX12_next_233 ?_
      refine wp_putI dX12_next_234 fl_X12_151 (Or.inl rfl) i52 ?_
      refine wp_topH (fun h75 e76 => ?_)
      have hb := hb h75 e76
      refine wp_goto (tgt := 182) dX12_next_237 (by decide) ?_
      exact wp_sub [1, 0] rfl hb
set_option maxRecDepth 100000 in
set_option maxHeartbeats 4000000 in
theorem s_X12_next_93 {l : Launch} {g : AG} {h : AH} {x0 : Nat} {x2 : Int32}  {Q : AH → Prop} (hb : (Is 194 x0 11) ∧ ( C_X12_byteAt l g h x0 (h.1 x0 13) (fun r80 h79 => ( C_X12_isLetter l g h79 r80 (fun r83 h82 => ( ((r83 = 0 → (((9 ≤ x2 → (Q h82)) ∧ (¬ (9 ≤ x2) → (∀ h86 : AH, h86 = ax_setI h82 x0 14 2 → ( Q h86)))))) ∧ (¬ (r83 = 0) → (((8 ≤ x2 → (∀ v89 : Int32, v89 = x2 + (1) → ( ∀ h91 : AH, h91 = ax_setI h82 x0 13 ((h82.1 x0 13) + 1) → ( L_X12_next_93 l g h91 x0 v89  Q)))) ∧ (¬ (8 ≤ x2) → (C_X12_byteAt l g h82 x0 (h82.1 x0 13) (fun r95 h94 => ( ∀ v96 : Int64, v96 = ((32 * (h82.2.1 x0 18)) + (((r95 - 97) + 1).toInt64)) → ( ∀ h98 : AH, h98 = ax_setL h94 x0 18 v96 → ( ∀ v100 : Int32, v100 = x2 + (1) → ( ∀ h102 : AH, h102 = ax_setI h98 x0 13 ((h98.1 x0 13) + 1) → ( L_X12_next_93 l g h102 x0 v100  Q)))))))))))))))))) : L_X12_next_93 l g h x0 x2  Q := by
  obtain ⟨i77, hb⟩ := hb
  refine wp_aload_n 0 dX12_next_93 rfl rfl ?_
  refine wp_aload_n 0 dX12_next_94 rfl rfl ?_
  refine wp_getI dX12_next_95 fl_X12_151 i77 ?_
  refine wp_callV (as := [.int (h.1 x0 13)]) dX12_next_98 cb_X12_byteAt lk_X12_154 im_X12_byteAt se_X12_byteAt rfl (Nat.le_of_ble_eq_true rfl) ⟨by decide, by decide⟩ ⟨Nat.le_refl _, Nat.le_refl _, Nat.le_refl _⟩ i77 rfl (by decide) hb (fun r0 h79 hb => ?_)
  obtain ⟨r80, rfl, hb⟩ := hb
  refine wp_callS (as := [.int r80]) dX12_next_101 cb_X12_isLetter lk_X12_165 st_X12_isLetter rfl (Nat.le_of_ble_eq_true rfl) ⟨by decide, by decide⟩ ⟨Nat.le_refl _, Nat.le_refl _, Nat.le_refl _⟩ hb (fun r0 h82 hb => ?_)
  obtain ⟨r83, rfl, hb⟩ := hb
  refine wp_if_eq (tgt := 156) dX12_next_104 (by decide) (fun c84 => ?_) (fun c84 => ?_)
  · have hb := hb.1 c84
    refine wp_iload_n 1 dX12_next_156 rfl rfl ?_
    refine wp_bipush (v := 9) dX12_next_157 (by decide) ?_
    refine wp_icmp_ge (tgt := 315) dX12_next_159 (by decide) (fun c85 => ?_) (fun c85 => ?_)
    · have hb := hb.1 c85
      exact wp_vret rfl dX12_next_315 ⟨rfl, hb⟩
    · have hb := hb.2 c85
      refine wp_aload_n 0 dX12_next_162 rfl rfl ?_
      refine wp_iconst (v := 2) dX12_next_163 (by decide) ?_
      refine wp_putI dX12_next_164 fl_X12_159 (Or.inl rfl) i77 ?_
      refine wp_topH (fun h86 e87 => ?_)
      have hb := hb h86 e87
      refine wp_goto (tgt := 315) dX12_next_167 (by decide) ?_
      exact wp_vret rfl dX12_next_315 ⟨rfl, hb⟩
  · have hb := hb.2 c84
    refine wp_iload_n 1 dX12_next_107 rfl rfl ?_
    refine wp_bipush (v := 8) dX12_next_108 (by decide) ?_
    refine wp_icmp_ge (tgt := 140) dX12_next_110 (by decide) (fun c88 => ?_) (fun c88 => ?_)
    · have hb := hb.1 c88
      obtain ⟨v89, e90⟩ : ∃ y : Int32, y = x2 + (1) := ⟨_, rfl⟩
      have hb := hb v89 e90
      refine wp_iinc (v := v89) (lv2 := [(2, .int v89), (0, .ref x0)]) 1 dX12_next_140 rfl (by rw [e90]; rfl) (by decide) rfl ?_
      refine wp_aload_n 1 dX12_next_143 rfl rfl ?_
      refine wp_dup dX12_next_144 rfl ?_
      refine wp_getI dX12_next_145 fl_X12_151 i77 ?_
      refine wp_iconst (v := 1) dX12_next_148 (by decide) ?_
      refine wp_iadd dX12_next_149 ?_
      refine wp_putI dX12_next_150 fl_X12_151 (Or.inl rfl) i77 ?_
      refine wp_topH (fun h91 e92 => ?_)
      have hb := hb h91 e92
      refine wp_goto (tgt := 93) dX12_next_153 (by decide) ?_
      exact wp_sub [1, 0] rfl hb
    · have hb := hb.2 c88
      refine wp_aload_n 0 dX12_next_113 rfl rfl ?_
      refine wp_ldc2 (v := 32) dX12_next_114 lk_X12_145 ?_
      refine wp_aload_n 0 dX12_next_117 rfl rfl ?_
      refine wp_getL dX12_next_118 fl_X12_169 i77 ?_
      refine wp_lmul dX12_next_121 ?_
      refine wp_aload_n 0 dX12_next_122 rfl rfl ?_
      refine wp_aload_n 0 dX12_next_123 rfl rfl ?_
      refine wp_getI dX12_next_124 fl_X12_151 i77 ?_
      refine wp_callV (as := [.int (h82.1 x0 13)]) dX12_next_127 cb_X12_byteAt lk_X12_154 im_X12_byteAt se_X12_byteAt rfl (Nat.le_of_ble_eq_true rfl) ⟨by decide, by decide⟩ ⟨Nat.le_refl _, Nat.le_refl _, Nat.le_refl _⟩ i77 rfl (by decide) hb (fun r0 h94 hb => ?_)
      obtain ⟨r95, rfl, hb⟩ := hb
      refine wp_bipush (v := 97) dX12_next_130 (by decide) ?_
      refine wp_isub dX12_next_132 ?_
      refine wp_iconst (v := 1) dX12_next_133 (by decide) ?_
      refine wp_iadd dX12_next_134 ?_
      refine wp_i2l dX12_next_135 ?_
      refine wp_ladd dX12_next_136 ?_
      refine wp_topl (fun v96 e97 => ?_)
      have hb := hb v96 e97
      refine wp_putL dX12_next_137 fl_X12_169 (Or.inl rfl) i77 ?_
      refine wp_topH (fun h98 e99 => ?_)
      have hb := hb h98 e99
      obtain ⟨v100, e101⟩ : ∃ y : Int32, y = x2 + (1) := ⟨_, rfl⟩
      have hb := hb v100 e101
      refine wp_iinc (v := v100) (lv2 := [(2, .int v100), (0, .ref x0)]) 1 dX12_next_140 rfl (by rw [e101]; rfl) (by decide) rfl ?_
      refine wp_aload_n 1 dX12_next_143 rfl rfl ?_
      refine wp_dup dX12_next_144 rfl ?_
      refine wp_getI dX12_next_145 fl_X12_151 i77 ?_
      refine wp_iconst (v := 1) dX12_next_148 (by decide) ?_
      refine wp_iadd dX12_next_149 ?_
      refine wp_putI dX12_next_150 fl_X12_151 (Or.inl rfl) i77 ?_
      refine wp_topH (fun h102 e103 => ?_)
      have hb := hb h102 e103
      refine wp_goto (tgt := 93) dX12_next_153 (by decide) ?_
      exact wp_sub [1, 0] rfl hb
theorem c_X12_next {l : Launch} {g : AG} {h : AH} {x0 : Nat}  {Q : AH → Prop} (hb : L_X12_next_0 l g h x0  Q) : C_X12_next l g h x0  Q := ax_met rfl rfl (Nat.le_of_ble_eq_true rfl) hb
def C_X12_isWord (l : Launch) (g : AG) (h : AH) (x0 : Nat) (x1 : Nat)  (Q : Int32 → AH → Prop) : Prop := Ct l g mX12_isWord 5 143 194 194 h [.ref x0, .ref x1] (ax_QI Q)
def L_X12_isWord_0 (l : Launch) (g : AG) (h : AH) (x0 : Nat) (x1 : Nat)  (Q : Int32 → AH → Prop) : Prop := Wp l g mX12_isWord 5 143 194 194 194 0 [(0, .ref x0), (1, .ref x1)] [] h (FM g 194 194 (ax_QI Q))
set_option maxRecDepth 100000 in
set_option maxHeartbeats 4000000 in
theorem s_X12_isWord_0 {l : Launch} {g : AG} {h : AH} {x0 : Nat} {x1 : Nat}  {Q : Int32 → AH → Prop} (hb : (Is 194 x0 11) ∧ ( ((¬ h.1 x0 14 = 2 → (Q 0 h)) ∧ (h.1 x0 14 = 2 → (C_X12_wordOf l g h x1 (fun r5 h4 => ( ((¬ lg_cmp (h.2.1 x0 18) r5 = 0 → (Q 0 h4)) ∧ (lg_cmp (h.2.1 x0 18) r5 = 0 → (Q 1 h4)))))))))) : L_X12_isWord_0 l g h x0 x1  Q := by
  obtain ⟨i1, hb⟩ := hb
  refine wp_aload_n 0 dX12_isWord_0 rfl rfl ?_
  refine wp_getI dX12_isWord_1 fl_X12_159 i1 ?_
  refine wp_iconst (v := 2) dX12_isWord_4 (by decide) ?_
  refine wp_icmp_ne (tgt := 24) dX12_isWord_5 (by decide) (fun c2 => ?_) (fun c2 => ?_)
  · have hb := hb.1 c2
    refine wp_iconst (v := 0) dX12_isWord_24 (by decide) ?_
    exact wp_zret rfl dX12_isWord_25 (Or.inl rfl) ⟨_, rfl, hb⟩
  · have hb := hb.2 c2
    refine wp_aload_n 0 dX12_isWord_8 rfl rfl ?_
    refine wp_getL dX12_isWord_9 fl_X12_169 i1 ?_
    refine wp_aload_n 1 dX12_isWord_12 rfl rfl ?_
    refine wp_callS (as := [.ref x1]) dX12_isWord_13 cb_X12_wordOf lk_X12_179 st_X12_wordOf rfl (Nat.le_of_ble_eq_true rfl) ⟨by decide, by decide⟩ ⟨Nat.le_refl _, Nat.le_refl _, Nat.le_refl _⟩ hb (fun r0 h4 hb => ?_)
    obtain ⟨r5, rfl, hb⟩ := hb
    refine wp_lcmp dX12_isWord_16 ?_
    refine wp_if_ne (tgt := 24) dX12_isWord_17 (by decide) (fun c6 => ?_) (fun c6 => ?_)
    · have hb := hb.1 c6
      refine wp_iconst (v := 0) dX12_isWord_24 (by decide) ?_
      exact wp_zret rfl dX12_isWord_25 (Or.inl rfl) ⟨_, rfl, hb⟩
    · have hb := hb.2 c6
      refine wp_iconst (v := 1) dX12_isWord_20 (by decide) ?_
      refine wp_goto (tgt := 25) dX12_isWord_21 (by decide) ?_
      exact wp_zret rfl dX12_isWord_25 (Or.inr rfl) ⟨_, rfl, hb⟩
theorem c_X12_isWord {l : Launch} {g : AG} {h : AH} {x0 : Nat} {x1 : Nat}  {Q : Int32 → AH → Prop} (hb : L_X12_isWord_0 l g h x0 x1  Q) : C_X12_isWord l g h x0 x1  Q := ax_met rfl rfl (Nat.le_of_ble_eq_true rfl) hb
def C_X12_is (l : Launch) (g : AG) (h : AH) (x0 : Nat) (x1 : Int32)  (Q : Int32 → AH → Prop) : Prop := Ct l g mX12_is 0 0 194 194 h [.ref x0, .int x1] (ax_QI Q)
def L_X12_is_0 (l : Launch) (g : AG) (h : AH) (x0 : Nat) (x1 : Int32)  (Q : Int32 → AH → Prop) : Prop := Wp l g mX12_is 0 0 194 194 194 0 [(0, .ref x0), (1, .int x1)] [] h (FM g 194 194 (ax_QI Q))
set_option maxRecDepth 100000 in
set_option maxHeartbeats 4000000 in
theorem s_X12_is_0 {l : Launch} {g : AG} {h : AH} {x0 : Nat} {x1 : Int32}  {Q : Int32 → AH → Prop} (hb : (Is 194 x0 11) ∧ ( ((¬ h.1 x0 14 = 4 → (Q 0 h)) ∧ (h.1 x0 14 = 4 → (((¬ h.1 x0 16 = x1 → (Q 0 h)) ∧ (h.1 x0 16 = x1 → (Q 1 h)))))))) : L_X12_is_0 l g h x0 x1  Q := by
  obtain ⟨i1, hb⟩ := hb
  refine wp_aload_n 0 dX12_is_0 rfl rfl ?_
  refine wp_getI dX12_is_1 fl_X12_159 i1 ?_
  refine wp_iconst (v := 4) dX12_is_4 (by decide) ?_
  refine wp_icmp_ne (tgt := 20) dX12_is_5 (by decide) (fun c2 => ?_) (fun c2 => ?_)
  · have hb := hb.1 c2
    refine wp_iconst (v := 0) dX12_is_20 (by decide) ?_
    exact wp_zret rfl dX12_is_21 (Or.inl rfl) ⟨_, rfl, hb⟩
  · have hb := hb.2 c2
    refine wp_aload_n 0 dX12_is_8 rfl rfl ?_
    refine wp_getI dX12_is_9 fl_X12_162 i1 ?_
    refine wp_iload_n 1 dX12_is_12 rfl rfl ?_
    refine wp_icmp_ne (tgt := 20) dX12_is_13 (by decide) (fun c3 => ?_) (fun c3 => ?_)
    · have hb := hb.1 c3
      refine wp_iconst (v := 0) dX12_is_20 (by decide) ?_
      exact wp_zret rfl dX12_is_21 (Or.inl rfl) ⟨_, rfl, hb⟩
    · have hb := hb.2 c3
      refine wp_iconst (v := 1) dX12_is_16 (by decide) ?_
      refine wp_goto (tgt := 21) dX12_is_17 (by decide) ?_
      exact wp_zret rfl dX12_is_21 (Or.inr rfl) ⟨_, rfl, hb⟩
theorem c_X12_is {l : Launch} {g : AG} {h : AH} {x0 : Nat} {x1 : Int32}  {Q : Int32 → AH → Prop} (hb : L_X12_is_0 l g h x0 x1  Q) : C_X12_is l g h x0 x1  Q := ax_met rfl rfl (Nat.le_of_ble_eq_true rfl) hb
def C_X12_need (l : Launch) (g : AG) (h : AH) (x0 : Nat) (x1 : Int32)  (Q : AH → Prop) (X : AH → Prop) : Prop := Cx l g mX12_need 2 43 194 194 h [.ref x0, .int x1] (ax_QV Q) X
def L_X12_need_0 (l : Launch) (g : AG) (h : AH) (x0 : Nat) (x1 : Int32)  (Q : AH → Prop) (X : AH → Prop) : Prop := Wp l g mX12_need 2 43 194 194 194 0 [(0, .ref x0), (1, .int x1)] [] h (FX g 194 194 (ax_QV Q) X)
set_option maxRecDepth 100000 in
set_option maxHeartbeats 4000000 in
theorem s_X12_need_0 {l : Launch} {g : AG} {h : AH} {x0 : Nat} {x1 : Int32}  {Q : AH → Prop} {X : AH → Prop} (hb : (Is 194 x0 11) ∧ ( C_X12_is l g h x0 x1 (fun r4 h3 => ( ((¬ r4 = 0 → (C_X12_next l g h3 x0 (fun h7 => ( Q h7)))) ∧ (r4 = 0 → (C_X12_stop l g h3 x0 1 (h3.1 x0 15) (fun r10 h9 => ( (r10 = 128) ∧ ( X h9)))))))))) : L_X12_need_0 l g h x0 x1  Q X := by
  obtain ⟨i1, hb⟩ := hb
  refine wp_aload_n 0 dX12_need_0 rfl rfl ?_
  refine wp_iload_n 1 dX12_need_1 rfl rfl ?_
  refine wp_callV (as := [.int x1]) dX12_need_2 cb_X12_is lk_X12_183 im_X12_is se_X12_is rfl (Nat.le_of_ble_eq_true rfl) ⟨by decide, by decide⟩ ⟨Nat.le_refl _, Nat.le_refl _, Nat.le_refl _⟩ i1 rfl (by decide) hb (fun r0 h3 hb => ?_)
  obtain ⟨r4, rfl, hb⟩ := hb
  refine wp_if_ne (tgt := 18) dX12_need_5 (by decide) (fun c5 => ?_) (fun c5 => ?_)
  · have hb := hb.1 c5
    refine wp_aload_n 0 dX12_need_18 rfl rfl ?_
    refine wp_callV (as := []) dX12_need_19 cb_X12_next lk_X12_188 im_X12_next se_X12_next rfl (Nat.le_of_ble_eq_true rfl) ⟨by decide, by decide⟩ ⟨Nat.le_refl _, Nat.le_refl _, Nat.le_refl _⟩ i1 rfl (by decide) hb (fun r0 h7 hb => ?_)
    obtain ⟨rfl, hb⟩ := hb
    exact wx_of (wp_vret rfl dX12_need_22 ⟨rfl, hb⟩)
  · have hb := hb.2 c5
    refine wp_aload_n 0 dX12_need_8 rfl rfl ?_
    refine wp_iconst (v := 1) dX12_need_9 (by decide) ?_
    refine wp_aload_n 0 dX12_need_10 rfl rfl ?_
    refine wp_getI dX12_need_11 fl_X12_158 i1 ?_
    refine wp_callV (as := [.int 1, .int (h3.1 x0 15)]) dX12_need_14 cb_X12_stop lk_X12_185 im_X12_stop se_X12_stop rfl (Nat.le_of_ble_eq_true rfl) ⟨by decide, by decide⟩ ⟨Nat.le_refl _, Nat.le_refl _, Nat.le_refl _⟩ i1 rfl (by decide) hb (fun r0 h9 hb => ?_)
    obtain ⟨r10, rfl, hb⟩ := hb
    obtain ⟨q11, hb⟩ := hb
    exact wx_throw rfl dX12_need_17 q11 (by decide) hb
theorem c_X12_need {l : Launch} {g : AG} {h : AH} {x0 : Nat} {x1 : Int32}  {Q : AH → Prop} {X : AH → Prop} (hb : L_X12_need_0 l g h x0 x1  Q X) : C_X12_need l g h x0 x1  Q X := ax_metx rfl rfl (Nat.le_of_ble_eq_true rfl) hb
def C_X12_needWord (l : Launch) (g : AG) (h : AH) (x0 : Nat) (x1 : Nat)  (Q : AH → Prop) (X : AH → Prop) : Prop := Cx l g mX12_needWord 6 164 194 194 h [.ref x0, .ref x1] (ax_QV Q) X
def L_X12_needWord_0 (l : Launch) (g : AG) (h : AH) (x0 : Nat) (x1 : Nat)  (Q : AH → Prop) (X : AH → Prop) : Prop := Wp l g mX12_needWord 6 164 194 194 194 0 [(0, .ref x0), (1, .ref x1)] [] h (FX g 194 194 (ax_QV Q) X)
set_option maxRecDepth 100000 in
set_option maxHeartbeats 4000000 in
theorem s_X12_needWord_0 {l : Launch} {g : AG} {h : AH} {x0 : Nat} {x1 : Nat}  {Q : AH → Prop} {X : AH → Prop} (hb : (Is 194 x0 11) ∧ ( C_X12_isWord l g h x0 x1 (fun r4 h3 => ( ((¬ r4 = 0 → (C_X12_next l g h3 x0 (fun h7 => ( Q h7)))) ∧ (r4 = 0 → (C_X12_stop l g h3 x0 1 (h3.1 x0 15) (fun r10 h9 => ( (r10 = 128) ∧ ( X h9)))))))))) : L_X12_needWord_0 l g h x0 x1  Q X := by
  obtain ⟨i1, hb⟩ := hb
  refine wp_aload_n 0 dX12_needWord_0 rfl rfl ?_
  refine wp_aload_n 1 dX12_needWord_1 rfl rfl ?_
  refine wp_callV (as := [.ref x1]) dX12_needWord_2 cb_X12_isWord lk_X12_191 im_X12_isWord se_X12_isWord rfl (Nat.le_of_ble_eq_true rfl) ⟨by decide, by decide⟩ ⟨Nat.le_refl _, Nat.le_refl _, Nat.le_refl _⟩ i1 rfl (by decide) hb (fun r0 h3 hb => ?_)
  obtain ⟨r4, rfl, hb⟩ := hb
  refine wp_if_ne (tgt := 18) dX12_needWord_5 (by decide) (fun c5 => ?_) (fun c5 => ?_)
  · have hb := hb.1 c5
    refine wp_aload_n 0 dX12_needWord_18 rfl rfl ?_
    refine wp_callV (as := []) dX12_needWord_19 cb_X12_next lk_X12_188 im_X12_next se_X12_next rfl (Nat.le_of_ble_eq_true rfl) ⟨by decide, by decide⟩ ⟨Nat.le_refl _, Nat.le_refl _, Nat.le_refl _⟩ i1 rfl (by decide) hb (fun r0 h7 hb => ?_)
    obtain ⟨rfl, hb⟩ := hb
    exact wx_of (wp_vret rfl dX12_needWord_22 ⟨rfl, hb⟩)
  · have hb := hb.2 c5
    refine wp_aload_n 0 dX12_needWord_8 rfl rfl ?_
    refine wp_iconst (v := 1) dX12_needWord_9 (by decide) ?_
    refine wp_aload_n 0 dX12_needWord_10 rfl rfl ?_
    refine wp_getI dX12_needWord_11 fl_X12_158 i1 ?_
    refine wp_callV (as := [.int 1, .int (h3.1 x0 15)]) dX12_needWord_14 cb_X12_stop lk_X12_185 im_X12_stop se_X12_stop rfl (Nat.le_of_ble_eq_true rfl) ⟨by decide, by decide⟩ ⟨Nat.le_refl _, Nat.le_refl _, Nat.le_refl _⟩ i1 rfl (by decide) hb (fun r0 h9 hb => ?_)
    obtain ⟨r10, rfl, hb⟩ := hb
    obtain ⟨q11, hb⟩ := hb
    exact wx_throw rfl dX12_needWord_17 q11 (by decide) hb
theorem c_X12_needWord {l : Launch} {g : AG} {h : AH} {x0 : Nat} {x1 : Nat}  {Q : AH → Prop} {X : AH → Prop} (hb : L_X12_needWord_0 l g h x0 x1  Q X) : C_X12_needWord l g h x0 x1  Q X := ax_metx rfl rfl (Nat.le_of_ble_eq_true rfl) hb
def C_X12_needNumber (l : Launch) (g : AG) (h : AH) (x0 : Nat) (x1 : Int32) (x2 : Int32)  (Q : Int32 → AH → Prop) (X : AH → Prop) : Prop := Cx l g mX12_needNumber 2 43 194 194 h [.ref x0, .int x1, .int x2] (ax_QI Q) X
def L_X12_needNumber_0 (l : Launch) (g : AG) (h : AH) (x0 : Nat) (x1 : Int32) (x2 : Int32)  (Q : Int32 → AH → Prop) (X : AH → Prop) : Prop := Wp l g mX12_needNumber 2 43 194 194 194 0 [(0, .ref x0), (1, .int x1), (2, .int x2)] [] h (FX g 194 194 (ax_QI Q) X)
set_option maxRecDepth 100000 in
set_option maxHeartbeats 4000000 in
theorem s_X12_needNumber_0 {l : Launch} {g : AG} {h : AH} {x0 : Nat} {x1 : Int32} {x2 : Int32}  {Q : Int32 → AH → Prop} {X : AH → Prop} (hb : (Is 194 x0 11) ∧ ( ((h.1 x0 14 = 3 → (((h.1 x0 17 < x1 → (C_X12_stop l g h x0 4 (h.1 x0 15) (fun r6 h5 => ( (r6 = 128) ∧ ( X h5))))) ∧ (¬ (h.1 x0 17 < x1) → (((h.1 x0 17 ≤ x2 → (∀ v9 : Int32, v9 = (h.1 x0 17) → ( C_X12_next l g h x0 (fun h12 => ( Q v9 h12))))) ∧ (¬ (h.1 x0 17 ≤ x2) → (C_X12_stop l g h x0 4 (h.1 x0 15) (fun r15 h14 => ( (r15 = 128) ∧ ( X h14))))))))))) ∧ (¬ (h.1 x0 14 = 3) → (C_X12_stop l g h x0 1 (h.1 x0 15) (fun r19 h18 => ( (r19 = 128) ∧ ( X h18)))))))) : L_X12_needNumber_0 l g h x0 x1 x2  Q X := by
  obtain ⟨i1, hb⟩ := hb
  refine wp_aload_n 0 dX12_needNumber_0 rfl rfl ?_
  refine wp_getI dX12_needNumber_1 fl_X12_159 i1 ?_
  refine wp_iconst (v := 3) dX12_needNumber_4 (by decide) ?_
  refine wp_icmp_eq (tgt := 18) dX12_needNumber_5 (by decide) (fun c2 => ?_) (fun c2 => ?_)
  · have hb := hb.1 c2
    refine wp_aload_n 0 dX12_needNumber_18 rfl rfl ?_
    refine wp_getI dX12_needNumber_19 fl_X12_176 i1 ?_
    refine wp_iload_n 1 dX12_needNumber_22 rfl rfl ?_
    refine wp_icmp_lt (tgt := 34) dX12_needNumber_23 (by decide) (fun c3 => ?_) (fun c3 => ?_)
    · have hb := hb.1 c3
      refine wp_aload_n 0 dX12_needNumber_34 rfl rfl ?_
      refine wp_iconst (v := 4) dX12_needNumber_35 (by decide) ?_
      refine wp_aload_n 0 dX12_needNumber_36 rfl rfl ?_
      refine wp_getI dX12_needNumber_37 fl_X12_158 i1 ?_
      refine wp_callV (as := [.int 4, .int (h.1 x0 15)]) dX12_needNumber_40 cb_X12_stop lk_X12_185 im_X12_stop se_X12_stop rfl (Nat.le_of_ble_eq_true rfl) ⟨by decide, by decide⟩ ⟨Nat.le_refl _, Nat.le_refl _, Nat.le_refl _⟩ i1 rfl (by decide) hb (fun r0 h5 hb => ?_)
      obtain ⟨r6, rfl, hb⟩ := hb
      obtain ⟨q7, hb⟩ := hb
      exact wx_throw rfl dX12_needNumber_43 q7 (by decide) hb
    · have hb := hb.2 c3
      refine wp_aload_n 0 dX12_needNumber_26 rfl rfl ?_
      refine wp_getI dX12_needNumber_27 fl_X12_176 i1 ?_
      refine wp_iload_n 2 dX12_needNumber_30 rfl rfl ?_
      refine wp_icmp_le (tgt := 44) dX12_needNumber_31 (by decide) (fun c8 => ?_) (fun c8 => ?_)
      · have hb := hb.1 c8
        refine wp_aload_n 0 dX12_needNumber_44 rfl rfl ?_
        refine wp_getI dX12_needNumber_45 fl_X12_176 i1 ?_
        refine wp_topi (fun v9 e10 => ?_)
        have hb := hb v9 e10
        refine wp_istore_n (lv2 := [(3, .int v9), (0, .ref x0), (1, .int x1), (2, .int x2)]) dX12_needNumber_48 rfl (by decide) rfl ?_
        refine wp_aload_n 1 dX12_needNumber_49 rfl rfl ?_
        refine wp_callV (as := []) dX12_needNumber_50 cb_X12_next lk_X12_188 im_X12_next se_X12_next rfl (Nat.le_of_ble_eq_true rfl) ⟨by decide, by decide⟩ ⟨Nat.le_refl _, Nat.le_refl _, Nat.le_refl _⟩ i1 rfl (by decide) hb (fun r0 h12 hb => ?_)
        obtain ⟨rfl, hb⟩ := hb
        refine wp_iload_n 0 dX12_needNumber_53 rfl rfl ?_
        exact wx_of (wp_iret rfl dX12_needNumber_54 ⟨_, rfl, hb⟩)
      · have hb := hb.2 c8
        refine wp_aload_n 0 dX12_needNumber_34 rfl rfl ?_
        refine wp_iconst (v := 4) dX12_needNumber_35 (by decide) ?_
        refine wp_aload_n 0 dX12_needNumber_36 rfl rfl ?_
        refine wp_getI dX12_needNumber_37 fl_X12_158 i1 ?_
        refine wp_callV (as := [.int 4, .int (h.1 x0 15)]) dX12_needNumber_40 cb_X12_stop lk_X12_185 im_X12_stop se_X12_stop rfl (Nat.le_of_ble_eq_true rfl) ⟨by decide, by decide⟩ ⟨Nat.le_refl _, Nat.le_refl _, Nat.le_refl _⟩ i1 rfl (by decide) hb (fun r0 h14 hb => ?_)
        obtain ⟨r15, rfl, hb⟩ := hb
        obtain ⟨q16, hb⟩ := hb
        exact wx_throw rfl dX12_needNumber_43 q16 (by decide) hb
  · have hb := hb.2 c2
    refine wp_aload_n 0 dX12_needNumber_8 rfl rfl ?_
    refine wp_iconst (v := 1) dX12_needNumber_9 (by decide) ?_
    refine wp_aload_n 0 dX12_needNumber_10 rfl rfl ?_
    refine wp_getI dX12_needNumber_11 fl_X12_158 i1 ?_
    refine wp_callV (as := [.int 1, .int (h.1 x0 15)]) dX12_needNumber_14 cb_X12_stop lk_X12_185 im_X12_stop se_X12_stop rfl (Nat.le_of_ble_eq_true rfl) ⟨by decide, by decide⟩ ⟨Nat.le_refl _, Nat.le_refl _, Nat.le_refl _⟩ i1 rfl (by decide) hb (fun r0 h18 hb => ?_)
    obtain ⟨r19, rfl, hb⟩ := hb
    obtain ⟨q20, hb⟩ := hb
    exact wx_throw rfl dX12_needNumber_17 q20 (by decide) hb
theorem c_X12_needNumber {l : Launch} {g : AG} {h : AH} {x0 : Nat} {x1 : Int32} {x2 : Int32}  {Q : Int32 → AH → Prop} {X : AH → Prop} (hb : L_X12_needNumber_0 l g h x0 x1 x2  Q X) : C_X12_needNumber l g h x0 x1 x2  Q X := ax_metx rfl rfl (Nat.le_of_ble_eq_true rfl) hb
def C_X12_find (l : Launch) (g : AG) (h : AH) (x0 : Nat) (x1 : Int32) (x2 : Int32) (x3 : Int64)  (Q : Int32 → AH → Prop) : Prop := Ct l g mX12_find 0 0 194 194 h [.ref x0, .int x1, .int x2, .long x3] (ax_QI Q)
def L_X12_find_0 (l : Launch) (g : AG) (h : AH) (x0 : Nat) (x1 : Int32) (x2 : Int32) (x3 : Int64)  (Q : Int32 → AH → Prop) : Prop := Wp l g mX12_find 0 0 194 194 194 0 [(0, .ref x0), (1, .int x1), (2, .int x2), (3, .long x3)] [] h (FM g 194 194 (ax_QI Q))
def L_X12_find_3 (l : Launch) (g : AG) (h : AH) (x0 : Nat) (x2 : Int32) (x3 : Int64) (x5 : Int32)  (Q : Int32 → AH → Prop) : Prop := Wp l g mX12_find 0 0 194 194 194 3 [(0, .ref x0), (2, .int x2), (3, .long x3), (5, .int x5)] [] h (FM g 194 194 (ax_QI Q))
def L_X12_find_24 (l : Launch) (g : AG) (h : AH) (x2 : Int32) (x5 : Int32)  (Q : Int32 → AH → Prop) : Prop := Wp l g mX12_find 0 0 194 194 194 24 [(2, .int x2), (5, .int x5)] [] h (FM g 194 194 (ax_QI Q))
set_option maxRecDepth 100000 in
set_option maxHeartbeats 4000000 in
theorem s_X12_find_0 {l : Launch} {g : AG} {h : AH} {x0 : Nat} {x1 : Int32} {x2 : Int32} {x3 : Int64}  {Q : Int32 → AH → Prop} (hb : L_X12_find_3 l g h x0 x2 x3 x1  Q) : L_X12_find_0 l g h x0 x1 x2 x3  Q := by
  refine wp_iload_n 1 dX12_find_0 rfl rfl ?_
  refine wp_istore (lv2 := [(5, .int x1), (0, .ref x0), (1, .int x1), (2, .int x2), (3, .long x3)]) dX12_find_1 (by decide) rfl ?_
  exact wp_sub [1, 3, 4, 0] rfl hb
set_option maxRecDepth 100000 in
set_option maxHeartbeats 4000000 in
theorem s_X12_find_3 {l : Launch} {g : AG} {h : AH} {x0 : Nat} {x2 : Int32} {x3 : Int64} {x5 : Int32}  {Q : Int32 → AH → Prop} (hb : ((x2 ≤ x5 → (L_X12_find_24 l g h x2 x5  Q)) ∧ (¬ (x2 ≤ x5) → ((Is 194 x0 21) ∧ ( (vp_in x5 (ax_s x0).2) ∧ ( ((lg_cmp (h.2.1 x0 x5.toNatClampNeg) x3 = 0 → (L_X12_find_24 l g h x2 x5  Q)) ∧ (¬ (lg_cmp (h.2.1 x0 x5.toNatClampNeg) x3 = 0) → (∀ v5 : Int32, v5 = x5 + (1) → ( L_X12_find_3 l g h x0 x2 x3 v5  Q)))))))))) : L_X12_find_3 l g h x0 x2 x3 x5  Q := by
  refine wp_iload 3 dX12_find_3 rfl ?_
  refine wp_iload_n 1 dX12_find_5 rfl rfl ?_
  refine wp_icmp_ge (tgt := 24) dX12_find_6 (by decide) (fun c1 => ?_) (fun c1 => ?_)
  · have hb := hb.1 c1
    exact wp_sub [1, 3] rfl hb
  · have hb := hb.2 c1
    obtain ⟨i2, hb⟩ := hb
    refine wp_aload_n 0 dX12_find_9 rfl rfl ?_
    refine wp_iload 3 dX12_find_10 rfl ?_
    obtain ⟨b3, hb⟩ := hb
    refine wp_laload dX12_find_12 i2 b3 ?_
    refine wp_lload_n 2 dX12_find_13 rfl rfl ?_
    refine wp_lcmp dX12_find_14 ?_
    refine wp_if_eq (tgt := 24) dX12_find_15 (by decide) (fun c4 => ?_) (fun c4 => ?_)
    · have hb := hb.1 c4
      exact wp_sub [1, 3] rfl hb
    · have hb := hb.2 c4
      obtain ⟨v5, e6⟩ : ∃ y : Int32, y = x5 + (1) := ⟨_, rfl⟩
      have hb := hb v5 e6
      refine wp_iinc (v := v5) (lv2 := [(5, .int v5), (0, .ref x0), (2, .int x2), (3, .long x3)]) 3 dX12_find_18 rfl (by rw [e6]; rfl) (by decide) rfl ?_
      refine wp_goto (tgt := 3) dX12_find_21 (by decide) ?_
      exact wp_sub [1, 2, 3, 0] rfl hb
set_option maxRecDepth 100000 in
set_option maxHeartbeats 4000000 in
theorem s_X12_find_24 {l : Launch} {g : AG} {h : AH} {x2 : Int32} {x5 : Int32}  {Q : Int32 → AH → Prop} (hb : ((x2 ≤ x5 → (Q (-1) h)) ∧ (¬ (x2 ≤ x5) → (Q x5 h)))) : L_X12_find_24 l g h x2 x5  Q := by
  refine wp_iload 1 dX12_find_24 rfl ?_
  refine wp_iload_n 0 dX12_find_26 rfl rfl ?_
  refine wp_icmp_ge (tgt := 35) dX12_find_27 (by decide) (fun c7 => ?_) (fun c7 => ?_)
  · have hb := hb.1 c7
    refine wp_iconst (v := (-1)) dX12_find_35 (by decide) ?_
    exact wp_iret rfl dX12_find_36 ⟨_, rfl, hb⟩
  · have hb := hb.2 c7
    refine wp_iload 1 dX12_find_30 rfl ?_
    refine wp_goto (tgt := 36) dX12_find_32 (by decide) ?_
    exact wp_iret rfl dX12_find_36 ⟨_, rfl, hb⟩
theorem c_X12_find {l : Launch} {g : AG} {h : AH} {x0 : Nat} {x1 : Int32} {x2 : Int32} {x3 : Int64}  {Q : Int32 → AH → Prop} (hb : L_X12_find_0 l g h x0 x1 x2 x3  Q) : C_X12_find l g h x0 x1 x2 x3  Q := ax_met rfl rfl (Nat.le_of_ble_eq_true rfl) hb
def C_X12_varHere (l : Launch) (g : AG) (h : AH) (x0 : Nat)  (Q : Int32 → AH → Prop) (X : AH → Prop) : Prop := Cx l g mX12_varHere 1 25 194 194 h [.ref x0] (ax_QI Q) X
def L_X12_varHere_0 (l : Launch) (g : AG) (h : AH) (x0 : Nat)  (Q : Int32 → AH → Prop) (X : AH → Prop) : Prop := Wp l g mX12_varHere 1 25 194 194 194 0 [(0, .ref x0)] [] h (FX g 194 194 (ax_QI Q) X)
set_option maxRecDepth 100000 in
set_option maxHeartbeats 4000000 in
theorem s_X12_varHere_0 {l : Launch} {g : AG} {h : AH} {x0 : Nat}  {Q : Int32 → AH → Prop} {X : AH → Prop} (hb : (Is 194 x0 11) ∧ ( ((h.1 x0 14 = 2 → ((Is 194 (h.2.2 x0 5) 9) ∧ ( (Is 194 (h.2.2 (h.2.2 x0 5) 5) 21) ∧ ( (Is 194 (h.2.2 x0 5) 9) ∧ ( C_X12_find l g h (h.2.2 (h.2.2 x0 5) 5) 0 (h.1 (h.2.2 x0 5) 2) (h.2.1 x0 18) (fun r8 h7 => ( ((¬ r8 = (-1) → (Q r8 h7)) ∧ (r8 = (-1) → (C_X12_stop l g h7 x0 2 (h7.1 x0 15) (fun r12 h11 => ( (r12 = 128) ∧ ( X h11))))))))))))) ∧ (¬ (h.1 x0 14 = 2) → (C_X12_stop l g h x0 1 (h.1 x0 15) (fun r16 h15 => ( (r16 = 128) ∧ ( X h15)))))))) : L_X12_varHere_0 l g h x0  Q X := by
  obtain ⟨i1, hb⟩ := hb
  refine wp_aload_n 0 dX12_varHere_0 rfl rfl ?_
  refine wp_getI dX12_varHere_1 fl_X12_159 i1 ?_
  refine wp_iconst (v := 2) dX12_varHere_4 (by decide) ?_
  refine wp_icmp_eq (tgt := 18) dX12_varHere_5 (by decide) (fun c2 => ?_) (fun c2 => ?_)
  · have hb := hb.1 c2
    refine wp_aload_n 0 dX12_varHere_18 rfl rfl ?_
    obtain ⟨i3, hb⟩ := hb
    refine wp_getR dX12_varHere_19 fl_X12_26 i1 (i3.ne (by decide)) ?_
    obtain ⟨i4, hb⟩ := hb
    refine wp_getR dX12_varHere_22 fl_X12_195 i3 (i4.ne (by decide)) ?_
    refine wp_iconst (v := 0) dX12_varHere_25 (by decide) ?_
    refine wp_aload_n 0 dX12_varHere_26 rfl rfl ?_
    obtain ⟨i5, hb⟩ := hb
    refine wp_getR dX12_varHere_27 fl_X12_26 i1 (i5.ne (by decide)) ?_
    refine wp_getI dX12_varHere_30 fl_X12_198 i5 ?_
    refine wp_aload_n 0 dX12_varHere_33 rfl rfl ?_
    refine wp_getL dX12_varHere_34 fl_X12_169 i1 ?_
    refine wp_callS (as := [.ref (h.2.2 (h.2.2 x0 5) 5), .int 0, .int (h.1 (h.2.2 x0 5) 2), .long (h.2.1 x0 18)]) dX12_varHere_37 cb_X12_find lk_X12_201 st_X12_find rfl (Nat.le_of_ble_eq_true rfl) ⟨by decide, by decide⟩ ⟨Nat.le_refl _, Nat.le_refl _, Nat.le_refl _⟩ hb (fun r0 h7 hb => ?_)
    obtain ⟨r8, rfl, hb⟩ := hb
    refine wp_istore_n (lv2 := [(1, .int r8), (0, .ref x0)]) dX12_varHere_40 rfl (by decide) rfl ?_
    refine wp_iload_n 0 dX12_varHere_41 rfl rfl ?_
    refine wp_iconst (v := (-1)) dX12_varHere_42 (by decide) ?_
    refine wp_icmp_ne (tgt := 56) dX12_varHere_43 (by decide) (fun c9 => ?_) (fun c9 => ?_)
    · have hb := hb.1 c9
      refine wp_iload_n 0 dX12_varHere_56 rfl rfl ?_
      exact wx_of (wp_iret rfl dX12_varHere_57 ⟨_, rfl, hb⟩)
    · have hb := hb.2 c9
      refine wp_aload_n 1 dX12_varHere_46 rfl rfl ?_
      refine wp_iconst (v := 2) dX12_varHere_47 (by decide) ?_
      refine wp_aload_n 1 dX12_varHere_48 rfl rfl ?_
      refine wp_getI dX12_varHere_49 fl_X12_158 i1 ?_
      refine wp_callV (as := [.int 2, .int (h7.1 x0 15)]) dX12_varHere_52 cb_X12_stop lk_X12_185 im_X12_stop se_X12_stop rfl (Nat.le_of_ble_eq_true rfl) ⟨by decide, by decide⟩ ⟨Nat.le_refl _, Nat.le_refl _, Nat.le_refl _⟩ i1 rfl (by decide) hb (fun r0 h11 hb => ?_)
      obtain ⟨r12, rfl, hb⟩ := hb
      obtain ⟨q13, hb⟩ := hb
      exact wx_throw rfl dX12_varHere_55 q13 (by decide) hb
  · have hb := hb.2 c2
    refine wp_aload_n 0 dX12_varHere_8 rfl rfl ?_
    refine wp_iconst (v := 1) dX12_varHere_9 (by decide) ?_
    refine wp_aload_n 0 dX12_varHere_10 rfl rfl ?_
    refine wp_getI dX12_varHere_11 fl_X12_158 i1 ?_
    refine wp_callV (as := [.int 1, .int (h.1 x0 15)]) dX12_varHere_14 cb_X12_stop lk_X12_185 im_X12_stop se_X12_stop rfl (Nat.le_of_ble_eq_true rfl) ⟨by decide, by decide⟩ ⟨Nat.le_refl _, Nat.le_refl _, Nat.le_refl _⟩ i1 rfl (by decide) hb (fun r0 h15 hb => ?_)
    obtain ⟨r16, rfl, hb⟩ := hb
    obtain ⟨q17, hb⟩ := hb
    exact wx_throw rfl dX12_varHere_17 q17 (by decide) hb
theorem c_X12_varHere {l : Launch} {g : AG} {h : AH} {x0 : Nat}  {Q : Int32 → AH → Prop} {X : AH → Prop} (hb : L_X12_varHere_0 l g h x0  Q X) : C_X12_varHere l g h x0  Q X := ax_metx rfl rfl (Nat.le_of_ble_eq_true rfl) hb
def C_X12_readCond (l : Launch) (g : AG) (h : AH) (x0 : Nat) (x1 : Int32)  (Q : AH → Prop) (X : AH → Prop) : Prop := Cx l g mX12_readCond 3 66 194 194 h [.ref x0, .int x1] (ax_QV Q) X
def L_X12_readCond_0 (l : Launch) (g : AG) (h : AH) (x0 : Nat) (x1 : Int32)  (Q : AH → Prop) (X : AH → Prop) : Prop := Wp l g mX12_readCond 3 66 194 194 194 0 [(0, .ref x0), (1, .int x1)] [] h (FX g 194 194 (ax_QV Q) X)
def L_X12_readCond_91 (l : Launch) (g : AG) (h : AH) (x0 : Nat) (x1 : Int32) (x2 : Nat) (x4 : Int32)  (Q : AH → Prop) (X : AH → Prop) : Prop := Wp l g mX12_readCond 3 66 194 194 194 91 [(0, .ref x0), (1, .int x1), (2, .ref x2), (4, .int x4)] [] h (FX g 194 194 (ax_QV Q) X)
set_option maxRecDepth 100000 in
set_option maxHeartbeats 4000000 in
theorem s_X12_readCond_0 {l : Launch} {g : AG} {h : AH} {x0 : Nat} {x1 : Int32}  {Q : AH → Prop} {X : AH → Prop} (hb : (Is 194 x0 11) ∧ ( (Is 194 (h.2.2 x0 5) 9) ∧ ( ∀ v3 : Nat, v3 = (h.2.2 x0 5) → ( C_X12_varHere l g h x0 (fun r8 h7 => ( (Is 194 (h7.2.2 v3 18) 20) ∧ ( (vp_in x1 (ax_s (h7.2.2 v3 18)).2) ∧ ( ((¬ h7.1 (h7.2.2 v3 18) x1.toNatClampNeg = 3 → ((Is 194 (h7.2.2 v3 18) 20) ∧ ( (vp_in x1 (ax_s (h7.2.2 v3 18)).2) ∧ ( ∀ v14 : Int32, v14 = ((3 * x1) + (h7.1 (h7.2.2 v3 18) x1.toNatClampNeg)) → ( (Is 194 (h7.2.2 v3 19) 20) ∧ ( (vp_in v14 (ax_s (h7.2.2 v3 19)).2) ∧ ( ∀ h18 : AH, h18 = ax_setI h7 (h7.2.2 v3 19) v14.toNatClampNeg r8 → ( C_X12_next l g h18 x0 (fun h21 => ( C_X12_is l g h21 x0 61 (fun r24 h23 => ( ((¬ r24 = 0 → (L_X12_readCond_91 l g h23 x0 x1 v3 v14  Q X)) ∧ (r24 = 0 → (C_X12_is l g h23 x0 60 (fun r28 h27 => ( ((¬ r28 = 0 → (L_X12_readCond_91 l g h27 x0 x1 v3 v14  Q X)) ∧ (r28 = 0 → (C_X12_is l g h27 x0 62 (fun r32 h31 => ( ((¬ r32 = 0 → (L_X12_readCond_91 l g h31 x0 x1 v3 v14  Q X)) ∧ (r32 = 0 → (C_X12_stop l g h31 x0 1 (h31.1 x0 15) (fun r36 h35 => ( (r36 = 128) ∧ ( X h35)))))))))))))))))))))))))))) ∧ (h7.1 (h7.2.2 v3 18) x1.toNatClampNeg = 3 → (C_X12_stop l g h7 x0 5 (h7.1 x0 15) (fun r40 h39 => ( (r40 = 128) ∧ ( X h39)))))))))) X)))) : L_X12_readCond_0 l g h x0 x1  Q X := by
  obtain ⟨i1, hb⟩ := hb
  refine wp_aload_n 0 dX12_readCond_0 rfl rfl ?_
  obtain ⟨i2, hb⟩ := hb
  refine wp_getR dX12_readCond_1 fl_X12_26 i1 (i2.ne (by decide)) ?_
  refine wp_topr (fun v3 e4 => ?_)
  have hb := hb v3 e4
  have i5 : Is 194 v3 9 := by rw [e4]; exact i2
  refine wp_astore_n (lv2 := [(2, .ref v3), (0, .ref x0), (1, .int x1)]) dX12_readCond_4 rfl (by decide) rfl ?_
  refine wp_aload_n 1 dX12_readCond_5 rfl rfl ?_
  refine wx_callV (as := []) dX12_readCond_6 cb_X12_varHere lk_X12_259 im_X12_varHere se_X12_varHere rfl (Nat.le_of_ble_eq_true rfl) ⟨by decide, by decide⟩ (Nat.le_refl _) i1 rfl (by decide) (by decide) rfl hb (fun r0 h7 hb => ?_) (fun _ hx => hx)
  obtain ⟨r8, rfl, hb⟩ := hb
  refine wp_istore_n (lv2 := [(3, .int r8), (2, .ref v3), (0, .ref x0), (1, .int x1)]) dX12_readCond_9 rfl (by decide) rfl ?_
  refine wp_aload_n 1 dX12_readCond_10 rfl rfl ?_
  obtain ⟨i9, hb⟩ := hb
  refine wp_getR dX12_readCond_11 fl_X12_270 i5 (i9.ne (by decide)) ?_
  refine wp_iload_n 3 dX12_readCond_14 rfl rfl ?_
  obtain ⟨b10, hb⟩ := hb
  refine wp_iaload dX12_readCond_15 i9 b10 ?_
  refine wp_iconst (v := 3) dX12_readCond_16 (by decide) ?_
  refine wp_icmp_ne (tgt := 30) dX12_readCond_17 (by decide) (fun c11 => ?_) (fun c11 => ?_)
  · have hb := hb.1 c11
    refine wp_iconst (v := 3) dX12_readCond_30 (by decide) ?_
    refine wp_iload_n 3 dX12_readCond_31 rfl rfl ?_
    refine wp_imul dX12_readCond_32 ?_
    refine wp_aload_n 1 dX12_readCond_33 rfl rfl ?_
    obtain ⟨i12, hb⟩ := hb
    refine wp_getR dX12_readCond_34 fl_X12_270 i5 (i12.ne (by decide)) ?_
    refine wp_iload_n 3 dX12_readCond_37 rfl rfl ?_
    obtain ⟨b13, hb⟩ := hb
    refine wp_iaload dX12_readCond_38 i12 b13 ?_
    refine wp_iadd dX12_readCond_39 ?_
    refine wp_topi (fun v14 e15 => ?_)
    have hb := hb v14 e15
    refine wp_istore (lv2 := [(4, .int v14), (3, .int r8), (2, .ref v3), (0, .ref x0), (1, .int x1)]) dX12_readCond_40 (by decide) rfl ?_
    refine wp_aload_n 2 dX12_readCond_42 rfl rfl ?_
    obtain ⟨i16, hb⟩ := hb
    refine wp_getR dX12_readCond_43 fl_X12_291 i5 (i16.ne (by decide)) ?_
    refine wp_iload 0 dX12_readCond_46 rfl ?_
    refine wp_iload_n 1 dX12_readCond_48 rfl rfl ?_
    obtain ⟨b17, hb⟩ := hb
    refine wp_iastore dX12_readCond_49 i16 b17 ?_
    refine wp_topH (fun h18 e19 => ?_)
    have hb := hb h18 e19
    refine wp_aload_n 3 dX12_readCond_50 rfl rfl ?_
    refine wp_callV (as := []) dX12_readCond_51 cb_X12_next lk_X12_188 im_X12_next se_X12_next rfl (Nat.le_of_ble_eq_true rfl) ⟨by decide, by decide⟩ ⟨Nat.le_refl _, Nat.le_refl _, Nat.le_refl _⟩ i1 rfl (by decide) hb (fun r0 h21 hb => ?_)
    obtain ⟨rfl, hb⟩ := hb
    refine wp_aload_n 3 dX12_readCond_54 rfl rfl ?_
    refine wp_bipush (v := 61) dX12_readCond_55 (by decide) ?_
    refine wp_callV (as := [.int 61]) dX12_readCond_57 cb_X12_is lk_X12_183 im_X12_is se_X12_is rfl (Nat.le_of_ble_eq_true rfl) ⟨by decide, by decide⟩ ⟨Nat.le_refl _, Nat.le_refl _, Nat.le_refl _⟩ i1 rfl (by decide) hb (fun r0 h23 hb => ?_)
    obtain ⟨r24, rfl, hb⟩ := hb
    refine wp_if_ne (tgt := 91) dX12_readCond_60 (by decide) (fun c25 => ?_) (fun c25 => ?_)
    · have hb := hb.1 c25
      exact wp_sub [3, 4, 2, 0] rfl hb
    · have hb := hb.2 c25
      refine wp_aload_n 3 dX12_readCond_63 rfl rfl ?_
      refine wp_bipush (v := 60) dX12_readCond_64 (by decide) ?_
      refine wp_callV (as := [.int 60]) dX12_readCond_66 cb_X12_is lk_X12_183 im_X12_is se_X12_is rfl (Nat.le_of_ble_eq_true rfl) ⟨by decide, by decide⟩ ⟨Nat.le_refl _, Nat.le_refl _, Nat.le_refl _⟩ i1 rfl (by decide) hb (fun r0 h27 hb => ?_)
      obtain ⟨r28, rfl, hb⟩ := hb
      refine wp_if_ne (tgt := 91) dX12_readCond_69 (by decide) (fun c29 => ?_) (fun c29 => ?_)
      · have hb := hb.1 c29
        exact wp_sub [3, 4, 2, 0] rfl hb
      · have hb := hb.2 c29
        refine wp_aload_n 3 dX12_readCond_72 rfl rfl ?_
        refine wp_bipush (v := 62) dX12_readCond_73 (by decide) ?_
        refine wp_callV (as := [.int 62]) dX12_readCond_75 cb_X12_is lk_X12_183 im_X12_is se_X12_is rfl (Nat.le_of_ble_eq_true rfl) ⟨by decide, by decide⟩ ⟨Nat.le_refl _, Nat.le_refl _, Nat.le_refl _⟩ i1 rfl (by decide) hb (fun r0 h31 hb => ?_)
        obtain ⟨r32, rfl, hb⟩ := hb
        refine wp_if_ne (tgt := 91) dX12_readCond_78 (by decide) (fun c33 => ?_) (fun c33 => ?_)
        · have hb := hb.1 c33
          exact wp_sub [3, 4, 2, 0] rfl hb
        · have hb := hb.2 c33
          refine wp_aload_n 3 dX12_readCond_81 rfl rfl ?_
          refine wp_iconst (v := 1) dX12_readCond_82 (by decide) ?_
          refine wp_aload_n 3 dX12_readCond_83 rfl rfl ?_
          refine wp_getI dX12_readCond_84 fl_X12_158 i1 ?_
          refine wp_callV (as := [.int 1, .int (h31.1 x0 15)]) dX12_readCond_87 cb_X12_stop lk_X12_185 im_X12_stop se_X12_stop rfl (Nat.le_of_ble_eq_true rfl) ⟨by decide, by decide⟩ ⟨Nat.le_refl _, Nat.le_refl _, Nat.le_refl _⟩ i1 rfl (by decide) hb (fun r0 h35 hb => ?_)
          obtain ⟨r36, rfl, hb⟩ := hb
          obtain ⟨q37, hb⟩ := hb
          exact wx_throw rfl dX12_readCond_90 q37 (by decide) hb
  · have hb := hb.2 c11
    refine wp_aload_n 2 dX12_readCond_20 rfl rfl ?_
    refine wp_iconst (v := 5) dX12_readCond_21 (by decide) ?_
    refine wp_aload_n 2 dX12_readCond_22 rfl rfl ?_
    refine wp_getI dX12_readCond_23 fl_X12_158 i1 ?_
    refine wp_callV (as := [.int 5, .int (h7.1 x0 15)]) dX12_readCond_26 cb_X12_stop lk_X12_185 im_X12_stop se_X12_stop rfl (Nat.le_of_ble_eq_true rfl) ⟨by decide, by decide⟩ ⟨Nat.le_refl _, Nat.le_refl _, Nat.le_refl _⟩ i1 rfl (by decide) hb (fun r0 h39 hb => ?_)
    obtain ⟨r40, rfl, hb⟩ := hb
    obtain ⟨q41, hb⟩ := hb
    exact wx_throw rfl dX12_readCond_29 q41 (by decide) hb
set_option maxRecDepth 100000 in
set_option maxHeartbeats 4000000 in
theorem s_X12_readCond_91 {l : Launch} {g : AG} {h : AH} {x0 : Nat} {x1 : Int32} {x2 : Nat} {x4 : Int32}  {Q : AH → Prop} {X : AH → Prop} (hb : (Is 194 x2 9) ∧ ( (Is 194 (h.2.2 x2 20) 20) ∧ ( (Is 194 x0 11) ∧ ( (vp_in x4 (ax_s (h.2.2 x2 20)).2) ∧ ( ∀ h46 : AH, h46 = ax_setI h (h.2.2 x2 20) x4.toNatClampNeg (h.1 x0 16) → ( C_X12_next l g h46 x0 (fun h49 => ( (Is 194 (h49.2.2 x2 21) 20) ∧ ( C_X12_needNumber l g h49 x0 0 9 (fun r53 h52 => ( (vp_in x4 (ax_s (h49.2.2 x2 21)).2) ∧ ( ∀ h55 : AH, h55 = ax_setI h52 (h49.2.2 x2 21) x4.toNatClampNeg r53 → ( (Is 194 (h55.2.2 x2 18) 20) ∧ ( (vp_in x1 (ax_s (h55.2.2 x2 18)).2) ∧ ( (vp_in x1 (ax_s (h55.2.2 x2 18)).2) ∧ ( ∀ h60 : AH, h60 = ax_setI h55 (h55.2.2 x2 18) x1.toNatClampNeg ((h55.1 (h55.2.2 x2 18) x1.toNatClampNeg) + 1) → ( Q h60)))))))) X))))))))) : L_X12_readCond_91 l g h x0 x1 x2 x4  Q X := by
  obtain ⟨i42, hb⟩ := hb
  refine wp_aload_n 2 dX12_readCond_91 rfl rfl ?_
  obtain ⟨i43, hb⟩ := hb
  refine wp_getR dX12_readCond_92 fl_X12_294 i42 (i43.ne (by decide)) ?_
  refine wp_iload 3 dX12_readCond_95 rfl ?_
  obtain ⟨i44, hb⟩ := hb
  refine wp_aload_n 0 dX12_readCond_97 rfl rfl ?_
  refine wp_getI dX12_readCond_98 fl_X12_162 i44 ?_
  obtain ⟨b45, hb⟩ := hb
  refine wp_iastore dX12_readCond_101 i43 b45 ?_
  refine wp_topH (fun h46 e47 => ?_)
  have hb := hb h46 e47
  refine wp_aload_n 0 dX12_readCond_102 rfl rfl ?_
  refine wp_callV (as := []) dX12_readCond_103 cb_X12_next lk_X12_188 im_X12_next se_X12_next rfl (Nat.le_of_ble_eq_true rfl) ⟨by decide, by decide⟩ ⟨Nat.le_refl _, Nat.le_refl _, Nat.le_refl _⟩ i44 rfl (by decide) hb (fun r0 h49 hb => ?_)
  obtain ⟨rfl, hb⟩ := hb
  refine wp_aload_n 2 dX12_readCond_106 rfl rfl ?_
  obtain ⟨i50, hb⟩ := hb
  refine wp_getR dX12_readCond_107 fl_X12_297 i42 (i50.ne (by decide)) ?_
  refine wp_iload 3 dX12_readCond_110 rfl ?_
  refine wp_aload_n 0 dX12_readCond_112 rfl rfl ?_
  refine wp_iconst (v := 0) dX12_readCond_113 (by decide) ?_
  refine wp_bipush (v := 9) dX12_readCond_114 (by decide) ?_
  refine wx_callV (as := [.int 0, .int 9]) dX12_readCond_116 cb_X12_needNumber lk_X12_219 im_X12_needNumber se_X12_needNumber rfl (Nat.le_of_ble_eq_true rfl) ⟨by decide, by decide⟩ (Nat.le_refl _) i44 rfl (by decide) (by decide) rfl hb (fun r0 h52 hb => ?_) (fun _ hx => hx)
  obtain ⟨r53, rfl, hb⟩ := hb
  obtain ⟨b54, hb⟩ := hb
  refine wp_iastore dX12_readCond_119 i50 b54 ?_
  refine wp_topH (fun h55 e56 => ?_)
  have hb := hb h55 e56
  refine wp_aload_n 2 dX12_readCond_120 rfl rfl ?_
  obtain ⟨i57, hb⟩ := hb
  refine wp_getR dX12_readCond_121 fl_X12_270 i42 (i57.ne (by decide)) ?_
  refine wp_iload_n 1 dX12_readCond_124 rfl rfl ?_
  refine wp_dup2_11 dX12_readCond_125 rfl rfl ?_
  obtain ⟨b58, hb⟩ := hb
  refine wp_iaload dX12_readCond_126 i57 b58 ?_
  refine wp_iconst (v := 1) dX12_readCond_127 (by decide) ?_
  refine wp_iadd dX12_readCond_128 ?_
  obtain ⟨b59, hb⟩ := hb
  refine wp_iastore dX12_readCond_129 i57 b59 ?_
  refine wp_topH (fun h60 e61 => ?_)
  have hb := hb h60 e61
  exact wx_of (wp_vret rfl dX12_readCond_130 ⟨rfl, hb⟩)
theorem c_X12_readCond {l : Launch} {g : AG} {h : AH} {x0 : Nat} {x1 : Int32}  {Q : AH → Prop} {X : AH → Prop} (hb : L_X12_readCond_0 l g h x0 x1  Q X) : C_X12_readCond l g h x0 x1  Q X := ax_metx rfl rfl (Nat.le_of_ble_eq_true rfl) hb
