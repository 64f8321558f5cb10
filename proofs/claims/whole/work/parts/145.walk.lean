def C_X12_isDigit (l : Launch) (g : AG) (h : AH) (x0 : Int32)  (Q : Int32 → AH → Prop) : Prop := Ct l g mX12_isDigit 0 0 194 194 h [.int x0] (ax_QI Q)
def L_X12_isDigit_0 (l : Launch) (g : AG) (h : AH) (x0 : Int32)  (Q : Int32 → AH → Prop) : Prop := Wp l g mX12_isDigit 0 0 194 194 194 0 [(0, .int x0)] [] h (FM g 194 194 (ax_QI Q))
set_option maxRecDepth 100000 in
set_option maxHeartbeats 4000000 in
theorem s_X12_isDigit_0 {l : Launch} {g : AG} {h : AH} {x0 : Int32}  {Q : Int32 → AH → Prop} (hb : ((x0 < 48 → (Q 0 h)) ∧ (¬ (x0 < 48) → (((57 < x0 → (Q 0 h)) ∧ (¬ (57 < x0) → (Q 1 h))))))) : L_X12_isDigit_0 l g h x0  Q := by
  refine wp_iload_n 0 dX12_isDigit_0 rfl rfl ?_
  refine wp_bipush (v := 48) dX12_isDigit_1 (by decide) ?_
  refine wp_icmp_lt (tgt := 16) dX12_isDigit_3 (by decide) (fun c1 => ?_) (fun c1 => ?_)
  · have hb := hb.1 c1
    refine wp_iconst (v := 0) dX12_isDigit_16 (by decide) ?_
    exact wp_zret rfl dX12_isDigit_17 (Or.inl rfl) ⟨_, rfl, hb⟩
  · have hb := hb.2 c1
    refine wp_iload_n 0 dX12_isDigit_6 rfl rfl ?_
    refine wp_bipush (v := 57) dX12_isDigit_7 (by decide) ?_
    refine wp_icmp_gt (tgt := 16) dX12_isDigit_9 (by decide) (fun c2 => ?_) (fun c2 => ?_)
    · have hb := hb.1 c2
      refine wp_iconst (v := 0) dX12_isDigit_16 (by decide) ?_
      exact wp_zret rfl dX12_isDigit_17 (Or.inl rfl) ⟨_, rfl, hb⟩
    · have hb := hb.2 c2
      refine wp_iconst (v := 1) dX12_isDigit_12 (by decide) ?_
      refine wp_goto (tgt := 17) dX12_isDigit_13 (by decide) ?_
      exact wp_zret rfl dX12_isDigit_17 (Or.inr rfl) ⟨_, rfl, hb⟩
theorem c_X12_isDigit {l : Launch} {g : AG} {h : AH} {x0 : Int32}  {Q : Int32 → AH → Prop} (hb : L_X12_isDigit_0 l g h x0  Q) : C_X12_isDigit l g h x0  Q := ax_met rfl (Nat.le_of_ble_eq_true rfl) hb
def C_X12_wordOf (l : Launch) (g : AG) (h : AH) (x0 : Nat)  (Q : Int64 → AH → Prop) : Prop := Ct l g mX12_wordOf 4 120 194 194 h [.ref x0] (ax_QL Q)
def L_X12_wordOf_0 (l : Launch) (g : AG) (h : AH) (x0 : Nat)  (Q : Int64 → AH → Prop) : Prop := Wp l g mX12_wordOf 4 120 194 194 194 0 [(0, .ref x0)] [] h (FM g 194 194 (ax_QL Q))
def L_X12_wordOf_4 (l : Launch) (g : AG) (h : AH) (x0 : Nat) (x1 : Int64) (x3 : Int32)  (Q : Int64 → AH → Prop) : Prop := Wp l g mX12_wordOf 4 120 194 194 194 4 [(0, .ref x0), (1, .long x1), (3, .int x3)] [] h (FM g 194 194 (ax_QL Q))
set_option maxRecDepth 100000 in
set_option maxHeartbeats 4000000 in
theorem s_X12_wordOf_0 {l : Launch} {g : AG} {h : AH} {x0 : Nat}  {Q : Int64 → AH → Prop} (hb : L_X12_wordOf_4 l g h x0 0 0  Q) : L_X12_wordOf_0 l g h x0  Q := by
  refine wp_lconst (v := 0) dX12_wordOf_0 (by decide) ?_
  refine wp_lstore_n (lv2 := [(1, .long 0), (0, .ref x0)]) dX12_wordOf_1 rfl (by decide) rfl ?_
  refine wp_iconst (v := 0) dX12_wordOf_2 (by decide) ?_
  refine wp_istore_n (lv2 := [(3, .int 0), (1, .long 0), (0, .ref x0)]) dX12_wordOf_3 rfl (by decide) rfl ?_
  exact wp_sub [2, 1, 0] rfl hb
set_option maxRecDepth 100000 in
set_option maxHeartbeats 4000000 in
theorem s_X12_wordOf_4 {l : Launch} {g : AG} {h : AH} {x0 : Nat} {x1 : Int64} {x3 : Int32}  {Q : Int64 → AH → Prop} (hb : (1000 ≤ x0 ∧ x0 < 1014) ∧ ( ((nI (ax_sl.getD (x0 - 1000) 0) ≤ x3 → (Q x1 h)) ∧ (¬ (nI (ax_sl.getD (x0 - 1000) 0) ≤ x3) → ((1000 ≤ x0 ∧ x0 < 1014) ∧ ( (vp_in x3 (ax_sl.getD (x0 - 1000) 0)) ∧ ( ∀ v5 : Int32, v5 = ((ax_sb.getD (x0 - 1000) []).getD x3.toNatClampNeg 0) → ( ∀ v7 : Int64, v7 = ((32 * x1) + (((v5 - 97) + 1).toInt64)) → ( ∀ v9 : Int32, v9 = x3 + (1) → ( L_X12_wordOf_4 l g h x0 v7 v9  Q)))))))))) : L_X12_wordOf_4 l g h x0 x1 x3  Q := by
  refine wp_iload_n 2 dX12_wordOf_4 rfl rfl ?_
  refine wp_aload_n 0 dX12_wordOf_5 rfl rfl ?_
  obtain ⟨q1, hb⟩ := hb
  refine wp_slen dX12_wordOf_6 lk_X12_139 q1 (Nat.le_of_ble_eq_true rfl) (by decide) (by decide) ?_
  refine wp_icmp_ge (tgt := 36) dX12_wordOf_9 (by decide) (fun c2 => ?_) (fun c2 => ?_)
  · have hb := hb.1 c2
    refine wp_lload_n 1 dX12_wordOf_36 rfl rfl ?_
    exact wp_lret rfl dX12_wordOf_37 ⟨_, rfl, hb⟩
  · have hb := hb.2 c2
    refine wp_ldc2 (v := 32) dX12_wordOf_12 lk_X12_145 ?_
    refine wp_lload_n 1 dX12_wordOf_15 rfl rfl ?_
    refine wp_lmul dX12_wordOf_16 ?_
    refine wp_aload_n 0 dX12_wordOf_17 rfl rfl ?_
    refine wp_iload_n 2 dX12_wordOf_18 rfl rfl ?_
    obtain ⟨q3, hb⟩ := hb
    obtain ⟨q4, hb⟩ := hb
    refine wp_schar dX12_wordOf_19 lk_X12_147 q3 q4 (Nat.le_of_ble_eq_true rfl) (by decide) (by decide) ?_
    refine wp_topi (fun v5 e6 => ?_)
    have hb := hb v5 e6
    refine wp_bipush (v := 97) dX12_wordOf_22 (by decide) ?_
    refine wp_isub dX12_wordOf_24 ?_
    refine wp_iconst (v := 1) dX12_wordOf_25 (by decide) ?_
    refine wp_iadd dX12_wordOf_26 ?_
    refine wp_i2l dX12_wordOf_27 ?_
    refine wp_ladd dX12_wordOf_28 ?_
    refine wp_topl (fun v7 e8 => ?_)
    have hb := hb v7 e8
    refine wp_lstore_n (lv2 := [(1, .long v7), (0, .ref x0), (3, .int x3)]) dX12_wordOf_29 rfl (by decide) rfl ?_
    obtain ⟨v9, e10⟩ : ∃ y : Int32, y = x3 + (1) := ⟨_, rfl⟩
    have hb := hb v9 e10
    refine wp_iinc (v := v9) (lv2 := [(3, .int v9), (1, .long v7), (0, .ref x0)]) 2 dX12_wordOf_30 rfl (by rw [e10]; rfl) (by decide) rfl ?_
    refine wp_goto (tgt := 4) dX12_wordOf_33 (by decide) ?_
    exact wp_sub [2, 1, 0] rfl hb
theorem c_X12_wordOf {l : Launch} {g : AG} {h : AH} {x0 : Nat}  {Q : Int64 → AH → Prop} (hb : L_X12_wordOf_0 l g h x0  Q) : C_X12_wordOf l g h x0  Q := ax_met rfl (Nat.le_of_ble_eq_true rfl) hb
def C_X12_next (l : Launch) (g : AG) (h : AH) (x0 : Nat)  (Q : AH → Prop) : Prop := Ct l g mX12_next 1 21 194 194 h [.ref x0] (ax_QV Q)
def L_X12_next_0 (l : Launch) (g : AG) (h : AH) (x0 : Nat)  (Q : AH → Prop) : Prop := Wp l g mX12_next 1 21 194 194 194 0 [(0, .ref x0)] [] h (FM g 194 194 (ax_QV Q))
def L_X12_next_295 (l : Launch) (g : AG) (h : AH) (x0 : Nat) (x1 : Int32)  (Q : AH → Prop) : Prop := Wp l g mX12_next 1 21 194 194 194 295 [(0, .ref x0), (1, .int x1)] [] h (FM g 194 194 (ax_QV Q))
def L_X12_next_182 (l : Launch) (g : AG) (h : AH) (x0 : Nat) (x2 : Int32)  (Q : AH → Prop) : Prop := Wp l g mX12_next 1 21 194 194 194 182 [(0, .ref x0), (2, .int x2)] [] h (FM g 194 194 (ax_QV Q))
def L_X12_next_93 (l : Launch) (g : AG) (h : AH) (x0 : Nat) (x2 : Int32)  (Q : AH → Prop) : Prop := Wp l g mX12_next 1 21 194 194 194 93 [(0, .ref x0), (2, .int x2)] [] h (FM g 194 194 (ax_QV Q))
set_option maxRecDepth 100000 in
set_option maxHeartbeats 4000000 in
theorem s_X12_next_0 {l : Launch} {g : AG} {h : AH} {x0 : Nat}  {Q : AH → Prop} (hb : (Is 194 x0 11) ∧ ( C_X12_byteAt l g h x0 (h.1 x0 13) (fun r4 h3 => ( ((r4 = 32 → (∀ h6 : AH, h6 = ax_setI h3 x0 13 ((h3.1 x0 13) + 1) → ( L_X12_next_0 l g h6 x0  Q))) ∧ (¬ (r4 = 32) → (C_X12_byteAt l g h3 x0 (h3.1 x0 13) (fun r10 h9 => ( ((¬ r10 = 10 → (∀ h12 : AH, h12 = ax_setI h9 x0 15 (h9.1 x0 13) → ( ∀ h14 : AH, h14 = ax_setI h12 x0 14 0 → ( ∀ h16 : AH, h16 = ax_setI h14 x0 16 0 → ( C_X12_byteAt l g h16 x0 (h16.1 x0 13) (fun r20 h19 => ( ((¬ r20 = (-1) → (C_X12_isLetter l g h19 r20 (fun r24 h23 => ( ((r24 = 0 → (C_X12_isDigit l g h23 r20 (fun r28 h27 => ( ((r28 = 0 → (((r20 = 123 → (L_X12_next_295 l g h27 x0 r20  Q)) ∧ (¬ (r20 = 123) → (((r20 = 125 → (L_X12_next_295 l g h27 x0 r20  Q)) ∧ (¬ (r20 = 125) → (((r20 = 59 → (L_X12_next_295 l g h27 x0 r20  Q)) ∧ (¬ (r20 = 59) → (((r20 = 44 → (L_X12_next_295 l g h27 x0 r20  Q)) ∧ (¬ (r20 = 44) → (((r20 = 61 → (L_X12_next_295 l g h27 x0 r20  Q)) ∧ (¬ (r20 = 61) → (((r20 = 60 → (L_X12_next_295 l g h27 x0 r20  Q)) ∧ (¬ (r20 = 60) → (((¬ r20 = 62 → (Q h27)) ∧ (r20 = 62 → (L_X12_next_295 l g h27 x0 r20  Q))))))))))))))))))))))) ∧ (¬ (r28 = 0) → (∀ h37 : AH, h37 = ax_setI h27 x0 17 0 → ( L_X12_next_182 l g h37 x0 0  Q)))))))) ∧ (¬ (r24 = 0) → (∀ h39 : AH, h39 = ax_setL h23 x0 18 0 → ( L_X12_next_93 l g h39 x0 0  Q)))))))) ∧ (r20 = (-1) → (∀ h41 : AH, h41 = ax_setI h19 x0 14 1 → ( Q h41))))))))))) ∧ (r10 = 10 → (∀ h43 : AH, h43 = ax_setI h9 x0 13 ((h9.1 x0 13) + 1) → ( L_X12_next_0 l g h43 x0  Q))))))))))))) : L_X12_next_0 l g h x0  Q := by
  obtain ⟨i1, hb⟩ := hb
  refine wp_aload_n 0 dX12_next_0 rfl rfl ?_
  refine wp_aload_n 0 dX12_next_1 rfl rfl ?_
  refine wp_getI dX12_next_2 fl_X12_151 i1 ?_
  refine wp_callV (as := [.int (h.1 x0 13)]) dX12_next_5 cb_X12_byteAt lk_X12_154 im_X12_byteAt se_X12_byteAt rfl (Nat.le_of_ble_eq_true rfl) ⟨by decide, by decide⟩ ⟨Nat.le_refl _, Nat.le_refl _, Nat.le_refl _⟩ i1 rfl (by decide) hb (fun r0 h3 hb => ?_)
  obtain ⟨r4, rfl, hb⟩ := hb
  refine wp_bipush (v := 32) dX12_next_8 (by decide) ?_
  refine wp_icmp_eq (tgt := 26) dX12_next_10 (by decide) (fun c5 => ?_) (fun c5 => ?_)
  · have hb := hb.1 c5
    refine wp_aload_n 0 dX12_next_26 rfl rfl ?_
    refine wp_dup dX12_next_27 rfl ?_
    refine wp_getI dX12_next_28 fl_X12_151 i1 ?_
    refine wp_iconst (v := 1) dX12_next_31 (by decide) ?_
    refine wp_iadd dX12_next_32 ?_
    refine wp_putI dX12_next_33 fl_X12_151 (Or.inl rfl) i1 ?_
    refine wp_topH (fun h6 e7 => ?_)
    have hb := hb h6 e7
    refine wp_goto (tgt := 0) dX12_next_36 (by decide) ?_
    exact hb
  · have hb := hb.2 c5
    refine wp_aload_n 0 dX12_next_13 rfl rfl ?_
    refine wp_aload_n 0 dX12_next_14 rfl rfl ?_
    refine wp_getI dX12_next_15 fl_X12_151 i1 ?_
    refine wp_callV (as := [.int (h3.1 x0 13)]) dX12_next_18 cb_X12_byteAt lk_X12_154 im_X12_byteAt se_X12_byteAt rfl (Nat.le_of_ble_eq_true rfl) ⟨by decide, by decide⟩ ⟨Nat.le_refl _, Nat.le_refl _, Nat.le_refl _⟩ i1 rfl (by decide) hb (fun r0 h9 hb => ?_)
    obtain ⟨r10, rfl, hb⟩ := hb
    refine wp_bipush (v := 10) dX12_next_21 (by decide) ?_
    refine wp_icmp_ne (tgt := 39) dX12_next_23 (by decide) (fun c11 => ?_) (fun c11 => ?_)
    · have hb := hb.1 c11
      refine wp_aload_n 0 dX12_next_39 rfl rfl ?_
      refine wp_aload_n 0 dX12_next_40 rfl rfl ?_
      refine wp_getI dX12_next_41 fl_X12_151 i1 ?_
      refine wp_putI dX12_next_44 fl_X12_158 (Or.inl rfl) i1 ?_
      refine wp_topH (fun h12 e13 => ?_)
      have hb := hb h12 e13
      refine wp_aload_n 0 dX12_next_47 rfl rfl ?_
      refine wp_iconst (v := 0) dX12_next_48 (by decide) ?_
      refine wp_putI dX12_next_49 fl_X12_159 (Or.inl rfl) i1 ?_
      refine wp_topH (fun h14 e15 => ?_)
      have hb := hb h14 e15
      refine wp_aload_n 0 dX12_next_52 rfl rfl ?_
      refine wp_iconst (v := 0) dX12_next_53 (by decide) ?_
      refine wp_putI dX12_next_54 fl_X12_162 (Or.inl rfl) i1 ?_
      refine wp_topH (fun h16 e17 => ?_)
      have hb := hb h16 e17
      refine wp_aload_n 0 dX12_next_57 rfl rfl ?_
      refine wp_aload_n 0 dX12_next_58 rfl rfl ?_
      refine wp_getI dX12_next_59 fl_X12_151 i1 ?_
      refine wp_callV (as := [.int (h16.1 x0 13)]) dX12_next_62 cb_X12_byteAt lk_X12_154 im_X12_byteAt se_X12_byteAt rfl (Nat.le_of_ble_eq_true rfl) ⟨by decide, by decide⟩ ⟨Nat.le_refl _, Nat.le_refl _, Nat.le_refl _⟩ i1 rfl (by decide) hb (fun r0 h19 hb => ?_)
      obtain ⟨r20, rfl, hb⟩ := hb
      refine wp_istore_n (lv2 := [(1, .int r20), (0, .ref x0)]) dX12_next_65 rfl (by decide) rfl ?_
      refine wp_iconst (v := 0) dX12_next_66 (by decide) ?_
      refine wp_istore_n (lv2 := [(2, .int 0), (1, .int r20), (0, .ref x0)]) dX12_next_67 rfl (by decide) rfl ?_
      refine wp_iload_n 1 dX12_next_68 rfl rfl ?_
      refine wp_iconst (v := (-1)) dX12_next_69 (by decide) ?_
      refine wp_icmp_ne (tgt := 81) dX12_next_70 (by decide) (fun c21 => ?_) (fun c21 => ?_)
      · have hb := hb.1 c21
        refine wp_iload_n 1 dX12_next_81 rfl rfl ?_
        refine wp_callS (as := [.int r20]) dX12_next_82 cb_X12_isLetter lk_X12_165 st_X12_isLetter rfl (Nat.le_of_ble_eq_true rfl) ⟨by decide, by decide⟩ ⟨Nat.le_refl _, Nat.le_refl _, Nat.le_refl _⟩ hb (fun r0 h23 hb => ?_)
        obtain ⟨r24, rfl, hb⟩ := hb
        refine wp_if_eq (tgt := 170) dX12_next_85 (by decide) (fun c25 => ?_) (fun c25 => ?_)
        · have hb := hb.1 c25
          refine wp_iload_n 1 dX12_next_170 rfl rfl ?_
          refine wp_callS (as := [.int r20]) dX12_next_171 cb_X12_isDigit lk_X12_173 st_X12_isDigit rfl (Nat.le_of_ble_eq_true rfl) ⟨by decide, by decide⟩ ⟨Nat.le_refl _, Nat.le_refl _, Nat.le_refl _⟩ hb (fun r0 h27 hb => ?_)
          obtain ⟨r28, rfl, hb⟩ := hb
          refine wp_if_eq (tgt := 253) dX12_next_174 (by decide) (fun c29 => ?_) (fun c29 => ?_)
          · have hb := hb.1 c29
            refine wp_iload_n 1 dX12_next_253 rfl rfl ?_
            refine wp_bipush (v := 123) dX12_next_254 (by decide) ?_
            refine wp_icmp_eq (tgt := 295) dX12_next_256 (by decide) (fun c30 => ?_) (fun c30 => ?_)
            · have hb := hb.1 c30
              exact wp_sub [2, 1] rfl hb
            · have hb := hb.2 c30
              refine wp_iload_n 1 dX12_next_259 rfl rfl ?_
              refine wp_bipush (v := 125) dX12_next_260 (by decide) ?_
              refine wp_icmp_eq (tgt := 295) dX12_next_262 (by decide) (fun c31 => ?_) (fun c31 => ?_)
              · have hb := hb.1 c31
                exact wp_sub [2, 1] rfl hb
              · have hb := hb.2 c31
                refine wp_iload_n 1 dX12_next_265 rfl rfl ?_
                refine wp_bipush (v := 59) dX12_next_266 (by decide) ?_
                refine wp_icmp_eq (tgt := 295) dX12_next_268 (by decide) (fun c32 => ?_) (fun c32 => ?_)
                · have hb := hb.1 c32
                  exact wp_sub [2, 1] rfl hb
                · have hb := hb.2 c32
                  refine wp_iload_n 1 dX12_next_271 rfl rfl ?_
                  refine wp_bipush (v := 44) dX12_next_272 (by decide) ?_
                  refine wp_icmp_eq (tgt := 295) dX12_next_274 (by decide) (fun c33 => ?_) (fun c33 => ?_)
                  · have hb := hb.1 c33
                    exact wp_sub [2, 1] rfl hb
                  · have hb := hb.2 c33
                    refine wp_iload_n 1 dX12_next_277 rfl rfl ?_
                    refine wp_bipush (v := 61) dX12_next_278 (by decide) ?_
                    refine wp_icmp_eq (tgt := 295) dX12_next_280 (by decide) (fun c34 => ?_) (fun c34 => ?_)
                    · have hb := hb.1 c34
                      exact wp_sub [2, 1] rfl hb
                    · have hb := hb.2 c34
                      refine wp_iload_n 1 dX12_next_283 rfl rfl ?_
                      refine wp_bipush (v := 60) dX12_next_284 (by decide) ?_
                      refine wp_icmp_eq (tgt := 295) dX12_next_286 (by decide) (fun c35 => ?_) (fun c35 => ?_)
                      · have hb := hb.1 c35
                        exact wp_sub [2, 1] rfl hb
                      · have hb := hb.2 c35
                        refine wp_iload_n 1 dX12_next_289 rfl rfl ?_
                        refine wp_bipush (v := 62) dX12_next_290 (by decide) ?_
                        refine wp_icmp_ne (tgt := 315) dX12_next_292 (by decide) (fun c36 => ?_) (fun c36 => ?_)
                        · have hb := hb.1 c36
                          exact wp_vret rfl dX12_next_315 ⟨rfl, hb⟩
                        · have hb := hb.2 c36
                          exact wp_sub [2, 1] rfl hb
          · have hb := hb.2 c29
            refine wp_aload_n 2 dX12_next_177 rfl rfl ?_
            refine wp_iconst (v := 0) dX12_next_178 (by decide) ?_
            refine wp_putI dX12_next_179 fl_X12_176 (Or.inl rfl) i1 ?_
            refine wp_topH (fun h37 e38 => ?_)
            have hb := hb h37 e38
            exact wp_sub [2, 0] rfl hb
        · have hb := hb.2 c25
          refine wp_aload_n 2 dX12_next_88 rfl rfl ?_
          refine wp_lconst (v := 0) dX12_next_89 (by decide) ?_
          refine wp_putL dX12_next_90 fl_X12_169 (Or.inl rfl) i1 ?_
          refine wp_topH (fun h39 e40 => ?_)
          have hb := hb h39 e40
          exact wp_sub [2, 0] rfl hb
      · have hb := hb.2 c21
        refine wp_aload_n 2 dX12_next_73 rfl rfl ?_
        refine wp_iconst (v := 1) dX12_next_74 (by decide) ?_
        refine wp_putI dX12_next_75 fl_X12_159 (Or.inl rfl) i1 ?_
        refine wp_topH (fun h41 e42 => ?_)
        have hb := hb h41 e42
        refine wp_goto (tgt := 315) dX12_next_78 (by decide) ?_
        exact wp_vret rfl dX12_next_315 ⟨rfl, hb⟩
    · have hb := hb.2 c11
      refine wp_aload_n 0 dX12_next_26 rfl rfl ?_
      refine wp_dup dX12_next_27 rfl ?_
      refine wp_getI dX12_next_28 fl_X12_151 i1 ?_
      refine wp_iconst (v := 1) dX12_next_31 (by decide) ?_
      refine wp_iadd dX12_next_32 ?_
      refine wp_putI dX12_next_33 fl_X12_151 (Or.inl rfl) i1 ?_
      refine wp_topH (fun h43 e44 => ?_)
      have hb := hb h43 e44
      refine wp_goto (tgt := 0) dX12_next_36 (by decide) ?_
      exact hb
set_option maxRecDepth 100000 in
set_option maxHeartbeats 4000000 in
theorem s_X12_next_295 {l : Launch} {g : AG} {h : AH} {x0 : Nat} {x1 : Int32}  {Q : AH → Prop} (hb : (Is 194 x0 11) ∧ ( ∀ h46 : AH, h46 = ax_setI h x0 14 4 → ( ∀ h48 : AH, h48 = ax_setI h46 x0 16 x1 → ( ∀ h50 : AH, h50 = ax_setI h48 x0 13 ((h48.1 x0 13) + 1) → ( Q h50))))) : L_X12_next_295 l g h x0 x1  Q := by
  obtain ⟨i45, hb⟩ := hb
  refine wp_aload_n 0 dX12_next_295 rfl rfl ?_
  refine wp_iconst (v := 4) dX12_next_296 (by decide) ?_
  refine wp_putI dX12_next_297 fl_X12_159 (Or.inl rfl) i45 ?_
  refine wp_topH (fun h46 e47 => ?_)
  have hb := hb h46 e47
  refine wp_aload_n 0 dX12_next_300 rfl rfl ?_
  refine wp_iload_n 1 dX12_next_301 rfl rfl ?_
  refine wp_putI dX12_next_302 fl_X12_162 (Or.inl rfl) i45 ?_
  refine wp_topH (fun h48 e49 => ?_)
  have hb := hb h48 e49
  refine wp_aload_n 0 dX12_next_305 rfl rfl ?_
  refine wp_dup dX12_next_306 rfl ?_
  refine wp_getI dX12_next_307 fl_X12_151 i45 ?_
  refine wp_iconst (v := 1) dX12_next_310 (by decide) ?_
  refine wp_iadd dX12_next_311 ?_
  refine wp_putI dX12_next_312 fl_X12_151 (Or.inl rfl) i45 ?_
  refine wp_topH (fun h50 e51 => ?_)
  have hb := hb h50 e51
  exact wp_vret rfl dX12_next_315 ⟨rfl, hb⟩
set_option maxRecDepth 100000 in
set_option maxHeartbeats 4000000 in
theorem s_X12_next_182 {l : Launch} {g : AG} {h : AH} {x0 : Nat} {x2 : Int32}  {Q : AH → Prop} (hb : (Is 194 x0 11) ∧ ( C_X12_byteAt l g h x0 (h.1 x0 13) (fun r55 h54 => ( C_X12_isDigit l g h54 r55 (fun r58 h57 => ( ((r58 = 0 → (((3 ≤ x2 → (Q h57)) ∧ (¬ (3 ≤ x2) → (∀ h61 : AH, h61 = ax_setI h57 x0 14 3 → ( Q h61)))))) ∧ (¬ (r58 = 0) → (((2 ≤ x2 → (∀ v64 : Int32, v64 = x2 + (1) → ( ∀ h66 : AH, h66 = ax_setI h57 x0 13 ((h57.1 x0 13) + 1) → ( L_X12_next_182 l g h66 x0 v64  Q)))) ∧ (¬ (2 ≤ x2) → (C_X12_byteAt l g h57 x0 (h57.1 x0 13) (fun r70 h69 => ( ∀ h71 : AH, h71 = ax_setI h69 x0 17 (((10 * (h57.1 x0 17)) + r70) - 48) → ( ∀ v73 : Int32, v73 = x2 + (1) → ( ∀ h75 : AH, h75 = ax_setI h71 x0 13 ((h71.1 x0 13) + 1) → ( L_X12_next_182 l g h75 x0 v73  Q))))))))))))))))) : L_X12_next_182 l g h x0 x2  Q := by
  obtain ⟨i52, hb⟩ := hb
  refine wp_aload_n 0 dX12_next_182 rfl rfl ?_
  refine wp_aload_n 0 dX12_next_183 rfl rfl ?_
  refine wp_getI dX12_next_184 fl_X12_151 i52 ?_
  refine wp_callV (as := [.int (h.1 x0 13)]) dX12_next_187 cb_X12_byteAt lk_X12_154 im_X12_byteAt se_X12_byteAt rfl (Nat.le_of_ble_eq_true rfl) ⟨by decide, by decide⟩ ⟨Nat.le_refl _, Nat.le_refl _, Nat.le_refl _⟩ i52 rfl (by decide) hb (fun r0 h54 hb => ?_)
  obtain ⟨r55, rfl, hb⟩ := hb
  refine wp_callS (as := [.int r55]) dX12_next_190 cb_X12_isDigit lk_X12_173 st_X12_isDigit rfl (Nat.le_of_ble_eq_true rfl) ⟨by decide, by decide⟩ ⟨Nat.le_refl _, Nat.le_refl _, Nat.le_refl _⟩ hb (fun r0 h57 hb => ?_)
  obtain ⟨r58, rfl, hb⟩ := hb
  refine wp_if_eq (tgt := 240) dX12_next_193 (by decide) (fun c59 => ?_) (fun c59 => ?_)
  · have hb := hb.1 c59
    refine wp_iload_n 1 dX12_next_240 rfl rfl ?_
    refine wp_iconst (v := 3) dX12_next_241 (by decide) ?_
    refine wp_icmp_ge (tgt := 315) dX12_next_242 (by decide) (fun c60 => ?_) (fun c60 => ?_)
    · have hb := hb.1 c60
      exact wp_vret rfl dX12_next_315 ⟨rfl, hb⟩
    · have hb := hb.2 c60
      refine wp_aload_n 0 dX12_next_245 rfl rfl ?_
      refine wp_iconst (v := 3) dX12_next_246 (by decide) ?_
      refine wp_putI dX12_next_247 fl_X12_159 (Or.inl rfl) i52 ?_
      refine wp_topH (fun h61 e62 => ?_)
      have hb := hb h61 e62
      refine wp_goto (tgt := 315) dX12_next_250 (by decide) ?_
      exact wp_vret rfl dX12_next_315 ⟨rfl, hb⟩
  · have hb := hb.2 c59
    refine wp_iload_n 1 dX12_next_196 rfl rfl ?_
    refine wp_iconst (v := 2) dX12_next_197 (by decide) ?_
    refine wp_icmp_ge (tgt := 224) dX12_next_198 (by decide) (fun c63 => ?_) (fun c63 => ?_)
    · have hb := hb.1 c63
      obtain ⟨v64, e65⟩ : ∃ y : Int32, y = x2 + (1) := ⟨_, rfl⟩
      have hb := hb v64 e65
      refine wp_iinc (v := v64) (lv2 := [(2, .int v64), (0, .ref x0)]) 1 dX12_next_224 rfl (by rw [e65]; rfl) (by decide) rfl ?_
      refine wp_aload_n 1 dX12_next_227 rfl rfl ?_
      refine wp_dup dX12_next_228 rfl ?_
      refine wp_getI dX12_next_229 fl_X12_151 i52 ?_
      refine wp_iconst (v := 1) dX12_next_232 (by decide) ?_
      refine wp_iadd dX12_next_233 ?_
      refine wp_putI dX12_next_234 fl_X12_151 (Or.inl rfl) i52 ?_
      refine wp_topH (fun h66 e67 => ?_)
      have hb := hb h66 e67
      refine wp_goto (tgt := 182) dX12_next_237 (by decide) ?_
      exact wp_sub [1, 0] rfl hb
    · have hb := hb.2 c63
      refine wp_aload_n 0 dX12_next_201 rfl rfl ?_
      refine wp_bipush (v := 10) dX12_next_202 (by decide) ?_
      refine wp_aload_n 0 dX12_next_204 rfl rfl ?_
      refine wp_getI dX12_next_205 fl_X12_176 i52 ?_
      refine wp_imul dX12_next_208 ?_
      refine wp_aload_n 0 dX12_next_209 rfl rfl ?_
      refine wp_aload_n 0 dX12_next_210 rfl rfl ?_
      refine wp_getI dX12_next_211 fl_X12_151 i52 ?_
      refine wp_callV (as := [.int (h57.1 x0 13)]) dX12_next_214 cb_X12_byteAt lk_X12_154 im_X12_byteAt se_X12_byteAt rfl (Nat.le_of_ble_eq_true rfl) ⟨by decide, by decide⟩ ⟨Nat.le_refl _, Nat.le_refl _, Nat.le_refl _⟩ i52 rfl (by decide) hb (fun r0 h69 hb => ?_)
      obtain ⟨r70, rfl, hb⟩ := hb
      refine wp_iadd dX12_next_217 ?_
      refine wp_bipush (v := 48) dX12_next_218 (by decide) ?_
      refine wp_isub dX12_next_220 ?_
      refine wp_putI dX12_next_221 fl_X12_176 (Or.inl rfl) i52 ?_
      refine wp_topH (fun h71 e72 => ?_)
      have hb := hb h71 e72
      obtain ⟨v73, e74⟩ : ∃ y : Int32, y = x2 + (1) := ⟨_, rfl⟩
      have hb := hb v73 e74
      refine wp_iinc (v := v73) (lv2 := [(2, .int v73), (0, .ref x0)]) 1 dX12_next_224 rfl (by rw [e74]; rfl) (by decide) rfl ?_
      refine wp_aload_n 1 dX12_next_227 rfl rfl ?_
      refine wp_dup dX12_next_228 rfl ?_
      refine wp_getI dX12_next_229 fl_X12_151 i52 ?_
      refine wp_iconst (v := 1) dX12_next_232 (by decide) ?_
      refine wp_iadd dX12_next_233 ?_
      refine wp_putI dX12_next_234 fl_X12_151 (Or.inl rfl) i52 ?_
      refine wp_topH (fun h75 e76 => ?_)
      have hb := hb h75 e76
      refine wp_goto (tgt := 182) dX12_next_237 (by decide) ?_
      exact wp_sub [1, 0] rfl hb
set_option maxRecDepth 100000 in
set_option maxHeartbeats 4000000 in
theorem s_X12_next_93 {l : Launch} {g : AG} {h : AH} {x0 : Nat} {x2 : Int32}  {Q : AH → Prop} (hb : (Is 194 x0 11) ∧ ( C_X12_byteAt l g h x0 (h.1 x0 13) (fun r80 h79 => ( C_X12_isLetter l g h79 r80 (fun r83 h82 => ( ((r83 = 0 → (((9 ≤ x2 → (Q h82)) ∧ (¬ (9 ≤ x2) → (∀ h86 : AH, h86 = ax_setI h82 x0 14 2 → ( Q h86)))))) ∧ (¬ (r83 = 0) → (((8 ≤ x2 → (∀ v89 : Int32, v89 = x2 + (1) → ( ∀ h91 : AH, h91 = ax_setI h82 x0 13 ((h82.1 x0 13) + 1) → ( L_X12_next_93 l g h91 x0 v89  Q)))) ∧ (¬ (8 ≤ x2) → (C_X12_byteAt l g h82 x0 (h82.1 x0 13) (fun r95 h94 => ( ∀ v96 : Int64, v96 = ((32 * (h82.2.1 x0 18)) + (((r95 - 97) + 1).toInt64)) → ( ∀ h98 : AH, h98 = ax_setL h94 x0 18 v96 → ( ∀ v100 : Int32, v100 = x2 + (1) → ( ∀ h102 : AH, h102 = ax_setI h98 x0 13 ((h98.1 x0 13) + 1) → ( L_X12_next_93 l g h102 x0 v100  Q)))))))))))))))))) : L_X12_next_93 l g h x0 x2  Q := by
  obtain ⟨i77, hb⟩ := hb
  refine wp_aload_n 0 dX12_next_93 rfl rfl ?_
  refine wp_aload_n 0 dX12_next_94 rfl rfl ?_
  refine wp_getI dX12_next_95 fl_X12_151 i77 ?_
  refine wp_callV (as := [.int (h.1 x0 13)]) dX12_next_98 cb_X12_byteAt lk_X12_154 im_X12_byteAt se_X12_byteAt rfl (Nat.le_of_ble_eq_true rfl) ⟨by decide, by decide⟩ ⟨Nat.le_refl _, Nat.le_refl _, Nat.le_refl _⟩ i77 rfl (by decide) hb (fun r0 h79 hb => ?_)
  obtain ⟨r80, rfl, hb⟩ := hb
  refine wp_callS (as := [.int r80]) dX12_next_101 cb_X12_isLetter lk_X12_165 st_X12_isLetter rfl (Nat.le_of_ble_eq_true rfl) ⟨by decide, by decide⟩ ⟨Nat.le_refl _, Nat.le_refl _, Nat.le_refl _⟩ hb (fun r0 h82 hb => ?_)
  obtain ⟨r83, rfl, hb⟩ := hb
  refine wp_if_eq (tgt := 156) dX12_next_104 (by decide) (fun c84 => ?_) (fun c84 => ?_)
  · have hb := hb.1 c84
    refine wp_iload_n 1 dX12_next_156 rfl rfl ?_
    refine wp_bipush (v := 9) dX12_next_157 (by decide) ?_
    refine wp_icmp_ge (tgt := 315) dX12_next_159 (by decide) (fun c85 => ?_) (fun c85 => ?_)
    · have hb := hb.1 c85
      exact wp_vret rfl dX12_next_315 ⟨rfl, hb⟩
    · have hb := hb.2 c85
      refine wp_aload_n 0 dX12_next_162 rfl rfl ?_
      refine wp_iconst (v := 2) dX12_next_163 (by decide) ?_
      refine wp_putI dX12_next_164 fl_X12_159 (Or.inl rfl) i77 ?_
      refine wp_topH (fun h86 e87 => ?_)
      have hb := hb h86 e87
      refine wp_goto (tgt := 315) dX12_next_167 (by decide) ?_
      exact wp_vret rfl dX12_next_315 ⟨rfl, hb⟩
  · have hb := hb.2 c84
    refine wp_iload_n 1 dX12_next_107 rfl rfl ?_
    refine wp_bipush (v := 8) dX12_next_108 (by decide) ?_
    refine wp_icmp_ge (tgt := 140) dX12_next_110 (by decide) (fun c88 => ?_) (fun c88 => ?_)
    · have hb := hb.1 c88
      obtain ⟨v89, e90⟩ : ∃ y : Int32, y = x2 + (1) := ⟨_, rfl⟩
      have hb := hb v89 e90
      refine wp_iinc (v := v89) (lv2 := [(2, .int v89), (0, .ref x0)]) 1 dX12_next_140 rfl (by rw [e90]; rfl) (by decide) rfl ?_
      refine wp_aload_n 1 dX12_next_143 rfl rfl ?_
      refine wp_dup dX12_next_144 rfl ?_
      refine wp_getI dX12_next_145 fl_X12_151 i77 ?_
      refine wp_iconst (v := 1) dX12_next_148 (by decide) ?_
      refine wp_iadd dX12_next_149 ?_
      refine wp_putI dX12_next_150 fl_X12_151 (Or.inl rfl) i77 ?_
      refine wp_topH (fun h91 e92 => ?_)
      have hb := hb h91 e92
      refine wp_goto (tgt := 93) dX12_next_153 (by decide) ?_
      exact wp_sub [1, 0] rfl hb
    · have hb := hb.2 c88
      refine wp_aload_n 0 dX12_next_113 rfl rfl ?_
      refine wp_ldc2 (v := 32) dX12_next_114 lk_X12_145 ?_
      refine wp_aload_n 0 dX12_next_117 rfl rfl ?_
      refine wp_getL dX12_next_118 fl_X12_169 i77 ?_
      refine wp_lmul dX12_next_121 ?_
      refine wp_aload_n 0 dX12_next_122 rfl rfl ?_
      refine wp_aload_n 0 dX12_next_123 rfl rfl ?_
      refine wp_getI dX12_next_124 fl_X12_151 i77 ?_
      refine wp_callV (as := [.int (h82.1 x0 13)]) dX12_next_127 cb_X12_byteAt lk_X12_154 im_X12_byteAt se_X12_byteAt rfl (Nat.le_of_ble_eq_true rfl) ⟨by decide, by decide⟩ ⟨Nat.le_refl _, Nat.le_refl _, Nat.le_refl _⟩ i77 rfl (by decide) hb (fun r0 h94 hb => ?_)
      obtain ⟨r95, rfl, hb⟩ := hb
      refine wp_bipush (v := 97) dX12_next_130 (by decide) ?_
      refine wp_isub dX12_next_132 ?_
      refine wp_iconst (v := 1) dX12_next_133 (by decide) ?_
      refine wp_iadd dX12_next_134 ?_
      refine wp_i2l dX12_next_135 ?_
      refine wp_ladd dX12_next_136 ?_
      refine wp_topl (fun v96 e97 => ?_)
      have hb := hb v96 e97
      refine wp_putL dX12_next_137 fl_X12_169 (Or.inl rfl) i77 ?_
      refine wp_topH (fun h98 e99 => ?_)
      have hb := hb h98 e99
      obtain ⟨v100, e101⟩ : ∃ y : Int32, y = x2 + (1) := ⟨_, rfl⟩
      have hb := hb v100 e101
      refine wp_iinc (v := v100) (lv2 := [(2, .int v100), (0, .ref x0)]) 1 dX12_next_140 rfl (by rw [e101]; rfl) (by decide) rfl ?_
      refine wp_aload_n 1 dX12_next_143 rfl rfl ?_
      refine wp_dup dX12_next_144 rfl ?_
      refine wp_getI dX12_next_145 fl_X12_151 i77 ?_
      refine wp_iconst (v := 1) dX12_next_148 (by decide) ?_
      refine wp_iadd dX12_next_149 ?_
      refine wp_putI dX12_next_150 fl_X12_151 (Or.inl rfl) i77 ?_
      refine wp_topH (fun h102 e103 => ?_)
      have hb := hb h102 e103
      refine wp_goto (tgt := 93) dX12_next_153 (by decide) ?_
      exact wp_sub [1, 0] rfl hb
theorem c_X12_next {l : Launch} {g : AG} {h : AH} {x0 : Nat}  {Q : AH → Prop} (hb : L_X12_next_0 l g h x0  Q) : C_X12_next l g h x0  Q := ax_met rfl (Nat.le_of_ble_eq_true rfl) hb
