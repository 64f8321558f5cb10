def C_X3_closed (l : Launch) (g : AG) (h : AH) (x0 : Int64)  (Q : Int64 → AH → Prop) : Prop := Ct l g mX3_closed 1 24 194 194 h [.long x0] (ax_QL Q)
def L_X3_closed_0 (l : Launch) (g : AG) (h : AH) (x0 : Int64)  (Q : Int64 → AH → Prop) : Prop := Wp l g mX3_closed 1 24 194 194 194 0 [(0, .long x0)] [] h (FM g 194 194 (ax_QL Q))
set_option maxRecDepth 100000 in
set_option maxHeartbeats 4000000 in
theorem s_X3_closed_0 {l : Launch} {g : AG} {h : AH} {x0 : Int64}  {Q : Int64 → AH → Prop} (hb : C_X3_openOf l g h x0 (fun r3 h2 => ( ((2 ≤ r3 → (C_X3_packed l g h2 (jlushr x0 34) (r3 - 1) x0 (fun r7 h6 => ( Q r7 h6)))) ∧ (¬ (2 ≤ r3) → (Q x0 h2)))))) : L_X3_closed_0 l g h x0  Q := by
  refine wp_lload_n 0 dX3_closed_0 rfl rfl ?_
  refine wp_callS (as := [.long x0]) dX3_closed_1 cb_X3_openOf lk_X3_17 st_X3_openOf rfl (Nat.le_of_ble_eq_true rfl) ⟨by decide, by decide⟩ ⟨Nat.le_refl _, Nat.le_refl _, Nat.le_refl _⟩ hb (fun r0 h2 hb => ?_)
  obtain ⟨r3, rfl, hb⟩ := hb
  refine wp_istore_n (lv2 := [(2, .int r3), (0, .long x0)]) dX3_closed_4 rfl (by decide) rfl ?_
  refine wp_iload_n 0 dX3_closed_5 rfl rfl ?_
  refine wp_iconst (v := 2) dX3_closed_6 (by decide) ?_
  refine wp_icmp_ge (tgt := 14) dX3_closed_7 (by decide) (fun c4 => ?_) (fun c4 => ?_)
  · have hb := hb.1 c4
    refine wp_lload_n 1 dX3_closed_14 rfl rfl ?_
    refine wp_bipush (v := 34) dX3_closed_15 (by decide) ?_
    refine wp_lushr dX3_closed_17 ?_
    refine wp_iload_n 0 dX3_closed_18 rfl rfl ?_
    refine wp_iconst (v := 1) dX3_closed_19 (by decide) ?_
    refine wp_isub dX3_closed_20 ?_
    refine wp_lload_n 1 dX3_closed_21 rfl rfl ?_
    refine wp_callS (as := [.long (jlushr x0 34), .int (r3 - 1), .long x0]) dX3_closed_22 cb_X3_packed lk_X3_13 st_X3_packed rfl (Nat.le_of_ble_eq_true rfl) ⟨by decide, by decide⟩ ⟨Nat.le_refl _, Nat.le_refl _, Nat.le_refl _⟩ hb (fun r0 h6 hb => ?_)
    obtain ⟨r7, rfl, hb⟩ := hb
    exact wp_lret rfl dX3_closed_25 ⟨_, rfl, hb⟩
  · have hb := hb.2 c4
    refine wp_lload_n 1 dX3_closed_10 rfl rfl ?_
    refine wp_goto (tgt := 25) dX3_closed_11 (by decide) ?_
    exact wp_lret rfl dX3_closed_25 ⟨_, rfl, hb⟩
theorem c_X3_closed {l : Launch} {g : AG} {h : AH} {x0 : Int64}  {Q : Int64 → AH → Prop} (hb : L_X3_closed_0 l g h x0  Q) : C_X3_closed l g h x0  Q := ax_met rfl (Nat.le_of_ble_eq_true rfl) hb
def C_X3_opened (l : Launch) (g : AG) (h : AH) (x0 : Int64) (x2 : Int32)  (Q : Int64 → AH → Prop) : Prop := Ct l g mX3_opened 1 24 194 194 h [.long x0, .int x2] (ax_QL Q)
def L_X3_opened_0 (l : Launch) (g : AG) (h : AH) (x0 : Int64) (x2 : Int32)  (Q : Int64 → AH → Prop) : Prop := Wp l g mX3_opened 1 24 194 194 194 0 [(0, .long x0), (2, .int x2)] [] h (FM g 194 194 (ax_QL Q))
set_option maxRecDepth 100000 in
set_option maxHeartbeats 4000000 in
theorem s_X3_opened_0 {l : Launch} {g : AG} {h : AH} {x0 : Int64} {x2 : Int32}  {Q : Int64 → AH → Prop} (hb : C_X3_openOf l g h x0 (fun r3 h2 => ( ((r3 < 5 → (∀ v5 : Int64, v5 = ((jlshl (jlushr x0 27) 7) ||| (jlshl x2.toInt64 4)) → ( C_X3_packed l g h2 v5 (r3 + 1) x0 (fun r9 h8 => ( Q r9 h8))))) ∧ (¬ (r3 < 5) → (Q x0 h2)))))) : L_X3_opened_0 l g h x0 x2  Q := by
  refine wp_lload_n 0 dX3_opened_0 rfl rfl ?_
  refine wp_callS (as := [.long x0]) dX3_opened_1 cb_X3_openOf lk_X3_17 st_X3_openOf rfl (Nat.le_of_ble_eq_true rfl) ⟨by decide, by decide⟩ ⟨Nat.le_refl _, Nat.le_refl _, Nat.le_refl _⟩ hb (fun r0 h2 hb => ?_)
  obtain ⟨r3, rfl, hb⟩ := hb
  refine wp_istore_n (lv2 := [(3, .int r3), (0, .long x0), (2, .int x2)]) dX3_opened_4 rfl (by decide) rfl ?_
  refine wp_iload_n 0 dX3_opened_5 rfl rfl ?_
  refine wp_iconst (v := 5) dX3_opened_6 (by decide) ?_
  refine wp_icmp_lt (tgt := 12) dX3_opened_7 (by decide) (fun c4 => ?_) (fun c4 => ?_)
  · have hb := hb.1 c4
    refine wp_lload_n 1 dX3_opened_12 rfl rfl ?_
    refine wp_bipush (v := 27) dX3_opened_13 (by decide) ?_
    refine wp_lushr dX3_opened_15 ?_
    refine wp_bipush (v := 7) dX3_opened_16 (by decide) ?_
    refine wp_lshl dX3_opened_18 ?_
    refine wp_iload_n 2 dX3_opened_19 rfl rfl ?_
    refine wp_i2l dX3_opened_20 ?_
    refine wp_iconst (v := 4) dX3_opened_21 (by decide) ?_
    refine wp_lshl dX3_opened_22 ?_
    refine wp_lor dX3_opened_23 ?_
    refine wp_topl (fun v5 e6 => ?_)
    have hb := hb v5 e6
    refine wp_iload_n 0 dX3_opened_24 rfl rfl ?_
    refine wp_iconst (v := 1) dX3_opened_25 (by decide) ?_
    refine wp_iadd dX3_opened_26 ?_
    refine wp_lload_n 1 dX3_opened_27 rfl rfl ?_
    refine wp_callS (as := [.long v5, .int (r3 + 1), .long x0]) dX3_opened_28 cb_X3_packed lk_X3_13 st_X3_packed rfl (Nat.le_of_ble_eq_true rfl) ⟨by decide, by decide⟩ ⟨Nat.le_refl _, Nat.le_refl _, Nat.le_refl _⟩ hb (fun r0 h8 hb => ?_)
    obtain ⟨r9, rfl, hb⟩ := hb
    exact wp_lret rfl dX3_opened_31 ⟨_, rfl, hb⟩
  · have hb := hb.2 c4
    refine wp_lload_n 1 dX3_opened_10 rfl rfl ?_
    exact wp_lret rfl dX3_opened_11 ⟨_, rfl, hb⟩
theorem c_X3_opened {l : Launch} {g : AG} {h : AH} {x0 : Int64} {x2 : Int32}  {Q : Int64 → AH → Prop} (hb : L_X3_opened_0 l g h x0 x2  Q) : C_X3_opened l g h x0 x2  Q := ax_met rfl (Nat.le_of_ble_eq_true rfl) hb
def C_X0_sumIn (l : Launch) (g : AG) (h : AH) (x0 : Nat) (x1 : Int32) (x2 : Int32)  (Q : Int32 → AH → Prop) : Prop := Ct l g mX0_sumIn 0 0 194 194 h [.ref x0, .int x1, .int x2] (ax_QI Q)
def L_X0_sumIn_0 (l : Launch) (g : AG) (h : AH) (x0 : Nat) (x1 : Int32) (x2 : Int32)  (Q : Int32 → AH → Prop) : Prop := Wp l g mX0_sumIn 0 0 194 194 194 0 [(0, .ref x0), (1, .int x1), (2, .int x2)] [] h (FM g 194 194 (ax_QI Q))
set_option maxRecDepth 100000 in
set_option maxHeartbeats 4000000 in
theorem s_X0_sumIn_0 {l : Launch} {g : AG} {h : AH} {x0 : Nat} {x1 : Int32} {x2 : Int32}  {Q : Int32 → AH → Prop} (hb : (Is 194 x0 0) ∧ ( (Is 194 (h.2.2 x0 10) 20) ∧ ( (vp_in x1 (ax_s (h.2.2 x0 10)).2) ∧ ( ∀ v4 : Int32, v4 = ((h.1 (h.2.2 x0 10) x1.toNatClampNeg) + 1) → ( ((v4 ≤ 0 → (Q 0 h)) ∧ (¬ (v4 ≤ 0) → ((¬ v4 = 0) ∧ ( Q (jirem x2 v4) h))))))))) : L_X0_sumIn_0 l g h x0 x1 x2  Q := by
  obtain ⟨i1, hb⟩ := hb
  refine wp_aload_n 0 dX0_sumIn_0 rfl rfl ?_
  obtain ⟨i2, hb⟩ := hb
  refine wp_getR dX0_sumIn_1 fl_X0_44 i1 (i2.ne (by decide)) ?_
  refine wp_iload_n 1 dX0_sumIn_4 rfl rfl ?_
  obtain ⟨b3, hb⟩ := hb
  refine wp_iaload dX0_sumIn_5 i2 b3 ?_
  refine wp_iconst (v := 1) dX0_sumIn_6 (by decide) ?_
  refine wp_iadd dX0_sumIn_7 ?_
  refine wp_topi (fun v4 e5 => ?_)
  have hb := hb v4 e5
  refine wp_istore_n (lv2 := [(3, .int v4), (0, .ref x0), (1, .int x1), (2, .int x2)]) dX0_sumIn_8 rfl (by decide) rfl ?_
  refine wp_iload_n 0 dX0_sumIn_9 rfl rfl ?_
  refine wp_if_le (tgt := 19) dX0_sumIn_10 (by decide) (fun c6 => ?_) (fun c6 => ?_)
  · have hb := hb.1 c6
    refine wp_iconst (v := 0) dX0_sumIn_19 (by decide) ?_
    exact wp_iret rfl dX0_sumIn_20 ⟨_, rfl, hb⟩
  · have hb := hb.2 c6
    refine wp_iload_n 3 dX0_sumIn_13 rfl rfl ?_
    refine wp_iload_n 0 dX0_sumIn_14 rfl rfl ?_
    obtain ⟨q7, hb⟩ := hb
    refine wp_irem dX0_sumIn_15 q7 ?_
    refine wp_goto (tgt := 20) dX0_sumIn_16 (by decide) ?_
    exact wp_iret rfl dX0_sumIn_20 ⟨_, rfl, hb⟩
theorem c_X0_sumIn {l : Launch} {g : AG} {h : AH} {x0 : Nat} {x1 : Int32} {x2 : Int32}  {Q : Int32 → AH → Prop} (hb : L_X0_sumIn_0 l g h x0 x1 x2  Q) : C_X0_sumIn l g h x0 x1 x2  Q := ax_met rfl (Nat.le_of_ble_eq_true rfl) hb
def C_X3_faulted (l : Launch) (g : AG) (h : AH) (x0 : Int32) (x1 : Int64)  (Q : Int64 → AH → Prop) : Prop := Ct l g mX3_faulted 1 24 194 194 h [.int x0, .long x1] (ax_QL Q)
def L_X3_faulted_0 (l : Launch) (g : AG) (h : AH) (x0 : Int32) (x1 : Int64)  (Q : Int64 → AH → Prop) : Prop := Wp l g mX3_faulted 1 24 194 194 194 0 [(0, .int x0), (1, .long x1)] [] h (FM g 194 194 (ax_QL Q))
set_option maxRecDepth 100000 in
set_option maxHeartbeats 4000000 in
theorem s_X3_faulted_0 {l : Launch} {g : AG} {h : AH} {x0 : Int32} {x1 : Int64}  {Q : Int64 → AH → Prop} (hb : C_X3_packed l g h x0.toInt64 0 x1 (fun r3 h2 => ( Q r3 h2))) : L_X3_faulted_0 l g h x0 x1  Q := by
  refine wp_iload_n 0 dX3_faulted_0 rfl rfl ?_
  refine wp_i2l dX3_faulted_1 ?_
  refine wp_iconst (v := 0) dX3_faulted_2 (by decide) ?_
  refine wp_lload_n 1 dX3_faulted_3 rfl rfl ?_
  refine wp_callS (as := [.long x0.toInt64, .int 0, .long x1]) dX3_faulted_4 cb_X3_packed lk_X3_13 st_X3_packed rfl (Nat.le_of_ble_eq_true rfl) ⟨by decide, by decide⟩ ⟨Nat.le_refl _, Nat.le_refl _, Nat.le_refl _⟩ hb (fun r0 h2 hb => ?_)
  obtain ⟨r3, rfl, hb⟩ := hb
  exact wp_lret rfl dX3_faulted_7 ⟨_, rfl, hb⟩
theorem c_X3_faulted {l : Launch} {g : AG} {h : AH} {x0 : Int32} {x1 : Int64}  {Q : Int64 → AH → Prop} (hb : L_X3_faulted_0 l g h x0 x1  Q) : C_X3_faulted l g h x0 x1  Q := ax_met rfl (Nat.le_of_ble_eq_true rfl) hb
def C_X0_afterDeeds (l : Launch) (g : AG) (h : AH) (x0 : Nat) (x1 : Int64) (x3 : Int32)  (Q : Int64 → AH → Prop) : Prop := Ct l g mX0_afterDeeds 2 47 194 194 h [.ref x0, .long x1, .int x3] (ax_QL Q)
def L_X0_afterDeeds_0 (l : Launch) (g : AG) (h : AH) (x0 : Nat) (x1 : Int64) (x3 : Int32)  (Q : Int64 → AH → Prop) : Prop := Wp l g mX0_afterDeeds 2 47 194 194 194 0 [(0, .ref x0), (1, .long x1), (3, .int x3)] [] h (FM g 194 194 (ax_QL Q))
def L_X0_afterDeeds_24 (l : Launch) (g : AG) (h : AH) (x0 : Nat) (x3 : Int32) (x4 : Int64) (x6 : Int32) (x7 : Int32)  (Q : Int64 → AH → Prop) : Prop := Wp l g mX0_afterDeeds 2 47 194 194 194 24 [(0, .ref x0), (3, .int x3), (4, .long x4), (6, .int x6), (7, .int x7)] [] h (FM g 194 194 (ax_QL Q))
set_option maxRecDepth 100000 in
set_option maxHeartbeats 4000000 in
theorem s_X0_afterDeeds_0 {l : Launch} {g : AG} {h : AH} {x0 : Nat} {x1 : Int64} {x3 : Int32}  {Q : Int64 → AH → Prop} (hb : ((x3 < 0 → (Q x1 h)) ∧ (¬ (x3 < 0) → (((x3 < 32 → (∀ v3 : Int32, v3 = (x3 * 4) → ( L_X0_afterDeeds_24 l g h x0 x3 x1 v3 v3  Q))) ∧ (¬ (x3 < 32) → (Q x1 h))))))) : L_X0_afterDeeds_0 l g h x0 x1 x3  Q := by
  refine wp_iload_n 2 dX0_afterDeeds_0 rfl rfl ?_
  refine wp_if_lt (tgt := 10) dX0_afterDeeds_1 (by decide) (fun c1 => ?_) (fun c1 => ?_)
  · have hb := hb.1 c1
    refine wp_lload_n 1 dX0_afterDeeds_10 rfl rfl ?_
    exact wp_lret rfl dX0_afterDeeds_11 ⟨_, rfl, hb⟩
  · have hb := hb.2 c1
    refine wp_iload_n 2 dX0_afterDeeds_4 rfl rfl ?_
    refine wp_bipush (v := 32) dX0_afterDeeds_5 (by decide) ?_
    refine wp_icmp_lt (tgt := 12) dX0_afterDeeds_7 (by decide) (fun c2 => ?_) (fun c2 => ?_)
    · have hb := hb.1 c2
      refine wp_lload_n 1 dX0_afterDeeds_12 rfl rfl ?_
      refine wp_lstore (lv2 := [(4, .long x1), (0, .ref x0), (1, .long x1), (3, .int x3)]) dX0_afterDeeds_13 (by decide) rfl ?_
      refine wp_iload_n 3 dX0_afterDeeds_15 rfl rfl ?_
      refine wp_iconst (v := 4) dX0_afterDeeds_16 (by decide) ?_
      refine wp_imul dX0_afterDeeds_17 ?_
      refine wp_topi (fun v3 e4 => ?_)
      have hb := hb v3 e4
      refine wp_istore (lv2 := [(6, .int v3), (4, .long x1), (0, .ref x0), (1, .long x1), (3, .int x3)]) dX0_afterDeeds_18 (by decide) rfl ?_
      refine wp_iload 0 dX0_afterDeeds_20 rfl ?_
      refine wp_istore (lv2 := [(7, .int v3), (6, .int v3), (4, .long x1), (0, .ref x0), (1, .long x1), (3, .int x3)]) dX0_afterDeeds_22 (by decide) rfl ?_
      exact wp_sub [3, 5, 2, 1, 0] rfl hb
    · have hb := hb.2 c2
      refine wp_lload_n 1 dX0_afterDeeds_10 rfl rfl ?_
      exact wp_lret rfl dX0_afterDeeds_11 ⟨_, rfl, hb⟩
set_option maxRecDepth 100000 in
set_option maxHeartbeats 4000000 in
theorem s_X0_afterDeeds_24 {l : Launch} {g : AG} {h : AH} {x0 : Nat} {x3 : Int32} {x4 : Int64} {x6 : Int32} {x7 : Int32}  {Q : Int64 → AH → Prop} (hb : (Is 194 x0 0) ∧ ( (Is 194 (h.2.2 x0 18) 4) ∧ ( (Is 194 (h.2.2 (h.2.2 x0 18) 0) 20) ∧ ( (vp_in x3 (ax_s (h.2.2 (h.2.2 x0 18) 0)).2) ∧ ( ∀ v9 : Int32, v9 = (x6 + (h.1 (h.2.2 (h.2.2 x0 18) 0) x3.toNatClampNeg)) → ( ((v9 ≤ x7 → (Q x4 h)) ∧ (¬ (v9 ≤ x7) → ((Is 194 (h.2.2 x0 18) 4) ∧ ( (Is 194 (h.2.2 (h.2.2 x0 18) 2) 20) ∧ ( (vp_in x7 (ax_s (h.2.2 (h.2.2 x0 18) 2)).2) ∧ ( ∀ v15 : Int32, v15 = (h.1 (h.2.2 (h.2.2 x0 18) 2) x7.toNatClampNeg) → ( (Is 194 (h.2.2 x0 18) 4) ∧ ( (Is 194 (h.2.2 (h.2.2 x0 18) 3) 20) ∧ ( (vp_in x7 (ax_s (h.2.2 (h.2.2 x0 18) 3)).2) ∧ ( ∀ v20 : Int32, v20 = (h.1 (h.2.2 (h.2.2 x0 18) 3) x7.toNatClampNeg) → ( (Is 194 (h.2.2 x0 18) 4) ∧ ( (Is 194 (h.2.2 (h.2.2 x0 18) 1) 20) ∧ ( (vp_in x7 (ax_s (h.2.2 (h.2.2 x0 18) 1)).2) ∧ ( ((h.1 (h.2.2 (h.2.2 x0 18) 1) x7.toNatClampNeg = 0 → (C_X3_opened l g h x4 v15 (fun r28 h27 => ( ∀ v29 : Int32, v29 = x7 + (1) → ( L_X0_afterDeeds_24 l g h27 x0 x3 r28 x6 v29  Q))))) ∧ (¬ h.1 (h.2.2 (h.2.2 x0 18) 1) x7.toNatClampNeg = 0 → (((h.1 (h.2.2 (h.2.2 x0 18) 1) x7.toNatClampNeg = 1 → (C_X3_closed l g h x4 (fun r34 h33 => ( ∀ v35 : Int32, v35 = x7 + (1) → ( L_X0_afterDeeds_24 l g h33 x0 x3 r34 x6 v35  Q))))) ∧ (¬ h.1 (h.2.2 (h.2.2 x0 18) 1) x7.toNatClampNeg = 1 → (((h.1 (h.2.2 (h.2.2 x0 18) 1) x7.toNatClampNeg = 2 → (C_X3_withValue l g h x4 v15 v20 (fun r40 h39 => ( ∀ v41 : Int32, v41 = x7 + (1) → ( L_X0_afterDeeds_24 l g h39 x0 x3 r40 x6 v41  Q))))) ∧ (¬ h.1 (h.2.2 (h.2.2 x0 18) 1) x7.toNatClampNeg = 2 → (((h.1 (h.2.2 (h.2.2 x0 18) 1) x7.toNatClampNeg = 3 → (C_X3_valueOf l g h x4 v15 (fun r46 h45 => ( C_X0_sumIn l g h45 x0 v15 (r46 + v20) (fun r49 h48 => ( C_X3_withValue l g h48 x4 v15 r49 (fun r52 h51 => ( ∀ v53 : Int32, v53 = x7 + (1) → ( L_X0_afterDeeds_24 l g h51 x0 x3 r52 x6 v53  Q))))))))) ∧ (¬ h.1 (h.2.2 (h.2.2 x0 18) 1) x7.toNatClampNeg = 3 → (C_X3_faulted l g h v20 (x4 &&& (h.2.1 x0 6)) (fun r57 h56 => ( Q r57 h56)))))))))))))))))))))))))))))))))) : L_X0_afterDeeds_24 l g h x0 x3 x4 x6 x7  Q := by
  refine wp_iload 4 dX0_afterDeeds_24 rfl ?_
  refine wp_iload 3 dX0_afterDeeds_26 rfl ?_
  obtain ⟨i5, hb⟩ := hb
  refine wp_aload_n 0 dX0_afterDeeds_28 rfl rfl ?_
  obtain ⟨i6, hb⟩ := hb
  refine wp_getR dX0_afterDeeds_29 fl_X0_76 i5 (i6.ne (by decide)) ?_
  obtain ⟨i7, hb⟩ := hb
  refine wp_getR dX0_afterDeeds_32 fl_X0_86 i6 (i7.ne (by decide)) ?_
  refine wp_iload_n 1 dX0_afterDeeds_35 rfl rfl ?_
  obtain ⟨b8, hb⟩ := hb
  refine wp_iaload dX0_afterDeeds_36 i7 b8 ?_
  refine wp_iadd dX0_afterDeeds_37 ?_
  refine wp_topi (fun v9 e10 => ?_)
  have hb := hb v9 e10
  refine wp_icmp_ge (tgt := 187) dX0_afterDeeds_38 (by decide) (fun c11 => ?_) (fun c11 => ?_)
  · have hb := hb.1 c11
    refine wp_lload 2 dX0_afterDeeds_187 rfl ?_
    exact wp_lret rfl dX0_afterDeeds_189 ⟨_, rfl, hb⟩
  · have hb := hb.2 c11
    refine wp_aload_n 0 dX0_afterDeeds_41 rfl rfl ?_
    obtain ⟨i12, hb⟩ := hb
    refine wp_getR dX0_afterDeeds_42 fl_X0_76 i5 (i12.ne (by decide)) ?_
    obtain ⟨i13, hb⟩ := hb
    refine wp_getR dX0_afterDeeds_45 fl_X0_137 i12 (i13.ne (by decide)) ?_
    refine wp_iload 4 dX0_afterDeeds_48 rfl ?_
    obtain ⟨b14, hb⟩ := hb
    refine wp_iaload dX0_afterDeeds_50 i13 b14 ?_
    refine wp_topi (fun v15 e16 => ?_)
    have hb := hb v15 e16
    refine wp_istore (lv2 := [(8, .int v15), (0, .ref x0), (3, .int x3), (4, .long x4), (6, .int x6), (7, .int x7)]) dX0_afterDeeds_51 (by decide) rfl ?_
    refine wp_aload_n 1 dX0_afterDeeds_53 rfl rfl ?_
    obtain ⟨i17, hb⟩ := hb
    refine wp_getR dX0_afterDeeds_54 fl_X0_76 i5 (i17.ne (by decide)) ?_
    obtain ⟨i18, hb⟩ := hb
    refine wp_getR dX0_afterDeeds_57 fl_X0_140 i17 (i18.ne (by decide)) ?_
    refine wp_iload 5 dX0_afterDeeds_60 rfl ?_
    obtain ⟨b19, hb⟩ := hb
    refine wp_iaload dX0_afterDeeds_62 i18 b19 ?_
    refine wp_topi (fun v20 e21 => ?_)
    have hb := hb v20 e21
    refine wp_istore (lv2 := [(9, .int v20), (8, .int v15), (0, .ref x0), (3, .int x3), (4, .long x4), (6, .int x6), (7, .int x7)]) dX0_afterDeeds_63 (by decide) rfl ?_
    refine wp_aload_n 2 dX0_afterDeeds_65 rfl rfl ?_
    obtain ⟨i22, hb⟩ := hb
    refine wp_getR dX0_afterDeeds_66 fl_X0_76 i5 (i22.ne (by decide)) ?_
    obtain ⟨i23, hb⟩ := hb
    refine wp_getR dX0_afterDeeds_69 fl_X0_143 i22 (i23.ne (by decide)) ?_
    refine wp_iload 6 dX0_afterDeeds_72 rfl ?_
    obtain ⟨b24, hb⟩ := hb
    refine wp_iaload dX0_afterDeeds_74 i23 b24 ?_
    refine wp_case 0 (fun c25 => ?_) (fun c25 => ?_)
    · have hb := hb.1 c25
      refine wp_tableIn (v := 0) (tgt := 104) dX0_afterDeeds_75 c25 (by decide) (by decide) rfl (by decide) ?_
      refine wp_lload 4 dX0_afterDeeds_104 rfl ?_
      refine wp_iload 1 dX0_afterDeeds_106 rfl ?_
      refine wp_callSN (as := [.long x4, .int v15]) dX0_afterDeeds_108 cb_X3_opened lk_X0_146 st_X3_opened rfl (Nat.le_of_ble_eq_true rfl) ⟨by decide, by decide⟩ ⟨Nat.le_refl _, Nat.le_refl _, Nat.le_refl _⟩ hb (fun r0 h27 hb => ?_)
      obtain ⟨r28, rfl, hb⟩ := hb
      refine wp_lstore (lv2 := [(4, .long r28), (9, .int v20), (8, .int v15), (0, .ref x0), (3, .int x3), (6, .int x6), (7, .int x7)]) dX0_afterDeeds_111 (by decide) rfl ?_
      refine wp_goto (tgt := 181) dX0_afterDeeds_113 (by decide) ?_
      obtain ⟨v29, e30⟩ : ∃ y : Int32, y = x7 + (1) := ⟨_, rfl⟩
      have hb := hb v29 e30
      refine wp_iinc (v := v29) (lv2 := [(7, .int v29), (4, .long r28), (9, .int v20), (8, .int v15), (0, .ref x0), (3, .int x3), (6, .int x6)]) 6 dX0_afterDeeds_181 rfl (by rw [e30]; rfl) (by decide) rfl ?_
      refine wp_goto (tgt := 24) dX0_afterDeeds_184 (by decide) ?_
      exact wp_sub [4, 5, 1, 6, 0] rfl hb
    · have hb := hb.2 c25
      refine wp_case 1 (fun c31 => ?_) (fun c31 => ?_)
      · have hb := hb.1 c31
        refine wp_tableIn (v := 1) (tgt := 116) dX0_afterDeeds_75 c31 (by decide) (by decide) rfl (by decide) ?_
        refine wp_lload 4 dX0_afterDeeds_116 rfl ?_
        refine wp_callSN (as := [.long x4]) dX0_afterDeeds_118 cb_X3_closed lk_X0_117 st_X3_closed rfl (Nat.le_of_ble_eq_true rfl) ⟨by decide, by decide⟩ ⟨Nat.le_refl _, Nat.le_refl _, Nat.le_refl _⟩ hb (fun r0 h33 hb => ?_)
        obtain ⟨r34, rfl, hb⟩ := hb
        refine wp_lstore (lv2 := [(4, .long r34), (9, .int v20), (8, .int v15), (0, .ref x0), (3, .int x3), (6, .int x6), (7, .int x7)]) dX0_afterDeeds_121 (by decide) rfl ?_
        refine wp_goto (tgt := 181) dX0_afterDeeds_123 (by decide) ?_
        obtain ⟨v35, e36⟩ : ∃ y : Int32, y = x7 + (1) := ⟨_, rfl⟩
        have hb := hb v35 e36
        refine wp_iinc (v := v35) (lv2 := [(7, .int v35), (4, .long r34), (9, .int v20), (8, .int v15), (0, .ref x0), (3, .int x3), (6, .int x6)]) 6 dX0_afterDeeds_181 rfl (by rw [e36]; rfl) (by decide) rfl ?_
        refine wp_goto (tgt := 24) dX0_afterDeeds_184 (by decide) ?_
        exact wp_sub [4, 5, 1, 6, 0] rfl hb
      · have hb := hb.2 c31
        refine wp_case 2 (fun c37 => ?_) (fun c37 => ?_)
        · have hb := hb.1 c37
          refine wp_tableIn (v := 2) (tgt := 126) dX0_afterDeeds_75 c37 (by decide) (by decide) rfl (by decide) ?_
          refine wp_lload 4 dX0_afterDeeds_126 rfl ?_
          refine wp_iload 1 dX0_afterDeeds_128 rfl ?_
          refine wp_iload 0 dX0_afterDeeds_130 rfl ?_
          refine wp_callSN (as := [.long x4, .int v15, .int v20]) dX0_afterDeeds_132 cb_X3_withValue lk_X0_80 st_X3_withValue rfl (Nat.le_of_ble_eq_true rfl) ⟨by decide, by decide⟩ ⟨Nat.le_refl _, Nat.le_refl _, Nat.le_refl _⟩ hb (fun r0 h39 hb => ?_)
          obtain ⟨r40, rfl, hb⟩ := hb
          refine wp_lstore (lv2 := [(4, .long r40), (9, .int v20), (8, .int v15), (0, .ref x0), (3, .int x3), (6, .int x6), (7, .int x7)]) dX0_afterDeeds_135 (by decide) rfl ?_
          refine wp_goto (tgt := 181) dX0_afterDeeds_137 (by decide) ?_
          obtain ⟨v41, e42⟩ : ∃ y : Int32, y = x7 + (1) := ⟨_, rfl⟩
          have hb := hb v41 e42
          refine wp_iinc (v := v41) (lv2 := [(7, .int v41), (4, .long r40), (9, .int v20), (8, .int v15), (0, .ref x0), (3, .int x3), (6, .int x6)]) 6 dX0_afterDeeds_181 rfl (by rw [e42]; rfl) (by decide) rfl ?_
          refine wp_goto (tgt := 24) dX0_afterDeeds_184 (by decide) ?_
          exact wp_sub [4, 5, 1, 6, 0] rfl hb
        · have hb := hb.2 c37
          refine wp_case 3 (fun c43 => ?_) (fun c43 => ?_)
          · have hb := hb.1 c43
            refine wp_tableIn (v := 3) (tgt := 140) dX0_afterDeeds_75 c43 (by decide) (by decide) rfl (by decide) ?_
            refine wp_lload 4 dX0_afterDeeds_140 rfl ?_
            refine wp_iload 1 dX0_afterDeeds_142 rfl ?_
            refine wp_aload_n 2 dX0_afterDeeds_144 rfl rfl ?_
            refine wp_iload 1 dX0_afterDeeds_145 rfl ?_
            refine wp_lload 4 dX0_afterDeeds_147 rfl ?_
            refine wp_iload 1 dX0_afterDeeds_149 rfl ?_
            refine wp_callSN (as := [.long x4, .int v15]) dX0_afterDeeds_151 cb_X3_valueOf lk_X0_149 st_X3_valueOf rfl (Nat.le_of_ble_eq_true rfl) ⟨by decide, by decide⟩ ⟨Nat.le_refl _, Nat.le_refl _, Nat.le_refl _⟩ hb (fun r0 h45 hb => ?_)
            obtain ⟨r46, rfl, hb⟩ := hb
            refine wp_iload 0 dX0_afterDeeds_154 rfl ?_
            refine wp_iadd dX0_afterDeeds_156 ?_
            refine wp_callV (as := [.int v15, .int (r46 + v20)]) dX0_afterDeeds_157 cb_X0_sumIn lk_X0_153 im_X0_sumIn se_X0_sumIn rfl (Nat.le_of_ble_eq_true rfl) ⟨by decide, by decide⟩ ⟨Nat.le_refl _, Nat.le_refl _, Nat.le_refl _⟩ i5 rfl (by decide) hb (fun r0 h48 hb => ?_)
            obtain ⟨r49, rfl, hb⟩ := hb
            refine wp_callSN (as := [.long x4, .int v15, .int r49]) dX0_afterDeeds_160 cb_X3_withValue lk_X0_80 st_X3_withValue rfl (Nat.le_of_ble_eq_true rfl) ⟨by decide, by decide⟩ ⟨Nat.le_refl _, Nat.le_refl _, Nat.le_refl _⟩ hb (fun r0 h51 hb => ?_)
            obtain ⟨r52, rfl, hb⟩ := hb
            refine wp_lstore (lv2 := [(4, .long r52), (9, .int v20), (8, .int v15), (0, .ref x0), (3, .int x3), (6, .int x6), (7, .int x7)]) dX0_afterDeeds_163 (by decide) rfl ?_
            refine wp_goto (tgt := 181) dX0_afterDeeds_165 (by decide) ?_
            obtain ⟨v53, e54⟩ : ∃ y : Int32, y = x7 + (1) := ⟨_, rfl⟩
            have hb := hb v53 e54
            refine wp_iinc (v := v53) (lv2 := [(7, .int v53), (4, .long r52), (9, .int v20), (8, .int v15), (0, .ref x0), (3, .int x3), (6, .int x6)]) 6 dX0_afterDeeds_181 rfl (by rw [e54]; rfl) (by decide) rfl ?_
            refine wp_goto (tgt := 24) dX0_afterDeeds_184 (by decide) ?_
            exact wp_sub [4, 5, 1, 6, 0] rfl hb
          · have hb := hb.2 c43
            refine wp_tableOut (tgt := 168) dX0_afterDeeds_75 (by have zc25 := lv_neT (k := 0) (a := 0) c25 rfl; have zc31 := lv_neT (k := 1) (a := 1) c31 rfl; have zc37 := lv_neT (k := 2) (a := 2) c37 rfl; have zc43 := lv_neT (k := 3) (a := 3) c43 rfl; omega) (by decide) ?_
            refine wp_iload 0 dX0_afterDeeds_168 rfl ?_
            refine wp_lload 4 dX0_afterDeeds_170 rfl ?_
            refine wp_aload_n 2 dX0_afterDeeds_172 rfl rfl ?_
            refine wp_getL dX0_afterDeeds_173 fl_X0_30 i5 ?_
            refine wp_land dX0_afterDeeds_176 ?_
            refine wp_callSN (as := [.int v20, .long (x4 &&& (h.2.1 x0 6))]) dX0_afterDeeds_177 cb_X3_faulted lk_X0_157 st_X3_faulted rfl (Nat.le_of_ble_eq_true rfl) ⟨by decide, by decide⟩ ⟨Nat.le_refl _, Nat.le_refl _, Nat.le_refl _⟩ hb (fun r0 h56 hb => ?_)
            obtain ⟨r57, rfl, hb⟩ := hb
            exact wp_lret rfl dX0_afterDeeds_180 ⟨_, rfl, hb⟩
theorem c_X0_afterDeeds {l : Launch} {g : AG} {h : AH} {x0 : Nat} {x1 : Int64} {x3 : Int32}  {Q : Int64 → AH → Prop} (hb : L_X0_afterDeeds_0 l g h x0 x1 x3  Q) : C_X0_afterDeeds l g h x0 x1 x3  Q := ax_met rfl (Nat.le_of_ble_eq_true rfl) hb
