def C_X3_ticksOf (l : Launch) (g : AG) (h : AH) (x0 : Int64)  (Q : Int32 → AH → Prop) : Prop := Ct l g mX3_ticksOf 1 21 194 194 h [.long x0] (ax_QI Q)
def L_X3_ticksOf_0 (l : Launch) (g : AG) (h : AH) (x0 : Int64)  (Q : Int32 → AH → Prop) : Prop := Wp l g mX3_ticksOf 1 21 194 194 194 0 [(0, .long x0)] [] h (FM g 194 194 (ax_QI Q))
set_option maxRecDepth 100000 in
set_option maxHeartbeats 4000000 in
theorem s_X3_ticksOf_0 {l : Launch} {g : AG} {h : AH} {x0 : Int64}  {Q : Int32 → AH → Prop} (hb : C_X3_openOf l g h x0 (fun r3 h2 => ( ((r3 ≤ 0 → (Q (-1) h2)) ∧ (¬ (r3 ≤ 0) → (Q (((jlushr x0 27).toInt32) &&& 15) h2)))))) : L_X3_ticksOf_0 l g h x0  Q := by
  refine wp_lload_n 0 dX3_ticksOf_0 rfl rfl ?_
  refine wp_callS (as := [.long x0]) dX3_ticksOf_1 cb_X3_openOf lk_X3_17 st_X3_openOf rfl (Nat.le_of_ble_eq_true rfl) ⟨by decide, by decide⟩ ⟨Nat.le_refl _, Nat.le_refl _, Nat.le_refl _⟩ hb (fun r0 h2 hb => ?_)
  obtain ⟨r3, rfl, hb⟩ := hb
  refine wp_if_le (tgt := 18) dX3_ticksOf_4 (by decide) (fun c4 => ?_) (fun c4 => ?_)
  · have hb := hb.1 c4
    refine wp_iconst (v := (-1)) dX3_ticksOf_18 (by decide) ?_
    exact wp_iret rfl dX3_ticksOf_19 ⟨_, rfl, hb⟩
  · have hb := hb.2 c4
    refine wp_lload_n 0 dX3_ticksOf_7 rfl rfl ?_
    refine wp_bipush (v := 27) dX3_ticksOf_8 (by decide) ?_
    refine wp_lushr dX3_ticksOf_10 ?_
    refine wp_l2i dX3_ticksOf_11 ?_
    refine wp_bipush (v := 15) dX3_ticksOf_12 (by decide) ?_
    refine wp_iand dX3_ticksOf_14 ?_
    refine wp_goto (tgt := 19) dX3_ticksOf_15 (by decide) ?_
    exact wp_iret rfl dX3_ticksOf_19 ⟨_, rfl, hb⟩
theorem c_X3_ticksOf {l : Launch} {g : AG} {h : AH} {x0 : Int64}  {Q : Int32 → AH → Prop} (hb : L_X3_ticksOf_0 l g h x0  Q) : C_X3_ticksOf l g h x0  Q := ax_met rfl (Nat.le_of_ble_eq_true rfl) hb
def C_X3_withTicks (l : Launch) (g : AG) (h : AH) (x0 : Int64) (x2 : Int32)  (Q : Int64 → AH → Prop) : Prop := Ct l g mX3_withTicks 0 0 194 194 h [.long x0, .int x2] (ax_QL Q)
def L_X3_withTicks_0 (l : Launch) (g : AG) (h : AH) (x0 : Int64) (x2 : Int32)  (Q : Int64 → AH → Prop) : Prop := Wp l g mX3_withTicks 0 0 194 194 194 0 [(0, .long x0), (2, .int x2)] [] h (FM g 194 194 (ax_QL Q))
set_option maxRecDepth 100000 in
set_option maxHeartbeats 4000000 in
theorem s_X3_withTicks_0 {l : Launch} {g : AG} {h : AH} {x0 : Int64} {x2 : Int32}  {Q : Int64 → AH → Prop} (hb : Q ((x0 &&& (-2013265921)) ||| (jlshl x2.toInt64 27)) h) : L_X3_withTicks_0 l g h x0 x2  Q := by
  refine wp_lload_n 0 dX3_withTicks_0 rfl rfl ?_
  refine wp_ldc2 (v := (-2013265921)) dX3_withTicks_1 lk_X3_25 ?_
  refine wp_land dX3_withTicks_4 ?_
  refine wp_iload_n 1 dX3_withTicks_5 rfl rfl ?_
  refine wp_i2l dX3_withTicks_6 ?_
  refine wp_bipush (v := 27) dX3_withTicks_7 (by decide) ?_
  refine wp_lshl dX3_withTicks_9 ?_
  refine wp_lor dX3_withTicks_10 ?_
  exact wp_lret rfl dX3_withTicks_11 ⟨_, rfl, hb⟩
theorem c_X3_withTicks {l : Launch} {g : AG} {h : AH} {x0 : Int64} {x2 : Int32}  {Q : Int64 → AH → Prop} (hb : L_X3_withTicks_0 l g h x0 x2  Q) : C_X3_withTicks l g h x0 x2  Q := ax_met rfl (Nat.le_of_ble_eq_true rfl) hb
def C_X0_after (l : Launch) (g : AG) (h : AH) (x0 : Nat) (x1 : Int64) (x3 : Int32)  (Q : Int64 → AH → Prop) : Prop := Ct l g mX0_after 3 76 194 194 h [.ref x0, .long x1, .int x3] (ax_QL Q)
def L_X0_after_0 (l : Launch) (g : AG) (h : AH) (x0 : Nat) (x1 : Int64) (x3 : Int32)  (Q : Int64 → AH → Prop) : Prop := Wp l g mX0_after 3 76 194 194 194 0 [(0, .ref x0), (1, .long x1), (3, .int x3)] [] h (FM g 194 194 (ax_QL Q))
set_option maxRecDepth 100000 in
set_option maxHeartbeats 4000000 in
theorem s_X0_after_0 {l : Launch} {g : AG} {h : AH} {x0 : Nat} {x1 : Int64} {x3 : Int32}  {Q : Int64 → AH → Prop} (hb : ((¬ x3 = 26 → (((¬ x3 = 25 → (((x3 = 24 → (C_X3_topOf l g h x1 (fun r6 h5 => ( ((r6 = (-1) → (Q x1 h5)) ∧ (¬ (r6 = (-1)) → ((Is 194 x0 0) ∧ ( (Is 194 (h5.2.2 x0 13) 20) ∧ ( (vp_in r6 (ax_s (h5.2.2 x0 13)).2) ∧ ( ((¬ h5.1 (h5.2.2 x0 13) r6.toNatClampNeg = 0 → (C_X3_ticksOf l g h5 x1 (fun r14 h13 => ( ∀ v15 : Int32, v15 = (r14 + 1) → ( (Is 194 (h13.2.2 x0 13) 20) ∧ ( (vp_in r6 (ax_s (h13.2.2 x0 13)).2) ∧ ( ((h13.1 (h13.2.2 x0 13) r6.toNatClampNeg ≤ v15 → (C_X3_withTicks l g h13 x1 0 (fun r22 h21 => ( C_X5_ofTimer l g h21 r6 (fun r25 h24 => ( C_X0_afterDeeds l g h24 x0 r22 r25 (fun r28 h27 => ( Q r28 h27)))))))) ∧ (¬ (h13.1 (h13.2.2 x0 13) r6.toNatClampNeg ≤ v15) → (C_X3_withTicks l g h13 x1 v15 (fun r31 h30 => ( Q r31 h30)))))))))))) ∧ (h5.1 (h5.2.2 x0 13) r6.toNatClampNeg = 0 → (Q x1 h5))))))))))))) ∧ (¬ (x3 = 24) → ((Is 194 x0 0) ∧ ( C_X0_afterDeeds l g h x0 x1 x3 (fun r35 h34 => ( Q r35 h34)))))))) ∧ (x3 = 25 → (C_X3_closed l g h x1 (fun r38 h37 => ( Q r38 h37))))))) ∧ (x3 = 26 → ((Is 194 x0 0) ∧ ( C_X3_alone l g h 0 (x1 &&& (h.2.1 x0 6)) (fun r42 h41 => ( Q r42 h41))))))) : L_X0_after_0 l g h x0 x1 x3  Q := by
  refine wp_iload_n 2 dX0_after_0 rfl rfl ?_
  refine wp_bipush (v := 26) dX0_after_1 (by decide) ?_
  refine wp_icmp_ne (tgt := 17) dX0_after_3 (by decide) (fun c1 => ?_) (fun c1 => ?_)
  · have hb := hb.1 c1
    refine wp_iload_n 2 dX0_after_17 rfl rfl ?_
    refine wp_bipush (v := 25) dX0_after_18 (by decide) ?_
    refine wp_icmp_ne (tgt := 28) dX0_after_20 (by decide) (fun c2 => ?_) (fun c2 => ?_)
    · have hb := hb.1 c2
      refine wp_iload_n 2 dX0_after_28 rfl rfl ?_
      refine wp_bipush (v := 24) dX0_after_29 (by decide) ?_
      refine wp_icmp_eq (tgt := 41) dX0_after_31 (by decide) (fun c3 => ?_) (fun c3 => ?_)
      · have hb := hb.1 c3
        refine wp_lload_n 1 dX0_after_41 rfl rfl ?_
        refine wp_callSN (as := [.long x1]) dX0_after_42 cb_X3_topOf lk_X0_102 st_X3_topOf rfl (Nat.le_of_ble_eq_true rfl) ⟨by decide, by decide⟩ ⟨Nat.le_refl _, Nat.le_refl _, Nat.le_refl _⟩ hb (fun r0 h5 hb => ?_)
        obtain ⟨r6, rfl, hb⟩ := hb
        refine wp_istore (lv2 := [(4, .int r6), (0, .ref x0), (1, .long x1), (3, .int x3)]) dX0_after_45 (by decide) rfl ?_
        refine wp_iload 0 dX0_after_47 rfl ?_
        refine wp_iconst (v := (-1)) dX0_after_49 (by decide) ?_
        refine wp_icmp_eq (tgt := 63) dX0_after_50 (by decide) (fun c7 => ?_) (fun c7 => ?_)
        · have hb := hb.1 c7
          refine wp_lload_n 2 dX0_after_63 rfl rfl ?_
          exact wp_lret rfl dX0_after_64 ⟨_, rfl, hb⟩
        · have hb := hb.2 c7
          obtain ⟨i8, hb⟩ := hb
          refine wp_aload_n 1 dX0_after_53 rfl rfl ?_
          obtain ⟨i9, hb⟩ := hb
          refine wp_getR dX0_after_54 fl_X0_54 i8 (i9.ne (by decide)) ?_
          refine wp_iload 0 dX0_after_57 rfl ?_
          obtain ⟨b10, hb⟩ := hb
          refine wp_iaload dX0_after_59 i9 b10 ?_
          refine wp_if_ne (tgt := 65) dX0_after_60 (by decide) (fun c11 => ?_) (fun c11 => ?_)
          · have hb := hb.1 c11
            refine wp_lload_n 2 dX0_after_65 rfl rfl ?_
            refine wp_callSN (as := [.long x1]) dX0_after_66 cb_X3_ticksOf lk_X0_125 st_X3_ticksOf rfl (Nat.le_of_ble_eq_true rfl) ⟨by decide, by decide⟩ ⟨Nat.le_refl _, Nat.le_refl _, Nat.le_refl _⟩ hb (fun r0 h13 hb => ?_)
            obtain ⟨r14, rfl, hb⟩ := hb
            refine wp_iconst (v := 1) dX0_after_69 (by decide) ?_
            refine wp_iadd dX0_after_70 ?_
            refine wp_topi (fun v15 e16 => ?_)
            have hb := hb v15 e16
            refine wp_istore (lv2 := [(5, .int v15), (4, .int r6), (0, .ref x0), (1, .long x1), (3, .int x3)]) dX0_after_71 (by decide) rfl ?_
            refine wp_iload 0 dX0_after_73 rfl ?_
            refine wp_aload_n 2 dX0_after_75 rfl rfl ?_
            obtain ⟨i17, hb⟩ := hb
            refine wp_getR dX0_after_76 fl_X0_54 i8 (i17.ne (by decide)) ?_
            refine wp_iload 1 dX0_after_79 rfl ?_
            obtain ⟨b18, hb⟩ := hb
            refine wp_iaload dX0_after_81 i17 b18 ?_
            refine wp_icmp_ge (tgt := 92) dX0_after_82 (by decide) (fun c19 => ?_) (fun c19 => ?_)
            · have hb := hb.1 c19
              refine wp_aload_n 2 dX0_after_92 rfl rfl ?_
              refine wp_lload_n 3 dX0_after_93 rfl rfl ?_
              refine wp_iconst (v := 0) dX0_after_94 (by decide) ?_
              refine wp_callSN (as := [.long x1, .int 0]) dX0_after_95 cb_X3_withTicks lk_X0_128 st_X3_withTicks rfl (Nat.le_of_ble_eq_true rfl) ⟨by decide, by decide⟩ ⟨Nat.le_refl _, Nat.le_refl _, Nat.le_refl _⟩ hb (fun r0 h21 hb => ?_)
              obtain ⟨r22, rfl, hb⟩ := hb
              refine wp_iload 1 dX0_after_98 rfl ?_
              refine wp_callSN (as := [.int r6]) dX0_after_100 cb_X5_ofTimer lk_X0_89 st_X5_ofTimer rfl (Nat.le_of_ble_eq_true rfl) ⟨by decide, by decide⟩ ⟨Nat.le_refl _, Nat.le_refl _, Nat.le_refl _⟩ hb (fun r0 h24 hb => ?_)
              obtain ⟨r25, rfl, hb⟩ := hb
              refine wp_callV (as := [.long r22, .int r25]) dX0_after_103 cb_X0_afterDeeds lk_X0_121 im_X0_afterDeeds se_X0_afterDeeds rfl (Nat.le_of_ble_eq_true rfl) ⟨by decide, by decide⟩ ⟨Nat.le_refl _, Nat.le_refl _, Nat.le_refl _⟩ i8 rfl (by decide) hb (fun r0 h27 hb => ?_)
              obtain ⟨r28, rfl, hb⟩ := hb
              exact wp_lret rfl dX0_after_106 ⟨_, rfl, hb⟩
            · have hb := hb.2 c19
              refine wp_lload_n 3 dX0_after_85 rfl rfl ?_
              refine wp_iload 0 dX0_after_86 rfl ?_
              refine wp_callSN (as := [.long x1, .int v15]) dX0_after_88 cb_X3_withTicks lk_X0_128 st_X3_withTicks rfl (Nat.le_of_ble_eq_true rfl) ⟨by decide, by decide⟩ ⟨Nat.le_refl _, Nat.le_refl _, Nat.le_refl _⟩ hb (fun r0 h30 hb => ?_)
              obtain ⟨r31, rfl, hb⟩ := hb
              exact wp_lret rfl dX0_after_91 ⟨_, rfl, hb⟩
          · have hb := hb.2 c11
            refine wp_lload_n 2 dX0_after_63 rfl rfl ?_
            exact wp_lret rfl dX0_after_64 ⟨_, rfl, hb⟩
      · have hb := hb.2 c3
        obtain ⟨i32, hb⟩ := hb
        refine wp_aload_n 0 dX0_after_34 rfl rfl ?_
        refine wp_lload_n 1 dX0_after_35 rfl rfl ?_
        refine wp_iload_n 2 dX0_after_36 rfl rfl ?_
        refine wp_callV (as := [.long x1, .int x3]) dX0_after_37 cb_X0_afterDeeds lk_X0_121 im_X0_afterDeeds se_X0_afterDeeds rfl (Nat.le_of_ble_eq_true rfl) ⟨by decide, by decide⟩ ⟨Nat.le_refl _, Nat.le_refl _, Nat.le_refl _⟩ i32 rfl (by decide) hb (fun r0 h34 hb => ?_)
        obtain ⟨r35, rfl, hb⟩ := hb
        exact wp_lret rfl dX0_after_40 ⟨_, rfl, hb⟩
    · have hb := hb.2 c2
      refine wp_lload_n 1 dX0_after_23 rfl rfl ?_
      refine wp_callSN (as := [.long x1]) dX0_after_24 cb_X3_closed lk_X0_117 st_X3_closed rfl (Nat.le_of_ble_eq_true rfl) ⟨by decide, by decide⟩ ⟨Nat.le_refl _, Nat.le_refl _, Nat.le_refl _⟩ hb (fun r0 h37 hb => ?_)
      obtain ⟨r38, rfl, hb⟩ := hb
      exact wp_lret rfl dX0_after_27 ⟨_, rfl, hb⟩
  · have hb := hb.2 c1
    refine wp_iconst (v := 0) dX0_after_6 (by decide) ?_
    refine wp_lload_n 1 dX0_after_7 rfl rfl ?_
    obtain ⟨i39, hb⟩ := hb
    refine wp_aload_n 0 dX0_after_8 rfl rfl ?_
    refine wp_getL dX0_after_9 fl_X0_30 i39 ?_
    refine wp_land dX0_after_12 ?_
    refine wp_callSN (as := [.int 0, .long (x1 &&& (h.2.1 x0 6))]) dX0_after_13 cb_X3_alone lk_X0_98 st_X3_alone rfl (Nat.le_of_ble_eq_true rfl) ⟨by decide, by decide⟩ ⟨Nat.le_refl _, Nat.le_refl _, Nat.le_refl _⟩ hb (fun r0 h41 hb => ?_)
    obtain ⟨r42, rfl, hb⟩ := hb
    exact wp_lret rfl dX0_after_16 ⟨_, rfl, hb⟩
theorem c_X0_after {l : Launch} {g : AG} {h : AH} {x0 : Nat} {x1 : Int64} {x3 : Int32}  {Q : Int64 → AH → Prop} (hb : L_X0_after_0 l g h x0 x1 x3  Q) : C_X0_after l g h x0 x1 x3  Q := ax_met rfl (Nat.le_of_ble_eq_true rfl) hb
def C_X9_act (l : Launch) (g : AG) (h : AH) (x0 : Nat) (x1 : Int32) (x2 : Int32)  (Q : Int32 → AH → Prop) : Prop := Ct l g mX9_act 4 101 194 194 h [.ref x0, .int x1, .int x2] (ax_QI Q)
def L_X9_act_0 (l : Launch) (g : AG) (h : AH) (x0 : Nat) (x1 : Int32) (x2 : Int32)  (Q : Int32 → AH → Prop) : Prop := Wp l g mX9_act 4 101 194 194 194 0 [(0, .ref x0), (1, .int x1), (2, .int x2)] [] h (FM g 194 194 (ax_QI Q))
set_option maxRecDepth 100000 in
set_option maxHeartbeats 4000000 in
theorem s_X9_act_0 {l : Launch} {g : AG} {h : AH} {x0 : Nat} {x1 : Int32} {x2 : Int32}  {Q : Int32 → AH → Prop} (hb : (Is 194 x0 8) ∧ ( C_X9_has l g h x0 x1 (fun r4 h3 => ( ((¬ r4 = 0 → (((x2 < 0 → (C_X9_refused l g h3 x0 2 (fun r9 h8 => ( Q r9 h8)))) ∧ (¬ (x2 < 0) → (((x2 < 27 → ((Is 194 (h3.2.2 x0 2) 24) ∧ ( (vp_in x1 (ax_s (h3.2.2 x0 2)).2) ∧ ( (Is 194 (h3.2.2 (h3.2.2 x0 2) x1.toNatClampNeg) 0) ∧ ( (Is 194 (h3.2.2 x0 5) 21) ∧ ( (vp_in x1 (ax_s (h3.2.2 x0 5)).2) ∧ ( C_X0_possible l g h3 (h3.2.2 (h3.2.2 x0 2) x1.toNatClampNeg) (h3.2.1 (h3.2.2 x0 5) x1.toNatClampNeg) x2 (fun r18 h17 => ( ((¬ r18 = 0 → ((Is 194 (h17.2.2 x0 5) 21) ∧ ( (Is 194 (h17.2.2 x0 2) 24) ∧ ( (vp_in x1 (ax_s (h17.2.2 x0 2)).2) ∧ ( (Is 194 (h17.2.2 (h17.2.2 x0 2) x1.toNatClampNeg) 0) ∧ ( (Is 194 (h17.2.2 x0 5) 21) ∧ ( (vp_in x1 (ax_s (h17.2.2 x0 5)).2) ∧ ( C_X0_after l g h17 (h17.2.2 (h17.2.2 x0 2) x1.toNatClampNeg) (h17.2.1 (h17.2.2 x0 5) x1.toNatClampNeg) x2 (fun r28 h27 => ( (vp_in x1 (ax_s (h17.2.2 x0 5)).2) ∧ ( ∀ h30 : AH, h30 = ax_setL h27 (h17.2.2 x0 5) x1.toNatClampNeg r28 → ( C_X9_granted l g h30 x0 1 (fun r34 h33 => ( Q r34 h33)))))))))))))) ∧ (r18 = 0 → (C_X9_refused l g h17 x0 4 (fun r37 h36 => ( Q r37 h36)))))))))))))) ∧ (¬ (x2 < 27) → (C_X9_refused l g h3 x0 2 (fun r40 h39 => ( Q r40 h39)))))))))) ∧ (r4 = 0 → (C_X9_refused l g h3 x0 1 (fun r43 h42 => ( Q r43 h42))))))))) : L_X9_act_0 l g h x0 x1 x2  Q := by
  obtain ⟨i1, hb⟩ := hb
  refine wp_aload_n 0 dX9_act_0 rfl rfl ?_
  refine wp_iload_n 1 dX9_act_1 rfl rfl ?_
  refine wp_callV (as := [.int x1]) dX9_act_2 cb_X9_has lk_X9_106 im_X9_has se_X9_has rfl (Nat.le_of_ble_eq_true rfl) ⟨by decide, by decide⟩ ⟨Nat.le_refl _, Nat.le_refl _, Nat.le_refl _⟩ i1 rfl (by decide) hb (fun r0 h3 hb => ?_)
  obtain ⟨r4, rfl, hb⟩ := hb
  refine wp_if_ne (tgt := 14) dX9_act_5 (by decide) (fun c5 => ?_) (fun c5 => ?_)
  · have hb := hb.1 c5
    refine wp_iload_n 2 dX9_act_14 rfl rfl ?_
    refine wp_if_lt (tgt := 24) dX9_act_15 (by decide) (fun c6 => ?_) (fun c6 => ?_)
    · have hb := hb.1 c6
      refine wp_aload_n 0 dX9_act_24 rfl rfl ?_
      refine wp_iconst (v := 2) dX9_act_25 (by decide) ?_
      refine wp_callV (as := [.int 2]) dX9_act_26 cb_X9_refused lk_X9_76 im_X9_refused se_X9_refused rfl (Nat.le_of_ble_eq_true rfl) ⟨by decide, by decide⟩ ⟨Nat.le_refl _, Nat.le_refl _, Nat.le_refl _⟩ i1 rfl (by decide) hb (fun r0 h8 hb => ?_)
      obtain ⟨r9, rfl, hb⟩ := hb
      exact wp_iret rfl dX9_act_29 ⟨_, rfl, hb⟩
    · have hb := hb.2 c6
      refine wp_iload_n 2 dX9_act_18 rfl rfl ?_
      refine wp_bipush (v := 27) dX9_act_19 (by decide) ?_
      refine wp_icmp_lt (tgt := 30) dX9_act_21 (by decide) (fun c10 => ?_) (fun c10 => ?_)
      · have hb := hb.1 c10
        refine wp_aload_n 0 dX9_act_30 rfl rfl ?_
        obtain ⟨i11, hb⟩ := hb
        refine wp_getR dX9_act_31 fl_X9_20 i1 (i11.ne (by decide)) ?_
        refine wp_iload_n 1 dX9_act_34 rfl rfl ?_
        obtain ⟨b12, hb⟩ := hb
        obtain ⟨i13, hb⟩ := hb
        refine wp_aaload24 dX9_act_35 i11 b12 (i13.ne (by decide)) ?_
        refine wp_aload_n 0 dX9_act_36 rfl rfl ?_
        obtain ⟨i14, hb⟩ := hb
        refine wp_getR dX9_act_37 fl_X9_37 i1 (i14.ne (by decide)) ?_
        refine wp_iload_n 1 dX9_act_40 rfl rfl ?_
        obtain ⟨b15, hb⟩ := hb
        refine wp_laload dX9_act_41 i14 b15 ?_
        refine wp_iload_n 2 dX9_act_42 rfl rfl ?_
        refine wp_callVN (as := [.long (h3.2.1 (h3.2.2 x0 5) x1.toNatClampNeg), .int x2]) dX9_act_43 cb_X0_possible lk_X9_144 im_X0_possible se_X0_possible rfl (Nat.le_of_ble_eq_true rfl) ⟨by decide, by decide⟩ ⟨Nat.le_refl _, Nat.le_refl _, Nat.le_refl _⟩ i13 rfl (by decide) hb (fun r0 h17 hb => ?_)
        obtain ⟨r18, rfl, hb⟩ := hb
        refine wp_if_ne (tgt := 55) dX9_act_46 (by decide) (fun c19 => ?_) (fun c19 => ?_)
        · have hb := hb.1 c19
          refine wp_aload_n 0 dX9_act_55 rfl rfl ?_
          obtain ⟨i20, hb⟩ := hb
          refine wp_getR dX9_act_56 fl_X9_37 i1 (i20.ne (by decide)) ?_
          refine wp_iload_n 1 dX9_act_59 rfl rfl ?_
          refine wp_aload_n 0 dX9_act_60 rfl rfl ?_
          obtain ⟨i21, hb⟩ := hb
          refine wp_getR dX9_act_61 fl_X9_20 i1 (i21.ne (by decide)) ?_
          refine wp_iload_n 1 dX9_act_64 rfl rfl ?_
          obtain ⟨b22, hb⟩ := hb
          obtain ⟨i23, hb⟩ := hb
          refine wp_aaload24 dX9_act_65 i21 b22 (i23.ne (by decide)) ?_
          refine wp_aload_n 0 dX9_act_66 rfl rfl ?_
          obtain ⟨i24, hb⟩ := hb
          refine wp_getR dX9_act_67 fl_X9_37 i1 (i24.ne (by decide)) ?_
          refine wp_iload_n 1 dX9_act_70 rfl rfl ?_
          obtain ⟨b25, hb⟩ := hb
          refine wp_laload dX9_act_71 i24 b25 ?_
          refine wp_iload_n 2 dX9_act_72 rfl rfl ?_
          refine wp_callVN (as := [.long (h17.2.1 (h17.2.2 x0 5) x1.toNatClampNeg), .int x2]) dX9_act_73 cb_X0_after lk_X9_148 im_X0_after se_X0_after rfl (Nat.le_of_ble_eq_true rfl) ⟨by decide, by decide⟩ ⟨Nat.le_refl _, Nat.le_refl _, Nat.le_refl _⟩ i23 rfl (by decide) hb (fun r0 h27 hb => ?_)
          obtain ⟨r28, rfl, hb⟩ := hb
          obtain ⟨b29, hb⟩ := hb
          refine wp_lastore dX9_act_76 i20 b29 ?_
          refine wp_topH (fun h30 e31 => ?_)
          have hb := hb h30 e31
          refine wp_aload_n 0 dX9_act_77 rfl rfl ?_
          refine wp_iconst (v := 1) dX9_act_78 (by decide) ?_
          refine wp_callV (as := [.int 1]) dX9_act_79 cb_X9_granted lk_X9_97 im_X9_granted se_X9_granted rfl (Nat.le_of_ble_eq_true rfl) ⟨by decide, by decide⟩ ⟨Nat.le_refl _, Nat.le_refl _, Nat.le_refl _⟩ i1 rfl (by decide) hb (fun r0 h33 hb => ?_)
          obtain ⟨r34, rfl, hb⟩ := hb
          exact wp_iret rfl dX9_act_82 ⟨_, rfl, hb⟩
        · have hb := hb.2 c19
          refine wp_aload_n 0 dX9_act_49 rfl rfl ?_
          refine wp_iconst (v := 4) dX9_act_50 (by decide) ?_
          refine wp_callV (as := [.int 4]) dX9_act_51 cb_X9_refused lk_X9_76 im_X9_refused se_X9_refused rfl (Nat.le_of_ble_eq_true rfl) ⟨by decide, by decide⟩ ⟨Nat.le_refl _, Nat.le_refl _, Nat.le_refl _⟩ i1 rfl (by decide) hb (fun r0 h36 hb => ?_)
          obtain ⟨r37, rfl, hb⟩ := hb
          exact wp_iret rfl dX9_act_54 ⟨_, rfl, hb⟩
      · have hb := hb.2 c10
        refine wp_aload_n 0 dX9_act_24 rfl rfl ?_
        refine wp_iconst (v := 2) dX9_act_25 (by decide) ?_
        refine wp_callV (as := [.int 2]) dX9_act_26 cb_X9_refused lk_X9_76 im_X9_refused se_X9_refused rfl (Nat.le_of_ble_eq_true rfl) ⟨by decide, by decide⟩ ⟨Nat.le_refl _, Nat.le_refl _, Nat.le_refl _⟩ i1 rfl (by decide) hb (fun r0 h39 hb => ?_)
        obtain ⟨r40, rfl, hb⟩ := hb
        exact wp_iret rfl dX9_act_29 ⟨_, rfl, hb⟩
  · have hb := hb.2 c5
    refine wp_aload_n 0 dX9_act_8 rfl rfl ?_
    refine wp_iconst (v := 1) dX9_act_9 (by decide) ?_
    refine wp_callV (as := [.int 1]) dX9_act_10 cb_X9_refused lk_X9_76 im_X9_refused se_X9_refused rfl (Nat.le_of_ble_eq_true rfl) ⟨by decide, by decide⟩ ⟨Nat.le_refl _, Nat.le_refl _, Nat.le_refl _⟩ i1 rfl (by decide) hb (fun r0 h42 hb => ?_)
    obtain ⟨r43, rfl, hb⟩ := hb
    exact wp_iret rfl dX9_act_13 ⟨_, rfl, hb⟩
theorem c_X9_act {l : Launch} {g : AG} {h : AH} {x0 : Nat} {x1 : Int32} {x2 : Int32}  {Q : Int32 → AH → Prop} (hb : L_X9_act_0 l g h x0 x1 x2  Q) : C_X9_act l g h x0 x1 x2  Q := ax_met rfl (Nat.le_of_ble_eq_true rfl) hb
