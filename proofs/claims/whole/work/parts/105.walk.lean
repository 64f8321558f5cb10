def C_X3_ticksOf (l : Launch) (g : AG) (h : AH) (x0 : Int64)  (Q : Int32 → AH → Prop) : Prop := Ct l g mX3_ticksOf 1 21 194 194 h [.long x0] (ax_QI Q)
def L_X3_ticksOf_0 (l : Launch) (g : AG) (h : AH) (x0 : Int64)  (Q : Int32 → AH → Prop) : Prop := Wp l g mX3_ticksOf 1 21 194 194 194 0 [(0, .long x0)] [] h (FM g 194 194 (ax_QI Q))
set_option maxRecDepth 100000 in
set_option maxHeartbeats 4000000 in
theorem s_X3_ticksOf_0 {l : Launch} {g : AG} {h : AH} {x0 : Int64}  {Q : Int32 → AH → Prop} (hb : C_X3_openOf l g h x0 (fun r3 h2 => ( ((r3 ≤ 0 → (Q (-1) h2)) ∧ (¬ (r3 ≤ 0) → (Q (((jlushr x0 27).toInt32) &&& 15) h2)))))) : L_X3_ticksOf_0 l g h x0  Q := by
  refine wp_lload_n 0 dX3_ticksOf_0 rfl rfl ?_
  refine wp_callS (as := [.long x0]) dX3_ticksOf_1 cb_X3_openOf lk_X3_17 st_X3_openOf rfl (Nat.le_of_ble_eq_true rfl) ⟨by decide, by decide⟩ ⟨Nat.le_refl _, Nat.le_refl _, Nat.le_refl _⟩ hb (fun r0 h2 hb => ?_)
  obtain ⟨r3, rfl, hb⟩ := hb
  refine wp_if_le (tgt := 18) dX3_ticksOf_4 (by decide) (fun c4 => ?_) (fun c4 => ?_)
  · have hb := hb.1 c4
    refine wp_iconst (v := (-1)) dX3_ticksOf_18 (by decide) ?_
    exact wp_iret rfl dX3_ticksOf_19 ⟨_, rfl, hb⟩
  · have hb := hb.2 c4
    refine wp_lload_n 0 dX3_ticksOf_7 rfl rfl ?_
    refine wp_bipush (v := 27) dX3_ticksOf_8 (by decide) ?_
    refine wp_lushr dX3_ticksOf_10 ?_
    refine wp_l2i dX3_ticksOf_11 ?_
    refine wp_bipush (v := 15) dX3_ticksOf_12 (by decide) ?_
    refine wp_iand dX3_ticksOf_14 ?_
    refine wp_goto (tgt := 19) dX3_ticksOf_15 (by decide) ?_
    exact wp_iret rfl dX3_ticksOf_19 ⟨_, rfl, hb⟩
theorem c_X3_ticksOf {l : Launch} {g : AG} {h : AH} {x0 : Int64}  {Q : Int32 → AH → Prop} (hb : L_X3_ticksOf_0 l g h x0  Q) : C_X3_ticksOf l g h x0  Q := ax_met rfl rfl (Nat.le_of_ble_eq_true rfl) hb
def C_X3_withTicks (l : Launch) (g : AG) (h : AH) (x0 : Int64) (x2 : Int32)  (Q : Int64 → AH → Prop) : Prop := Ct l g mX3_withTicks 0 0 194 194 h [.long x0, .int x2] (ax_QL Q)
def L_X3_withTicks_0 (l : Launch) (g : AG) (h : AH) (x0 : Int64) (x2 : Int32)  (Q : Int64 → AH → Prop) : Prop := Wp l g mX3_withTicks 0 0 194 194 194 0 [(0, .long x0), (2, .int x2)] [] h (FM g 194 194 (ax_QL Q))
set_option maxRecDepth 100000 in
set_option maxHeartbeats 4000000 in
theorem s_X3_withTicks_0 {l : Launch} {g : AG} {h : AH} {x0 : Int64} {x2 : Int32}  {Q : Int64 → AH → Prop} (hb : Q ((x0 &&& (-2013265921)) ||| (jlshl x2.toInt64 27)) h) : L_X3_withTicks_0 l g h x0 x2  Q := by
  refine wp_lload_n 0 dX3_withTicks_0 rfl rfl ?_
  refine wp_ldc2 (v := (-2013265921)) dX3_withTicks_1 lk_X3_25 ?_
  refine wp_land dX3_withTicks_4 ?_
  refine wp_iload_n 1 dX3_withTicks_5 rfl rfl ?_
  refine wp_i2l dX3_withTicks_6 ?_
  refine wp_bipush (v := 27) dX3_withTicks_7 (by decide) ?_
  refine wp_lshl dX3_withTicks_9 ?_
  refine wp_lor dX3_withTicks_10 ?_
  exact wp_lret rfl dX3_withTicks_11 ⟨_, rfl, hb⟩
theorem c_X3_withTicks {l : Launch} {g : AG} {h : AH} {x0 : Int64} {x2 : Int32}  {Q : Int64 → AH → Prop} (hb : L_X3_withTicks_0 l g h x0 x2  Q) : C_X3_withTicks l g h x0 x2  Q := ax_met rfl rfl (Nat.le_of_ble_eq_true rfl) hb
def C_X0_after (l : Launch) (g : AG) (h : AH) (x0 : Nat) (x1 : Int64) (x3 : Int32)  (Q : Int64 → AH → Prop) : Prop := Ct l g mX0_after 3 76 194 194 h [.ref x0, .long x1, .int x3] (ax_QL Q)
def L_X0_after_0 (l : Launch) (g : AG) (h : AH) (x0 : Nat) (x1 : Int64) (x3 : Int32)  (Q : Int64 → AH → Prop) : Prop := Wp l g mX0_after 3 76 194 194 194 0 [(0, .ref x0), (1, .long x1), (3, .int x3)] [] h (FM g 194 194 (ax_QL Q))
set_option maxRecDepth 100000 in
set_option maxHeartbeats 4000000 in
theorem s_X0_after_0 {l : Launch} {g : AG} {h : AH} {x0 : Nat} {x1 : Int64} {x3 : Int32}  {Q : Int64 → AH → Prop} (hb : ((¬ x3 = 26 → (((¬ x3 = 25 → (((x3 = 24 → (C_X3_topOf l g h x1 (fun r6 h5 => ( ((r6 = (-1) → (Q x1 h5)) ∧ (¬ (r6 = (-1)) → ((Is 194 x0 0) ∧ ( (Is 194 (h5.2.2 x0 13) 20) ∧ ( (vp_in r6 (ax_s (h5.2.2 x0 13)).2) ∧ ( ((¬ h5.1 (h5.2.2 x0 13) r6.toNatClampNeg = 0 → (C_X3_ticksOf l g h5 x1 (fun r14 h13 => ( ∀ v15 : Int32, v15 = (r14 + 1) → ( (Is 194 (h13.2.2 x0 13) 20) ∧ ( (vp_in r6 (ax_s (h13.2.2 x0 13)).2) ∧ ( ((h13.1 (h13.2.2 x0 13) r6.toNatClampNeg ≤ v15 → (C_X3_withTicks l g h13 x1 0 (fun r22 h21 => ( C_X5_ofTimer l g h21 r6 (fun r25 h24 => ( C_X0_afterDeeds l g h24 x0 r22 r25 (fun r28 h27 => ( Q r28 h27)))))))) ∧ (¬ (h13.1 (h13.2.2 x0 13) r6.toNatClampNeg ≤ v15) → (C_X3_withTicks l g h13 x1 v15 (fun r31 h30 => ( Q r31 h30)))))))))))) ∧ (h5.1 (h5.2.2 x0 13) r6.toNatClampNeg = 0 → (Q x1 h5))))))))))))) ∧ (¬ (x3 = 24) → ((Is 194 x0 0) ∧ ( C_X0_afterDeeds l g h x0 x1 x3 (fun r35 h34 => ( Q r35 h34)))))))) ∧ (x3 = 25 → (C_X3_closed l g h x1 (fun r38 h37 => ( Q r38 h37))))))) ∧ (x3 = 26 → ((Is 194 x0 0) ∧ ( C_X3_alone l g h 0 (x1 &&& (h.2.1 x0 6)) (fun r42 h41 => ( Q r42 h41))))))) : L_X0_after_0 l g h x0 x1 x3  Q := by
  refine wp_iload_n 2 dX0_after_0 rfl rfl ?_
  refine wp_bipush (v := 26) dX0_after_1 (by decide) ?_
  refine wp_icmp_ne (tgt := 17) dX0_after_3 (by decide) (fun c1 => ?_) (fun c1 => ?_)
  · have hb := hb.1 c1
    refine wp_iload_n 2 dX0_after_17 rfl rfl ?_
    refine wp_bipush (v := 25) dX0_after_18 (by decide) ?_
    refine wp_icmp_ne (tgt := 28) dX0_after_20 (by decide) (fun c2 => ?_) (fun c2 => ?_)
    · have hb := hb.1 c2
      refine wp_iload_n 2 dX0_after_28 rfl rfl ?_
      refine wp_bipush (v := 24) dX0_after_29 (by decide) ?_
      refine wp_icmp_eq (tgt := 41) dX0_after_31 (by decide) (fun c3 => ?_) (fun c3 => ?_)
      · have hb := hb.1 c3
        refine wp_lload_n 1 dX0_after_41 rfl rfl ?_
        refine wp_callSN (as := [.long x1]) dX0_after_42 cb_X3_topOf lk_X0_102 st_X3_topOf rfl (Nat.le_of_ble_eq_true rfl) ⟨by decide, by decide⟩ ⟨Nat.le_refl _, Nat.le_refl _, Nat.le_refl _⟩ hb (fun r0 h5 hb => ?_)
        obtain ⟨r6, rfl, hb⟩ := hb
        refine wp_istore (lv2 := [(4, .int r6), (0, .ref x0), (1, .long x1), (3, .int x3)]) dX0_after_45 (by decide) rfl ?_
        refine wp_iload 0 dX0_after_47 rfl ?_
        refine wp_iconst (v := (-1)) dX0_after_49 (by decide) ?_
        refine wp_icmp_eq (tgt := 63) dX0_after_50 (by decide) (fun c7 => ?_) (fun c7 => ?_)
        · have hb := hb.1 c7
          refine wp_lload_n 2 dX0_after_63 rfl rfl ?_
          exact wp_lret rfl dX0_after_64 ⟨_, rfl, hb⟩
        · have hb := hb.2 c7
          obtain ⟨i8, hb⟩ := hb
          refine wp_aload_n 1 dX0_after_53 rfl rfl ?_
          obtain ⟨i9, hb⟩ := hb
          refine wp_getR dX0_after_54 fl_X0_54 i8 (i9.ne (by decide)) ?_
          refine wp_iload 0 dX0_after_57 rfl ?_
          obtain ⟨b10, hb⟩ := hb
          refine wp_iaload dX0_after_59 i9 b10 ?_
          refine wp_if_ne (tgt := 65) dX0_after_60 (by decide) (fun c11 => ?_) (fun c11 => ?_)
          · have hb := hb.1 c11
            refine wp_lload_n 2 dX0_after_65 rfl rfl ?_
            refine wp_callSN (as := [.long x1]) dX0_after_66 cb_X3_ticksOf lk_X0_125 st_X3_ticksOf rfl (Nat.le_of_ble_eq_true rfl) ⟨by decide, by decide⟩ ⟨Nat.le_refl _, Nat.le_refl _, Nat.le_refl _⟩ hb (fun r0 h13 hb => ?_)
            obtain ⟨r14, rfl, hb⟩ := hb
            refine wp_iconst (v := 1) dX0_after_69 (by decide) ?_
            refine wp_iadd dX0_after_70 ?_
            refine wp_topi (fun v15 e16 => ?_)
            have hb := hb v15 e16
            refine wp_istore (lv2 := [(5, .int v15), (4, .int r6), (0, .ref x0), (1, .long x1), (3, .int x3)]) dX0_after_71 (by decide) rfl ?_
            refine wp_iload 0 dX0_after_73 rfl ?_
            refine wp_aload_n 2 dX0_after_75 rfl rfl ?_
            obtain ⟨i17, hb⟩ := hb
            refine wp_getR dX0_after_76 fl_X0_54 i8 (i17.ne (by decide)) ?_
            refine wp_iload 1 dX0_after_79 rfl ?_
            obtain ⟨b18, hb⟩ := hb
            refine wp_iaload dX0_after_81 i17 b18 ?_
            refine wp_icmp_ge (tgt := 92) dX0_after_82 (by decide) (fun c19 => ?_) (fun c19 => ?_)
            · have hb := hb.1 c19
              refine wp_aload_n 2 dX0_after_92 rfl rfl ?_
              refine wp_lload_n 3 dX0_after_93 rfl rfl ?_
              refine wp_iconst (v := 0) dX0_after_94 (by decide) ?_
              refine wp_callSN (as := [.long x1, .int 0]) dX0_after_95 cb_X3_withTicks lk_X0_128 st_X3_withTicks rfl (Nat.le_of_ble_eq_true rfl) ⟨by decide, by decide⟩ ⟨Nat.le_refl _, Nat.le_refl _, Nat.le_refl _⟩ hb (fun r0 h21 hb => ?_)
              obtain ⟨r22, rfl, hb⟩ := hb
              refine wp_iload 1 dX0_after_98 rfl ?_
              refine wp_callSN (as := [.int r6]) dX0_after_100 cb_X5_ofTimer lk_X0_89 st_X5_ofTimer rfl (Nat.le_of_ble_eq_true rfl) ⟨by decide, by decide⟩ ⟨Nat.le_refl _, Nat.le_refl _, Nat.le_refl _⟩ hb (fun r0 h24 hb => ?_)
              obtain ⟨r25, rfl, hb⟩ := hb
              refine wp_callV (as := [.long r22, .int r25]) dX0_after_103 cb_X0_afterDeeds lk_X0_121 im_X0_afterDeeds se_X0_afterDeeds rfl (Nat.le_of_ble_eq_true rfl) ⟨by decide, by decide⟩ ⟨Nat.le_refl _, Nat.le_refl _, Nat.le_refl _⟩ i8 rfl (by decide) hb (fun r0 h27 hb => ?_)
              obtain ⟨r28, rfl, hb⟩ := hb
              exact wp_lret rfl dX0_after_106 ⟨_, rfl, hb⟩
            · have hb := hb.2 c19
              refine wp_lload_n 3 dX0_after_85 rfl rfl ?_
              refine wp_iload 0 dX0_after_86 rfl ?_
              refine wp_callSN (as := [.long x1, .int v15]) dX0_after_88 cb_X3_withTicks lk_X0_128 st_X3_withTicks rfl (Nat.le_of_ble_eq_true rfl) ⟨by decide, by decide⟩ ⟨Nat.le_refl _, Nat.le_refl _, Nat.le_refl _⟩ hb (fun r0 h30 hb => ?_)
              obtain ⟨r31, rfl, hb⟩ := hb
              exact wp_lret rfl dX0_after_91 ⟨_, rfl, hb⟩
          · have hb := hb.2 c11
            refine wp_lload_n 2 dX0_after_63 rfl rfl ?_
            exact wp_lret rfl dX0_after_64 ⟨_, rfl, hb⟩
      · have hb := hb.2 c3
        obtain ⟨i32, hb⟩ := hb
        refine wp_aload_n 0 dX0_after_34 rfl rfl ?_
        refine wp_lload_n 1 dX0_after_35 rfl rfl ?_
        refine wp_iload_n 2 dX0_after_36 rfl rfl ?_
        refine wp_callV (as := [.long x1, .int x3]) dX0_after_37 cb_X0_afterDeeds lk_X0_121 im_X0_afterDeeds se_X0_afterDeeds rfl (Nat.le_of_ble_eq_true rfl) ⟨by decide, by decide⟩ ⟨Nat.le_refl _, Nat.le_refl _, Nat.le_refl _⟩ i32 rfl (by decide) hb (fun r0 h34 hb => ?_)
        obtain ⟨r35, rfl, hb⟩ := hb
        exact wp_lret rfl dX0_after_40 ⟨_, rfl, hb⟩
    · have hb := hb.2 c2
      refine wp_lload_n 1 dX0_after_23 rfl rfl ?_
      refine wp_callSN (as := [.long x1]) dX0_after_24 cb_X3_closed lk_X0_117 st_X3_closed rfl (Nat.le_of_ble_eq_true rfl) ⟨by decide, by decide⟩ ⟨Nat.le_refl _, Nat.le_refl _, Nat.le_refl _⟩ hb (fun r0 h37 hb => ?_)
      obtain ⟨r38, rfl, hb⟩ := hb
      exact wp_lret rfl dX0_after_27 ⟨_, rfl, hb⟩
  · have hb := hb.2 c1
    refine wp_iconst (v := 0) dX0_after_6 (by decide) ?_
    refine wp_lload_n 1 dX0_after_7 rfl rfl ?_
    obtain ⟨i39, hb⟩ := hb
    refine wp_aload_n 0 dX0_after_8 rfl rfl ?_
    refine wp_getL dX0_after_9 fl_X0_30 i39 ?_
    refine wp_land dX0_after_12 ?_
    refine wp_callSN (as := [.int 0, .long (x1 &&& (h.2.1 x0 6))]) dX0_after_13 cb_X3_alone lk_X0_98 st_X3_alone rfl (Nat.le_of_ble_eq_true rfl) ⟨by decide, by decide⟩ ⟨Nat.le_refl _, Nat.le_refl _, Nat.le_refl _⟩ hb (fun r0 h41 hb => ?_)
    obtain ⟨r42, rfl, hb⟩ := hb
    exact wp_lret rfl dX0_after_16 ⟨_, rfl, hb⟩
theorem c_X0_after {l : Launch} {g : AG} {h : AH} {x0 : Nat} {x1 : Int64} {x3 : Int32}  {Q : Int64 → AH → Prop} (hb : L_X0_after_0 l g h x0 x1 x3  Q) : C_X0_after l g h x0 x1 x3  Q := ax_met rfl rfl (Nat.le_of_ble_eq_true rfl) hb
def C_X9_act (l : Launch) (g : AG) (h : AH) (x0 : Nat) (x1 : Int32) (x2 : Int32)  (Q : Int32 → AH → Prop) : Prop := Ct l g mX9_act 4 101 194 194 h [.ref x0, .int x1, .int x2] (ax_QI Q)
def L_X9_act_0 (l : Launch) (g : AG) (h : AH) (x0 : Nat) (x1 : Int32) (x2 : Int32)  (Q : Int32 → AH → Prop) : Prop := Wp l g mX9_act 4 101 194 194 194 0 [(0, .ref x0), (1, .int x1), (2, .int x2)] [] h (FM g 194 194 (ax_QI Q))
set_option maxRecDepth 100000 in
set_option maxHeartbeats 4000000 in
theorem s_X9_act_0 {l : Launch} {g : AG} {h : AH} {x0 : Nat} {x1 : Int32} {x2 : Int32}  {Q : Int32 → AH → Prop} (hb : (Is 194 x0 8) ∧ ( C_X9_has l g h x0 x1 (fun r4 h3 => ( ((¬ r4 = 0 → (((x2 < 0 → (C_X9_refused l g h3 x0 2 (fun r9 h8 => ( Q r9 h8)))) ∧ (¬ (x2 < 0) → (((x2 < 27 → ((Is 194 (h3.2.2 x0 2) 24) ∧ ( (vp_in x1 (ax_s (h3.2.2 x0 2)).2) ∧ ( (Is 194 (h3.2.2 (h3.2.2 x0 2) x1.toNatClampNeg) 0) ∧ ( (Is 194 (h3.2.2 x0 5) 21) ∧ ( (vp_in x1 (ax_s (h3.2.2 x0 5)).2) ∧ ( C_X0_possible l g h3 (h3.2.2 (h3.2.2 x0 2) x1.toNatClampNeg) (h3.2.1 (h3.2.2 x0 5) x1.toNatClampNeg) x2 (fun r18 h17 => ( ((¬ r18 = 0 → ((Is 194 (h17.2.2 x0 5) 21) ∧ ( (Is 194 (h17.2.2 x0 2) 24) ∧ ( (vp_in x1 (ax_s (h17.2.2 x0 2)).2) ∧ ( (Is 194 (h17.2.2 (h17.2.2 x0 2) x1.toNatClampNeg) 0) ∧ ( (Is 194 (h17.2.2 x0 5) 21) ∧ ( (vp_in x1 (ax_s (h17.2.2 x0 5)).2) ∧ ( C_X0_after l g h17 (h17.2.2 (h17.2.2 x0 2) x1.toNatClampNeg) (h17.2.1 (h17.2.2 x0 5) x1.toNatClampNeg) x2 (fun r28 h27 => ( (vp_in x1 (ax_s (h17.2.2 x0 5)).2) ∧ ( ∀ h30 : AH, h30 = ax_setL h27 (h17.2.2 x0 5) x1.toNatClampNeg r28 → ( C_X9_granted l g h30 x0 1 (fun r34 h33 => ( Q r34 h33)))))))))))))) ∧ (r18 = 0 → (C_X9_refused l g h17 x0 4 (fun r37 h36 => ( Q r37 h36)))))))))))))) ∧ (¬ (x2 < 27) → (C_X9_refused l g h3 x0 2 (fun r40 h39 => ( Q r40 h39)))))))))) ∧ (r4 = 0 → (C_X9_refused l g h3 x0 1 (fun r43 h42 => ( Q r43 h42))))))))) : L_X9_act_0 l g h x0 x1 x2  Q := by
  obtain ⟨i1, hb⟩ := hb
  refine wp_aload_n 0 dX9_act_0 rfl rfl ?_
  refine wp_iload_n 1 dX9_act_1 rfl rfl ?_
  refine wp_callV (as := [.int x1]) dX9_act_2 cb_X9_has lk_X9_106 im_X9_has se_X9_has rfl (Nat.le_of_ble_eq_true rfl) ⟨by decide, by decide⟩ ⟨Nat.le_refl _, Nat.le_refl _, Nat.le_refl _⟩ i1 rfl (by decide) hb (fun r0 h3 hb => ?_)
  obtain ⟨r4, rfl, hb⟩ := hb
  refine wp_if_ne (tgt := 14) dX9_act_5 (by decide) (fun c5 => ?_) (fun c5 => ?_)
  · have hb := hb.1 c5
    refine wp_iload_n 2 dX9_act_14 rfl rfl ?_
    refine wp_if_lt (tgt := 24) dX9_act_15 (by decide) (fun c6 => ?_) (fun c6 => ?_)
    · have hb := hb.1 c6
      refine wp_aload_n 0 dX9_act_24 rfl rfl ?_
      refine wp_iconst (v := 2) dX9_act_25 (by decide) ?_
      refine wp_callV (as := [.int 2]) dX9_act_26 cb_X9_refused lk_X9_76 im_X9_refused se_X9_refused rfl (Nat.le_of_ble_eq_true rfl) ⟨by decide, by decide⟩ ⟨Nat.le_refl _, Nat.le_refl _, Nat.le_refl _⟩ i1 rfl (by decide) hb (fun r0 h8 hb => ?_)
      obtain ⟨r9, rfl, hb⟩ := hb
      exact wp_iret rfl dX9_act_29 ⟨_, rfl, hb⟩
    · have hb := hb.2 c6
      refine wp_iload_n 2 dX9_act_18 rfl rfl ?_
      refine wp_bipush (v := 27) dX9_act_19 (by decide) ?_
      refine wp_icmp_lt (tgt := 30) dX9_act_21 (by decide) (fun c10 => ?_) (fun c10 => ?_)
      · have hb := hb.1 c10
        refine wp_aload_n 0 dX9_act_30 rfl rfl ?_
        obtain ⟨i11, hb⟩ := hb
        refine wp_getR dX9_act_31 fl_X9_20 i1 (i11.ne (by decide)) ?_
        refine wp_iload_n 1 dX9_act_34 rfl rfl ?_
        obtain ⟨b12, hb⟩ := hb
        obtain ⟨i13, hb⟩ := hb
        refine wp_aaload24 dX9_act_35 i11 b12 (i13.ne (by decide)) ?_
        refine wp_aload_n 0 dX9_act_36 rfl rfl ?_
        obtain ⟨i14, hb⟩ := hb
        refine wp_getR dX9_act_37 fl_X9_37 i1 (i14.ne (by decide)) ?_
        refine wp_iload_n 1 dX9_act_40 rfl rfl ?_
        obtain ⟨b15, hb⟩ := hb
        refine wp_laload dX9_act_41 i14 b15 ?_
        refine wp_iload_n 2 dX9_act_42 rfl rfl ?_
        refine wp_callVN (as := [.long (h3.2.1 (h3.2.2 x0 5) x1.toNatClampNeg), .int x2]) dX9_act_43 cb_X0_possible lk_X9_144 im_X0_possible se_X0_possible rfl (Nat.le_of_ble_eq_true rfl) ⟨by decide, by decide⟩ ⟨Nat.le_refl _, Nat.le_refl _, Nat.le_refl _⟩ i13 rfl (by decide) hb (fun r0 h17 hb => ?_)
        obtain ⟨r18, rfl, hb⟩ := hb
        refine wp_if_ne (tgt := 55) dX9_act_46 (by decide) (fun c19 => ?_) (fun c19 => ?_)
        · have hb := hb.1 c19
          refine wp_aload_n 0 dX9_act_55 rfl rfl ?_
          obtain ⟨i20, hb⟩ := hb
          refine wp_getR dX9_act_56 fl_X9_37 i1 (i20.ne (by decide)) ?_
          refine wp_iload_n 1 dX9_act_59 rfl rfl ?_
          refine wp_aload_n 0 dX9_act_60 rfl rfl ?_
          obtain ⟨i21, hb⟩ := hb
          refine wp_getR dX9_act_61 fl_X9_20 i1 (i21.ne (by decide)) ?_
          refine wp_iload_n 1 dX9_act_64 rfl rfl ?_
          obtain ⟨b22, hb⟩ := hb
          obtain ⟨i23, hb⟩ := hb
          refine wp_aaload24 dX9_act_65 i21 b22 (i23.ne (by decide)) ?_
          refine wp_aload_n 0 dX9_act_66 rfl rfl ?_
          obtain ⟨i24, hb⟩ := hb
          refine wp_getR dX9_act_67 fl_X9_37 i1 (i24.ne (by decide)) ?_
          refine wp_iload_n 1 dX9_act_70 rfl rfl ?_
          obtain ⟨b25, hb⟩ := hb
          refine wp_laload dX9_act_71 i24 b25 ?_
          refine wp_iload_n 2 dX9_act_72 rfl rfl ?_
          refine wp_callVN (as := [.long (h17.2.1 (h17.2.2 x0 5) x1.toNatClampNeg), .int x2]) dX9_act_73 cb_X0_after lk_X9_148 im_X0_after se_X0_after rfl (Nat.le_of_ble_eq_true rfl) ⟨by decide, by decide⟩ ⟨Nat.le_refl _, Nat.le_refl _, Nat.le_refl _⟩ i23 rfl (by decide) hb (fun r0 h27 hb => ?_)
          obtain ⟨r28, rfl, hb⟩ := hb
          obtain ⟨b29, hb⟩ := hb
          refine wp_lastore dX9_act_76 i20 b29 ?_
          refine wp_topH (fun h30 e31 => ?_)
          have hb := hb h30 e31
          refine wp_aload_n 0 dX9_act_77 rfl rfl ?_
          refine wp_iconst (v := 1) dX9_act_78 (by decide) ?_
          refine wp_callV (as := [.int 1]) dX9_act_79 cb_X9_granted lk_X9_97 im_X9_granted se_X9_granted rfl (Nat.le_of_ble_eq_true rfl) ⟨by decide, by decide⟩ ⟨Nat.le_refl _, Nat.le_refl _, Nat.le_refl _⟩ i1 rfl (by decide) hb (fun r0 h33 hb => ?_)
          obtain ⟨r34, rfl, hb⟩ := hb
          exact wp_iret rfl dX9_act_82 ⟨_, rfl, hb⟩
        · have hb := hb.2 c19
          refine wp_aload_n 0 dX9_act_49 rfl rfl ?_
          refine wp_iconst (v := 4) dX9_act_50 (by decide) ?_
          refine wp_callV (as := [.int 4]) dX9_act_51 cb_X9_refused lk_X9_76 im_X9_refused se_X9_refused rfl (Nat.le_of_ble_eq_true rfl) ⟨by decide, by decide⟩ ⟨Nat.le_refl _, Nat.le_refl _, Nat.le_refl _⟩ i1 rfl (by decide) hb (fun r0 h36 hb => ?_)
          obtain ⟨r37, rfl, hb⟩ := hb
          exact wp_iret rfl dX9_act_54 ⟨_, rfl, hb⟩
      · have hb := hb.2 c10
        refine wp_aload_n 0 dX9_act_24 rfl rfl ?_
        refine wp_iconst (v := 2) dX9_act_25 (by decide) ?_
        refine wp_callV (as := [.int 2]) dX9_act_26 cb_X9_refused lk_X9_76 im_X9_refused se_X9_refused rfl (Nat.le_of_ble_eq_true rfl) ⟨by decide, by decide⟩ ⟨Nat.le_refl _, Nat.le_refl _, Nat.le_refl _⟩ i1 rfl (by decide) hb (fun r0 h39 hb => ?_)
        obtain ⟨r40, rfl, hb⟩ := hb
        exact wp_iret rfl dX9_act_29 ⟨_, rfl, hb⟩
  · have hb := hb.2 c5
    refine wp_aload_n 0 dX9_act_8 rfl rfl ?_
    refine wp_iconst (v := 1) dX9_act_9 (by decide) ?_
    refine wp_callV (as := [.int 1]) dX9_act_10 cb_X9_refused lk_X9_76 im_X9_refused se_X9_refused rfl (Nat.le_of_ble_eq_true rfl) ⟨by decide, by decide⟩ ⟨Nat.le_refl _, Nat.le_refl _, Nat.le_refl _⟩ i1 rfl (by decide) hb (fun r0 h42 hb => ?_)
    obtain ⟨r43, rfl, hb⟩ := hb
    exact wp_iret rfl dX9_act_13 ⟨_, rfl, hb⟩
theorem c_X9_act {l : Launch} {g : AG} {h : AH} {x0 : Nat} {x1 : Int32} {x2 : Int32}  {Q : Int32 → AH → Prop} (hb : L_X9_act_0 l g h x0 x1 x2  Q) : C_X9_act l g h x0 x1 x2  Q := ax_met rfl rfl (Nat.le_of_ble_eq_true rfl) hb
def C_X3_faultOf (l : Launch) (g : AG) (h : AH) (x0 : Int64)  (Q : Int32 → AH → Prop) : Prop := Ct l g mX3_faultOf 1 21 194 194 h [.long x0] (ax_QI Q)
def L_X3_faultOf_0 (l : Launch) (g : AG) (h : AH) (x0 : Int64)  (Q : Int32 → AH → Prop) : Prop := Wp l g mX3_faultOf 1 21 194 194 194 0 [(0, .long x0)] [] h (FM g 194 194 (ax_QI Q))
set_option maxRecDepth 100000 in
set_option maxHeartbeats 4000000 in
theorem s_X3_faultOf_0 {l : Launch} {g : AG} {h : AH} {x0 : Int64}  {Q : Int32 → AH → Prop} (hb : C_X3_openOf l g h x0 (fun r3 h2 => ( ((r3 ≤ 0 → (Q ((jlushr x0 27).toInt32) h2)) ∧ (¬ (r3 ≤ 0) → (Q 0 h2)))))) : L_X3_faultOf_0 l g h x0  Q := by
  refine wp_lload_n 0 dX3_faultOf_0 rfl rfl ?_
  refine wp_callS (as := [.long x0]) dX3_faultOf_1 cb_X3_openOf lk_X3_17 st_X3_openOf rfl (Nat.le_of_ble_eq_true rfl) ⟨by decide, by decide⟩ ⟨Nat.le_refl _, Nat.le_refl _, Nat.le_refl _⟩ hb (fun r0 h2 hb => ?_)
  obtain ⟨r3, rfl, hb⟩ := hb
  refine wp_if_le (tgt := 11) dX3_faultOf_4 (by decide) (fun c4 => ?_) (fun c4 => ?_)
  · have hb := hb.1 c4
    refine wp_lload_n 0 dX3_faultOf_11 rfl rfl ?_
    refine wp_bipush (v := 27) dX3_faultOf_12 (by decide) ?_
    refine wp_lushr dX3_faultOf_14 ?_
    refine wp_l2i dX3_faultOf_15 ?_
    exact wp_iret rfl dX3_faultOf_16 ⟨_, rfl, hb⟩
  · have hb := hb.2 c4
    refine wp_iconst (v := 0) dX3_faultOf_7 (by decide) ?_
    refine wp_goto (tgt := 16) dX3_faultOf_8 (by decide) ?_
    exact wp_iret rfl dX3_faultOf_16 ⟨_, rfl, hb⟩
theorem c_X3_faultOf {l : Launch} {g : AG} {h : AH} {x0 : Int64}  {Q : Int32 → AH → Prop} (hb : L_X3_faultOf_0 l g h x0  Q) : C_X3_faultOf l g h x0  Q := ax_met rfl rfl (Nat.le_of_ble_eq_true rfl) hb
def C_X0_possibleMany (l : Launch) (g : AG) (h : AH) (x0 : Nat) (x1 : Int64)  (Q : Int32 → AH → Prop) : Prop := Ct l g mX0_possibleMany 3 72 194 194 h [.ref x0, .long x1] (ax_QI Q)
def L_X0_possibleMany_0 (l : Launch) (g : AG) (h : AH) (x0 : Nat) (x1 : Int64)  (Q : Int32 → AH → Prop) : Prop := Wp l g mX0_possibleMany 3 72 194 194 194 0 [(0, .ref x0), (1, .long x1)] [] h (FM g 194 194 (ax_QI Q))
def L_X0_possibleMany_5 (l : Launch) (g : AG) (h : AH) (x0 : Nat) (x1 : Int64) (x3 : Int32) (x4 : Int32)  (Q : Int32 → AH → Prop) : Prop := Wp l g mX0_possibleMany 3 72 194 194 194 5 [(0, .ref x0), (1, .long x1), (3, .int x3), (4, .int x4)] [] h (FM g 194 194 (ax_QI Q))
set_option maxRecDepth 100000 in
set_option maxHeartbeats 4000000 in
theorem s_X0_possibleMany_0 {l : Launch} {g : AG} {h : AH} {x0 : Nat} {x1 : Int64}  {Q : Int32 → AH → Prop} (hb : L_X0_possibleMany_5 l g h x0 x1 0 0  Q) : L_X0_possibleMany_0 l g h x0 x1  Q := by
  refine wp_iconst (v := 0) dX0_possibleMany_0 (by decide) ?_
  refine wp_istore_n (lv2 := [(3, .int 0), (0, .ref x0), (1, .long x1)]) dX0_possibleMany_1 rfl (by decide) rfl ?_
  refine wp_iconst (v := 0) dX0_possibleMany_2 (by decide) ?_
  refine wp_istore (lv2 := [(4, .int 0), (3, .int 0), (0, .ref x0), (1, .long x1)]) dX0_possibleMany_3 (by decide) rfl ?_
  exact wp_sub [2, 3, 1, 0] rfl hb
set_option maxRecDepth 100000 in
set_option maxHeartbeats 4000000 in
theorem s_X0_possibleMany_5 {l : Launch} {g : AG} {h : AH} {x0 : Nat} {x1 : Int64} {x3 : Int32} {x4 : Int32}  {Q : Int32 → AH → Prop} (hb : ((27 ≤ x4 → (Q x3 h)) ∧ (¬ (27 ≤ x4) → ((Is 194 x0 0) ∧ ( C_X0_possible l g h x0 x1 x4 (fun r5 h4 => ( ((r5 = 0 → (∀ v7 : Int32, v7 = x4 + (1) → ( L_X0_possibleMany_5 l g h4 x0 x1 x3 v7  Q))) ∧ (¬ (r5 = 0) → (∀ v9 : Int32, v9 = x3 + (1) → ( ∀ v11 : Int32, v11 = x4 + (1) → ( L_X0_possibleMany_5 l g h4 x0 x1 v9 v11  Q)))))))))))) : L_X0_possibleMany_5 l g h x0 x1 x3 x4  Q := by
  refine wp_iload 3 dX0_possibleMany_5 rfl ?_
  refine wp_bipush (v := 27) dX0_possibleMany_7 (by decide) ?_
  refine wp_icmp_ge (tgt := 31) dX0_possibleMany_9 (by decide) (fun c1 => ?_) (fun c1 => ?_)
  · have hb := hb.1 c1
    refine wp_iload_n 2 dX0_possibleMany_31 rfl rfl ?_
    exact wp_iret rfl dX0_possibleMany_32 ⟨_, rfl, hb⟩
  · have hb := hb.2 c1
    obtain ⟨i2, hb⟩ := hb
    refine wp_aload_n 0 dX0_possibleMany_12 rfl rfl ?_
    refine wp_lload_n 1 dX0_possibleMany_13 rfl rfl ?_
    refine wp_iload 3 dX0_possibleMany_14 rfl ?_
    refine wp_callV (as := [.long x1, .int x4]) dX0_possibleMany_16 cb_X0_possible lk_X0_113 im_X0_possible se_X0_possible rfl (Nat.le_of_ble_eq_true rfl) ⟨by decide, by decide⟩ ⟨Nat.le_refl _, Nat.le_refl _, Nat.le_refl _⟩ i2 rfl (by decide) hb (fun r0 h4 hb => ?_)
    obtain ⟨r5, rfl, hb⟩ := hb
    refine wp_if_eq (tgt := 25) dX0_possibleMany_19 (by decide) (fun c6 => ?_) (fun c6 => ?_)
    · have hb := hb.1 c6
      obtain ⟨v7, e8⟩ : ∃ y : Int32, y = x4 + (1) := ⟨_, rfl⟩
      have hb := hb v7 e8
      refine wp_iinc (v := v7) (lv2 := [(4, .int v7), (0, .ref x0), (1, .long x1), (3, .int x3)]) 3 dX0_possibleMany_25 rfl (by rw [e8]; rfl) (by decide) rfl ?_
      refine wp_goto (tgt := 5) dX0_possibleMany_28 (by decide) ?_
      exact wp_sub [1, 2, 3, 0] rfl hb
    · have hb := hb.2 c6
      obtain ⟨v9, e10⟩ : ∃ y : Int32, y = x3 + (1) := ⟨_, rfl⟩
      have hb := hb v9 e10
      refine wp_iinc (v := v9) (lv2 := [(3, .int v9), (0, .ref x0), (1, .long x1), (4, .int x4)]) 2 dX0_possibleMany_22 rfl (by rw [e10]; rfl) (by decide) rfl ?_
      obtain ⟨v11, e12⟩ : ∃ y : Int32, y = x4 + (1) := ⟨_, rfl⟩
      have hb := hb v11 e12
      refine wp_iinc (v := v11) (lv2 := [(4, .int v11), (3, .int v9), (0, .ref x0), (1, .long x1)]) 3 dX0_possibleMany_25 rfl (by rw [e12]; rfl) (by decide) rfl ?_
      refine wp_goto (tgt := 5) dX0_possibleMany_28 (by decide) ?_
      exact wp_sub [2, 3, 1, 0] rfl hb
theorem c_X0_possibleMany {l : Launch} {g : AG} {h : AH} {x0 : Nat} {x1 : Int64}  {Q : Int32 → AH → Prop} (hb : L_X0_possibleMany_0 l g h x0 x1  Q) : C_X0_possibleMany l g h x0 x1  Q := ax_met rfl rfl (Nat.le_of_ble_eq_true rfl) hb
def C_X9_state (l : Launch) (g : AG) (h : AH) (x0 : Nat) (x1 : Int32) (x2 : Int32)  (Q : Int32 → AH → Prop) : Prop := Ct l g mX9_state 4 96 194 194 h [.ref x0, .int x1, .int x2] (ax_QI Q)
def L_X9_state_0 (l : Launch) (g : AG) (h : AH) (x0 : Nat) (x1 : Int32) (x2 : Int32)  (Q : Int32 → AH → Prop) : Prop := Wp l g mX9_state 4 96 194 194 194 0 [(0, .ref x0), (1, .int x1), (2, .int x2)] [] h (FM g 194 194 (ax_QI Q))
set_option maxRecDepth 100000 in
set_option maxHeartbeats 4000000 in
theorem s_X9_state_0 {l : Launch} {g : AG} {h : AH} {x0 : Nat} {x1 : Int32} {x2 : Int32}  {Q : Int32 → AH → Prop} (hb : (Is 194 x0 8) ∧ ( C_X9_has l g h x0 x1 (fun r4 h3 => ( ((¬ r4 = 0 → ((Is 194 (h3.2.2 x0 5) 21) ∧ ( (vp_in x1 (ax_s (h3.2.2 x0 5)).2) ∧ ( ∀ v8 : Int64, v8 = (h3.2.1 (h3.2.2 x0 5) x1.toNatClampNeg) → ( ((x2 = 0 → (C_X3_faultOf l g h3 v8 (fun r13 h12 => ( Q r13 h12)))) ∧ (¬ x2 = 0 → (((x2 = 1 → (C_X3_openOf l g h3 v8 (fun r17 h16 => ( Q r17 h16)))) ∧ (¬ x2 = 1 → (((x2 = 2 → (C_X3_topOf l g h3 v8 (fun r21 h20 => ( Q r21 h20)))) ∧ (¬ x2 = 2 → (((x2 = 3 → (C_X3_ticksOf l g h3 v8 (fun r25 h24 => ( Q r25 h24)))) ∧ (¬ x2 = 3 → (((x2 = 4 → ((Is 194 (h3.2.2 x0 2) 24) ∧ ( (vp_in x1 (ax_s (h3.2.2 x0 2)).2) ∧ ( (Is 194 (h3.2.2 (h3.2.2 x0 2) x1.toNatClampNeg) 0) ∧ ( C_X0_possibleMany l g h3 (h3.2.2 (h3.2.2 x0 2) x1.toNatClampNeg) v8 (fun r32 h31 => ( Q r32 h31))))))) ∧ (¬ x2 = 4 → (Q (-1) h3)))))))))))))))))))) ∧ (r4 = 0 → (Q (-1) h3))))))) : L_X9_state_0 l g h x0 x1 x2  Q := by
  obtain ⟨i1, hb⟩ := hb
  refine wp_aload_n 0 dX9_state_0 rfl rfl ?_
  refine wp_iload_n 1 dX9_state_1 rfl rfl ?_
  refine wp_callV (as := [.int x1]) dX9_state_2 cb_X9_has lk_X9_106 im_X9_has se_X9_has rfl (Nat.le_of_ble_eq_true rfl) ⟨by decide, by decide⟩ ⟨Nat.le_refl _, Nat.le_refl _, Nat.le_refl _⟩ i1 rfl (by decide) hb (fun r0 h3 hb => ?_)
  obtain ⟨r4, rfl, hb⟩ := hb
  refine wp_if_ne (tgt := 10) dX9_state_5 (by decide) (fun c5 => ?_) (fun c5 => ?_)
  · have hb := hb.1 c5
    refine wp_aload_n 0 dX9_state_10 rfl rfl ?_
    obtain ⟨i6, hb⟩ := hb
    refine wp_getR dX9_state_11 fl_X9_37 i1 (i6.ne (by decide)) ?_
    refine wp_iload_n 1 dX9_state_14 rfl rfl ?_
    obtain ⟨b7, hb⟩ := hb
    refine wp_laload dX9_state_15 i6 b7 ?_
    refine wp_topl (fun v8 e9 => ?_)
    have hb := hb v8 e9
    refine wp_lstore_n (lv2 := [(3, .long v8), (0, .ref x0), (1, .int x1), (2, .int x2)]) dX9_state_16 rfl (by decide) rfl ?_
    refine wp_iload_n 3 dX9_state_17 rfl rfl ?_
    refine wp_case 0 (fun c10 => ?_) (fun c10 => ?_)
    · have hb := hb.1 c10
      refine wp_tableIn (v := 0) (tgt := 52) dX9_state_18 c10 (by decide) (by decide) rfl (by decide) ?_
      refine wp_lload_n 0 dX9_state_52 rfl rfl ?_
      refine wp_callSN (as := [.long v8]) dX9_state_53 cb_X3_faultOf lk_X9_152 st_X3_faultOf rfl (Nat.le_of_ble_eq_true rfl) ⟨by decide, by decide⟩ ⟨Nat.le_refl _, Nat.le_refl _, Nat.le_refl _⟩ hb (fun r0 h12 hb => ?_)
      obtain ⟨r13, rfl, hb⟩ := hb
      exact wp_iret rfl dX9_state_56 ⟨_, rfl, hb⟩
    · have hb := hb.2 c10
      refine wp_case 1 (fun c14 => ?_) (fun c14 => ?_)
      · have hb := hb.1 c14
        refine wp_tableIn (v := 1) (tgt := 57) dX9_state_18 c14 (by decide) (by decide) rfl (by decide) ?_
        refine wp_lload_n 0 dX9_state_57 rfl rfl ?_
        refine wp_callSN (as := [.long v8]) dX9_state_58 cb_X3_openOf lk_X9_158 st_X3_openOf rfl (Nat.le_of_ble_eq_true rfl) ⟨by decide, by decide⟩ ⟨Nat.le_refl _, Nat.le_refl _, Nat.le_refl _⟩ hb (fun r0 h16 hb => ?_)
        obtain ⟨r17, rfl, hb⟩ := hb
        exact wp_iret rfl dX9_state_61 ⟨_, rfl, hb⟩
      · have hb := hb.2 c14
        refine wp_case 2 (fun c18 => ?_) (fun c18 => ?_)
        · have hb := hb.1 c18
          refine wp_tableIn (v := 2) (tgt := 62) dX9_state_18 c18 (by decide) (by decide) rfl (by decide) ?_
          refine wp_lload_n 0 dX9_state_62 rfl rfl ?_
          refine wp_callSN (as := [.long v8]) dX9_state_63 cb_X3_topOf lk_X9_161 st_X3_topOf rfl (Nat.le_of_ble_eq_true rfl) ⟨by decide, by decide⟩ ⟨Nat.le_refl _, Nat.le_refl _, Nat.le_refl _⟩ hb (fun r0 h20 hb => ?_)
          obtain ⟨r21, rfl, hb⟩ := hb
          exact wp_iret rfl dX9_state_66 ⟨_, rfl, hb⟩
        · have hb := hb.2 c18
          refine wp_case 3 (fun c22 => ?_) (fun c22 => ?_)
          · have hb := hb.1 c22
            refine wp_tableIn (v := 3) (tgt := 67) dX9_state_18 c22 (by decide) (by decide) rfl (by decide) ?_
            refine wp_lload_n 0 dX9_state_67 rfl rfl ?_
            refine wp_callSN (as := [.long v8]) dX9_state_68 cb_X3_ticksOf lk_X9_164 st_X3_ticksOf rfl (Nat.le_of_ble_eq_true rfl) ⟨by decide, by decide⟩ ⟨Nat.le_refl _, Nat.le_refl _, Nat.le_refl _⟩ hb (fun r0 h24 hb => ?_)
            obtain ⟨r25, rfl, hb⟩ := hb
            exact wp_iret rfl dX9_state_71 ⟨_, rfl, hb⟩
          · have hb := hb.2 c22
            refine wp_case 4 (fun c26 => ?_) (fun c26 => ?_)
            · have hb := hb.1 c26
              refine wp_tableIn (v := 4) (tgt := 72) dX9_state_18 c26 (by decide) (by decide) rfl (by decide) ?_
              refine wp_aload_n 1 dX9_state_72 rfl rfl ?_
              obtain ⟨i27, hb⟩ := hb
              refine wp_getR dX9_state_73 fl_X9_20 i1 (i27.ne (by decide)) ?_
              refine wp_iload_n 2 dX9_state_76 rfl rfl ?_
              obtain ⟨b28, hb⟩ := hb
              obtain ⟨i29, hb⟩ := hb
              refine wp_aaload24 dX9_state_77 i27 b28 (i29.ne (by decide)) ?_
              refine wp_lload_n 0 dX9_state_78 rfl rfl ?_
              refine wp_callVN (as := [.long v8]) dX9_state_79 cb_X0_possibleMany lk_X9_167 im_X0_possibleMany se_X0_possibleMany rfl (Nat.le_of_ble_eq_true rfl) ⟨by decide, by decide⟩ ⟨Nat.le_refl _, Nat.le_refl _, Nat.le_refl _⟩ i29 rfl (by decide) hb (fun r0 h31 hb => ?_)
              obtain ⟨r32, rfl, hb⟩ := hb
              exact wp_iret rfl dX9_state_82 ⟨_, rfl, hb⟩
            · have hb := hb.2 c26
              refine wp_tableOut (tgt := 83) dX9_state_18 (by have zc10 := lv_neT (k := 0) (a := 0) c10 rfl; have zc14 := lv_neT (k := 1) (a := 1) c14 rfl; have zc18 := lv_neT (k := 2) (a := 2) c18 rfl; have zc22 := lv_neT (k := 3) (a := 3) c22 rfl; have zc26 := lv_neT (k := 4) (a := 4) c26 rfl; omega) (by decide) ?_
              refine wp_iconst (v := (-1)) dX9_state_83 (by decide) ?_
              exact wp_iret rfl dX9_state_84 ⟨_, rfl, hb⟩
  · have hb := hb.2 c5
    refine wp_iconst (v := (-1)) dX9_state_8 (by decide) ?_
    exact wp_iret rfl dX9_state_9 ⟨_, rfl, hb⟩
theorem c_X9_state {l : Launch} {g : AG} {h : AH} {x0 : Nat} {x1 : Int32} {x2 : Int32}  {Q : Int32 → AH → Prop} (hb : L_X9_state_0 l g h x0 x1 x2  Q) : C_X9_state l g h x0 x1 x2  Q := ax_met rfl rfl (Nat.le_of_ble_eq_true rfl) hb
def C_X9_var (l : Launch) (g : AG) (h : AH) (x0 : Nat) (x1 : Int32) (x2 : Int32)  (Q : Int32 → AH → Prop) : Prop := Ct l g mX9_var 1 22 194 194 h [.ref x0, .int x1, .int x2] (ax_QI Q)
def L_X9_var_0 (l : Launch) (g : AG) (h : AH) (x0 : Nat) (x1 : Int32) (x2 : Int32)  (Q : Int32 → AH → Prop) : Prop := Wp l g mX9_var 1 22 194 194 194 0 [(0, .ref x0), (1, .int x1), (2, .int x2)] [] h (FM g 194 194 (ax_QI Q))
set_option maxRecDepth 100000 in
set_option maxHeartbeats 4000000 in
theorem s_X9_var_0 {l : Launch} {g : AG} {h : AH} {x0 : Nat} {x1 : Int32} {x2 : Int32}  {Q : Int32 → AH → Prop} (hb : (Is 194 x0 8) ∧ ( C_X9_has l g h x0 x1 (fun r4 h3 => ( ((r4 = 0 → (Q (-1) h3)) ∧ (¬ (r4 = 0) → (((x2 < 0 → (Q (-1) h3)) ∧ (¬ (x2 < 0) → ((Is 194 (h3.2.2 x0 2) 24) ∧ ( (vp_in x1 (ax_s (h3.2.2 x0 2)).2) ∧ ( (Is 194 (h3.2.2 (h3.2.2 x0 2) x1.toNatClampNeg) 0) ∧ ( ((x2 < h3.1 (h3.2.2 (h3.2.2 x0 2) x1.toNatClampNeg) 2 → ((Is 194 (h3.2.2 x0 5) 21) ∧ ( (vp_in x1 (ax_s (h3.2.2 x0 5)).2) ∧ ( C_X3_valueOf l g h3 (h3.2.1 (h3.2.2 x0 5) x1.toNatClampNeg) x2 (fun r15 h14 => ( Q r15 h14)))))) ∧ (¬ (x2 < h3.1 (h3.2.2 (h3.2.2 x0 2) x1.toNatClampNeg) 2) → (Q (-1) h3)))))))))))))))) : L_X9_var_0 l g h x0 x1 x2  Q := by
  obtain ⟨i1, hb⟩ := hb
  refine wp_aload_n 0 dX9_var_0 rfl rfl ?_
  refine wp_iload_n 1 dX9_var_1 rfl rfl ?_
  refine wp_callV (as := [.int x1]) dX9_var_2 cb_X9_has lk_X9_106 im_X9_has se_X9_has rfl (Nat.le_of_ble_eq_true rfl) ⟨by decide, by decide⟩ ⟨Nat.le_refl _, Nat.le_refl _, Nat.le_refl _⟩ i1 rfl (by decide) hb (fun r0 h3 hb => ?_)
  obtain ⟨r4, rfl, hb⟩ := hb
  refine wp_if_eq (tgt := 25) dX9_var_5 (by decide) (fun c5 => ?_) (fun c5 => ?_)
  · have hb := hb.1 c5
    refine wp_iconst (v := (-1)) dX9_var_25 (by decide) ?_
    exact wp_iret rfl dX9_var_26 ⟨_, rfl, hb⟩
  · have hb := hb.2 c5
    refine wp_iload_n 2 dX9_var_8 rfl rfl ?_
    refine wp_if_lt (tgt := 25) dX9_var_9 (by decide) (fun c6 => ?_) (fun c6 => ?_)
    · have hb := hb.1 c6
      refine wp_iconst (v := (-1)) dX9_var_25 (by decide) ?_
      exact wp_iret rfl dX9_var_26 ⟨_, rfl, hb⟩
    · have hb := hb.2 c6
      refine wp_iload_n 2 dX9_var_12 rfl rfl ?_
      refine wp_aload_n 0 dX9_var_13 rfl rfl ?_
      obtain ⟨i7, hb⟩ := hb
      refine wp_getR dX9_var_14 fl_X9_20 i1 (i7.ne (by decide)) ?_
      refine wp_iload_n 1 dX9_var_17 rfl rfl ?_
      obtain ⟨b8, hb⟩ := hb
      obtain ⟨i9, hb⟩ := hb
      refine wp_aaload24 dX9_var_18 i7 b8 (i9.ne (by decide)) ?_
      refine wp_getI dX9_var_19 fl_X9_113 i9 ?_
      refine wp_icmp_lt (tgt := 27) dX9_var_22 (by decide) (fun c10 => ?_) (fun c10 => ?_)
      · have hb := hb.1 c10
        refine wp_aload_n 0 dX9_var_27 rfl rfl ?_
        obtain ⟨i11, hb⟩ := hb
        refine wp_getR dX9_var_28 fl_X9_37 i1 (i11.ne (by decide)) ?_
        refine wp_iload_n 1 dX9_var_31 rfl rfl ?_
        obtain ⟨b12, hb⟩ := hb
        refine wp_laload dX9_var_32 i11 b12 ?_
        refine wp_iload_n 2 dX9_var_33 rfl rfl ?_
        refine wp_callSN (as := [.long (h3.2.1 (h3.2.2 x0 5) x1.toNatClampNeg), .int x2]) dX9_var_34 cb_X3_valueOf lk_X9_170 st_X3_valueOf rfl (Nat.le_of_ble_eq_true rfl) ⟨by decide, by decide⟩ ⟨Nat.le_refl _, Nat.le_refl _, Nat.le_refl _⟩ hb (fun r0 h14 hb => ?_)
        obtain ⟨r15, rfl, hb⟩ := hb
        exact wp_iret rfl dX9_var_37 ⟨_, rfl, hb⟩
      · have hb := hb.2 c10
        refine wp_iconst (v := (-1)) dX9_var_25 (by decide) ?_
        exact wp_iret rfl dX9_var_26 ⟨_, rfl, hb⟩
theorem c_X9_var {l : Launch} {g : AG} {h : AH} {x0 : Nat} {x1 : Int32} {x2 : Int32}  {Q : Int32 → AH → Prop} (hb : L_X9_var_0 l g h x0 x1 x2  Q) : C_X9_var l g h x0 x1 x2  Q := ax_met rfl rfl (Nat.le_of_ble_eq_true rfl) hb
def C_X9_can (l : Launch) (g : AG) (h : AH) (x0 : Nat) (x1 : Int32) (x2 : Int32)  (Q : Int32 → AH → Prop) : Prop := Ct l g mX9_can 3 72 194 194 h [.ref x0, .int x1, .int x2] (ax_QI Q)
def L_X9_can_0 (l : Launch) (g : AG) (h : AH) (x0 : Nat) (x1 : Int32) (x2 : Int32)  (Q : Int32 → AH → Prop) : Prop := Wp l g mX9_can 3 72 194 194 194 0 [(0, .ref x0), (1, .int x1), (2, .int x2)] [] h (FM g 194 194 (ax_QI Q))
set_option maxRecDepth 100000 in
set_option maxHeartbeats 4000000 in
theorem s_X9_can_0 {l : Launch} {g : AG} {h : AH} {x0 : Nat} {x1 : Int32} {x2 : Int32}  {Q : Int32 → AH → Prop} (hb : (Is 194 x0 8) ∧ ( C_X9_has l g h x0 x1 (fun r4 h3 => ( ((r4 = 0 → (Q (-1) h3)) ∧ (¬ (r4 = 0) → (((x2 < 0 → (Q (-1) h3)) ∧ (¬ (x2 < 0) → (((x2 < 27 → ((Is 194 (h3.2.2 x0 2) 24) ∧ ( (vp_in x1 (ax_s (h3.2.2 x0 2)).2) ∧ ( (Is 194 (h3.2.2 (h3.2.2 x0 2) x1.toNatClampNeg) 0) ∧ ( (Is 194 (h3.2.2 x0 5) 21) ∧ ( (vp_in x1 (ax_s (h3.2.2 x0 5)).2) ∧ ( C_X0_possible l g h3 (h3.2.2 (h3.2.2 x0 2) x1.toNatClampNeg) (h3.2.1 (h3.2.2 x0 5) x1.toNatClampNeg) x2 (fun r15 h14 => ( ((r15 = 0 → (Q 0 h14)) ∧ (¬ (r15 = 0) → (Q 1 h14)))))))))))) ∧ (¬ (x2 < 27) → (Q (-1) h3))))))))))))) : L_X9_can_0 l g h x0 x1 x2  Q := by
  obtain ⟨i1, hb⟩ := hb
  refine wp_aload_n 0 dX9_can_0 rfl rfl ?_
  refine wp_iload_n 1 dX9_can_1 rfl rfl ?_
  refine wp_callV (as := [.int x1]) dX9_can_2 cb_X9_has lk_X9_106 im_X9_has se_X9_has rfl (Nat.le_of_ble_eq_true rfl) ⟨by decide, by decide⟩ ⟨Nat.le_refl _, Nat.le_refl _, Nat.le_refl _⟩ i1 rfl (by decide) hb (fun r0 h3 hb => ?_)
  obtain ⟨r4, rfl, hb⟩ := hb
  refine wp_if_eq (tgt := 18) dX9_can_5 (by decide) (fun c5 => ?_) (fun c5 => ?_)
  · have hb := hb.1 c5
    refine wp_iconst (v := (-1)) dX9_can_18 (by decide) ?_
    exact wp_iret rfl dX9_can_19 ⟨_, rfl, hb⟩
  · have hb := hb.2 c5
    refine wp_iload_n 2 dX9_can_8 rfl rfl ?_
    refine wp_if_lt (tgt := 18) dX9_can_9 (by decide) (fun c6 => ?_) (fun c6 => ?_)
    · have hb := hb.1 c6
      refine wp_iconst (v := (-1)) dX9_can_18 (by decide) ?_
      exact wp_iret rfl dX9_can_19 ⟨_, rfl, hb⟩
    · have hb := hb.2 c6
      refine wp_iload_n 2 dX9_can_12 rfl rfl ?_
      refine wp_bipush (v := 27) dX9_can_13 (by decide) ?_
      refine wp_icmp_lt (tgt := 20) dX9_can_15 (by decide) (fun c7 => ?_) (fun c7 => ?_)
      · have hb := hb.1 c7
        refine wp_aload_n 0 dX9_can_20 rfl rfl ?_
        obtain ⟨i8, hb⟩ := hb
        refine wp_getR dX9_can_21 fl_X9_20 i1 (i8.ne (by decide)) ?_
        refine wp_iload_n 1 dX9_can_24 rfl rfl ?_
        obtain ⟨b9, hb⟩ := hb
        obtain ⟨i10, hb⟩ := hb
        refine wp_aaload24 dX9_can_25 i8 b9 (i10.ne (by decide)) ?_
        refine wp_aload_n 0 dX9_can_26 rfl rfl ?_
        obtain ⟨i11, hb⟩ := hb
        refine wp_getR dX9_can_27 fl_X9_37 i1 (i11.ne (by decide)) ?_
        refine wp_iload_n 1 dX9_can_30 rfl rfl ?_
        obtain ⟨b12, hb⟩ := hb
        refine wp_laload dX9_can_31 i11 b12 ?_
        refine wp_iload_n 2 dX9_can_32 rfl rfl ?_
        refine wp_callVN (as := [.long (h3.2.1 (h3.2.2 x0 5) x1.toNatClampNeg), .int x2]) dX9_can_33 cb_X0_possible lk_X9_144 im_X0_possible se_X0_possible rfl (Nat.le_of_ble_eq_true rfl) ⟨by decide, by decide⟩ ⟨Nat.le_refl _, Nat.le_refl _, Nat.le_refl _⟩ i10 rfl (by decide) hb (fun r0 h14 hb => ?_)
        obtain ⟨r15, rfl, hb⟩ := hb
        refine wp_if_eq (tgt := 43) dX9_can_36 (by decide) (fun c16 => ?_) (fun c16 => ?_)
        · have hb := hb.1 c16
          refine wp_iconst (v := 0) dX9_can_43 (by decide) ?_
          exact wp_iret rfl dX9_can_44 ⟨_, rfl, hb⟩
        · have hb := hb.2 c16
          refine wp_iconst (v := 1) dX9_can_39 (by decide) ?_
          refine wp_goto (tgt := 44) dX9_can_40 (by decide) ?_
          exact wp_iret rfl dX9_can_44 ⟨_, rfl, hb⟩
      · have hb := hb.2 c7
        refine wp_iconst (v := (-1)) dX9_can_18 (by decide) ?_
        exact wp_iret rfl dX9_can_19 ⟨_, rfl, hb⟩
theorem c_X9_can {l : Launch} {g : AG} {h : AH} {x0 : Nat} {x1 : Int32} {x2 : Int32}  {Q : Int32 → AH → Prop} (hb : L_X9_can_0 l g h x0 x1 x2  Q) : C_X9_can l g h x0 x1 x2  Q := ax_met rfl rfl (Nat.le_of_ble_eq_true rfl) hb
def C_X9_begin (l : Launch) (g : AG) (h : AH) (x0 : Nat) (x1 : Int32)  (Q : Int32 → AH → Prop) : Prop := Ct l g mX9_begin 3 66 194 194 h [.ref x0, .int x1] (ax_QI Q)
def L_X9_begin_0 (l : Launch) (g : AG) (h : AH) (x0 : Nat) (x1 : Int32)  (Q : Int32 → AH → Prop) : Prop := Wp l g mX9_begin 3 66 194 194 194 0 [(0, .ref x0), (1, .int x1)] [] h (FM g 194 194 (ax_QI Q))
set_option maxRecDepth 100000 in
set_option maxHeartbeats 4000000 in
theorem s_X9_begin_0 {l : Launch} {g : AG} {h : AH} {x0 : Nat} {x1 : Int32}  {Q : Int32 → AH → Prop} (hb : (Is 194 x0 8) ∧ ( C_X9_has l g h x0 x1 (fun r4 h3 => ( ((¬ r4 = 0 → ((Is 194 (h3.2.2 x0 5) 21) ∧ ( (Is 194 (h3.2.2 x0 2) 24) ∧ ( (vp_in x1 (ax_s (h3.2.2 x0 2)).2) ∧ ( (Is 194 (h3.2.2 (h3.2.2 x0 2) x1.toNatClampNeg) 0) ∧ ( C_X0_beginning l g h3 (h3.2.2 (h3.2.2 x0 2) x1.toNatClampNeg) (fun r12 h11 => ( (vp_in x1 (ax_s (h3.2.2 x0 5)).2) ∧ ( ∀ h14 : AH, h14 = ax_setL h11 (h3.2.2 x0 5) x1.toNatClampNeg r12 → ( ∀ h16 : AH, h16 = ax_setI h14 x0 12 0 → ( Q 1 h16))))))))))) ∧ (r4 = 0 → (∀ h18 : AH, h18 = ax_setI h3 x0 12 1 → ( Q 0 h18)))))))) : L_X9_begin_0 l g h x0 x1  Q := by
  obtain ⟨i1, hb⟩ := hb
  refine wp_aload_n 0 dX9_begin_0 rfl rfl ?_
  refine wp_iload_n 1 dX9_begin_1 rfl rfl ?_
  refine wp_callV (as := [.int x1]) dX9_begin_2 cb_X9_has lk_X9_106 im_X9_has se_X9_has rfl (Nat.le_of_ble_eq_true rfl) ⟨by decide, by decide⟩ ⟨Nat.le_refl _, Nat.le_refl _, Nat.le_refl _⟩ i1 rfl (by decide) hb (fun r0 h3 hb => ?_)
  obtain ⟨r4, rfl, hb⟩ := hb
  refine wp_if_ne (tgt := 15) dX9_begin_5 (by decide) (fun c5 => ?_) (fun c5 => ?_)
  · have hb := hb.1 c5
    refine wp_aload_n 0 dX9_begin_15 rfl rfl ?_
    obtain ⟨i6, hb⟩ := hb
    refine wp_getR dX9_begin_16 fl_X9_37 i1 (i6.ne (by decide)) ?_
    refine wp_iload_n 1 dX9_begin_19 rfl rfl ?_
    refine wp_aload_n 0 dX9_begin_20 rfl rfl ?_
    obtain ⟨i7, hb⟩ := hb
    refine wp_getR dX9_begin_21 fl_X9_20 i1 (i7.ne (by decide)) ?_
    refine wp_iload_n 1 dX9_begin_24 rfl rfl ?_
    obtain ⟨b8, hb⟩ := hb
    obtain ⟨i9, hb⟩ := hb
    refine wp_aaload24 dX9_begin_25 i7 b8 (i9.ne (by decide)) ?_
    refine wp_callVN (as := []) dX9_begin_26 cb_X0_beginning lk_X9_84 im_X0_beginning se_X0_beginning rfl (Nat.le_of_ble_eq_true rfl) ⟨by decide, by decide⟩ ⟨Nat.le_refl _, Nat.le_refl _, Nat.le_refl _⟩ i9 rfl (by decide) hb (fun r0 h11 hb => ?_)
    obtain ⟨r12, rfl, hb⟩ := hb
    obtain ⟨b13, hb⟩ := hb
    refine wp_lastore dX9_begin_29 i6 b13 ?_
    refine wp_topH (fun h14 e15 => ?_)
    have hb := hb h14 e15
    refine wp_aload_n 0 dX9_begin_30 rfl rfl ?_
    refine wp_iconst (v := 0) dX9_begin_31 (by decide) ?_
    refine wp_putI dX9_begin_32 fl_X9_69 (Or.inl rfl) i1 ?_
    refine wp_topH (fun h16 e17 => ?_)
    have hb := hb h16 e17
    refine wp_iconst (v := 1) dX9_begin_35 (by decide) ?_
    exact wp_zret rfl dX9_begin_36 (Or.inr rfl) ⟨_, rfl, hb⟩
  · have hb := hb.2 c5
    refine wp_aload_n 0 dX9_begin_8 rfl rfl ?_
    refine wp_iconst (v := 1) dX9_begin_9 (by decide) ?_
    refine wp_putI dX9_begin_10 fl_X9_69 (Or.inl rfl) i1 ?_
    refine wp_topH (fun h18 e19 => ?_)
    have hb := hb h18 e19
    refine wp_iconst (v := 0) dX9_begin_13 (by decide) ?_
    exact wp_zret rfl dX9_begin_14 (Or.inl rfl) ⟨_, rfl, hb⟩
theorem c_X9_begin {l : Launch} {g : AG} {h : AH} {x0 : Nat} {x1 : Int32}  {Q : Int32 → AH → Prop} (hb : L_X9_begin_0 l g h x0 x1  Q) : C_X9_begin l g h x0 x1  Q := ax_met rfl rfl (Nat.le_of_ble_eq_true rfl) hb
def C_J7_fill_53178 (l : Launch) (g : AG) (h : AH) (x0 : Nat) (x1 : Int32)  (Q : AH → Prop) : Prop := Ct l g mJ7_fill_53178 0 0 194 194 h [.ref x0, .int x1] (ax_QV Q)
def L_J7_fill_53178_0 (l : Launch) (g : AG) (h : AH) (x0 : Nat) (x1 : Int32)  (Q : AH → Prop) : Prop := Wp l g mJ7_fill_53178 0 0 194 194 194 0 [(0, .ref x0), (1, .int x1)] [] h (FM g 194 194 (ax_QV Q))
def L_J7_fill_53178_5 (l : Launch) (g : AG) (h : AH) (x0 : Nat) (x1 : Int32) (x2 : Int32) (x3 : Int32)  (Q : AH → Prop) : Prop := Wp l g mJ7_fill_53178 0 0 194 194 194 5 [(0, .ref x0), (1, .int x1), (2, .int x2), (3, .int x3)] [] h (FM g 194 194 (ax_QV Q))
set_option maxRecDepth 100000 in
set_option maxHeartbeats 4000000 in
theorem s_J7_fill_53178_0 {l : Launch} {g : AG} {h : AH} {x0 : Nat} {x1 : Int32}  {Q : AH → Prop} (hb : (Is 194 x0 20) ∧ ( ∀ v2 : Int32, v2 = (Int32.ofNat (ax_s x0).2) → ( L_J7_fill_53178_5 l g h x0 x1 0 v2  Q))) : L_J7_fill_53178_0 l g h x0 x1  Q := by
  refine wp_iconst (v := 0) dJ7_fill_53178_0 (by decide) ?_
  refine wp_istore_n (lv2 := [(2, .int 0), (0, .ref x0), (1, .int x1)]) dJ7_fill_53178_1 rfl (by decide) rfl ?_
  obtain ⟨i1, hb⟩ := hb
  refine wp_aload_n 1 dJ7_fill_53178_2 rfl rfl ?_
  refine wp_alen dJ7_fill_53178_3 i1 (by decide) rfl ?_
  refine wp_topi (fun v2 e3 => ?_)
  have hb := hb v2 e3
  refine wp_istore_n (lv2 := [(3, .int v2), (2, .int 0), (0, .ref x0), (1, .int x1)]) dJ7_fill_53178_4 rfl (by decide) rfl ?_
  exact wp_sub [2, 3, 1, 0] rfl hb
set_option maxRecDepth 100000 in
set_option maxHeartbeats 4000000 in
theorem s_J7_fill_53178_5 {l : Launch} {g : AG} {h : AH} {x0 : Nat} {x1 : Int32} {x2 : Int32} {x3 : Int32}  {Q : AH → Prop} (hb : ((x3 ≤ x2 → (Q h)) ∧ (¬ (x3 ≤ x2) → ((Is 194 x0 20) ∧ ( (vp_in x2 (ax_s x0).2) ∧ ( ∀ h7 : AH, h7 = ax_setI h x0 x2.toNatClampNeg x1 → ( ∀ v9 : Int32, v9 = x2 + (1) → ( L_J7_fill_53178_5 l g h7 x0 x1 v9 x3  Q)))))))) : L_J7_fill_53178_5 l g h x0 x1 x2 x3  Q := by
  refine wp_iload_n 2 dJ7_fill_53178_5 rfl rfl ?_
  refine wp_iload_n 3 dJ7_fill_53178_6 rfl rfl ?_
  refine wp_icmp_ge (tgt := 20) dJ7_fill_53178_7 (by decide) (fun c4 => ?_) (fun c4 => ?_)
  · have hb := hb.1 c4
    exact wp_vret rfl dJ7_fill_53178_20 ⟨rfl, hb⟩
  · have hb := hb.2 c4
    obtain ⟨i5, hb⟩ := hb
    refine wp_aload_n 0 dJ7_fill_53178_10 rfl rfl ?_
    refine wp_iload_n 2 dJ7_fill_53178_11 rfl rfl ?_
    refine wp_iload_n 1 dJ7_fill_53178_12 rfl rfl ?_
    obtain ⟨b6, hb⟩ := hb
    refine wp_iastore dJ7_fill_53178_13 i5 b6 ?_
    refine wp_topH (fun h7 e8 => ?_)
    have hb := hb h7 e8
    obtain ⟨v9, e10⟩ : ∃ y : Int32, y = x2 + (1) := ⟨_, rfl⟩
    have hb := hb v9 e10
    refine wp_iinc (v := v9) (lv2 := [(2, .int v9), (0, .ref x0), (1, .int x1), (3, .int x3)]) 2 dJ7_fill_53178_14 rfl (by rw [e10]; rfl) (by decide) rfl ?_
    refine wp_goto (tgt := 5) dJ7_fill_53178_17 (by decide) ?_
    exact wp_sub [1, 2, 0, 3] rfl hb
theorem c_J7_fill_53178 {l : Launch} {g : AG} {h : AH} {x0 : Nat} {x1 : Int32}  {Q : AH → Prop} (hb : L_J7_fill_53178_0 l g h x0 x1  Q) : C_J7_fill_53178 l g h x0 x1  Q := ax_met rfl rfl (Nat.le_of_ble_eq_true rfl) hb
def C_X6_clear (l : Launch) (g : AG) (h : AH) (x0 : Nat)  (Q : AH → Prop) : Prop := Ct l g mX6_clear 1 23 194 194 h [.ref x0] (ax_QV Q)
def L_X6_clear_0 (l : Launch) (g : AG) (h : AH) (x0 : Nat)  (Q : AH → Prop) : Prop := Wp l g mX6_clear 1 23 194 194 194 0 [(0, .ref x0)] [] h (FM g 194 194 (ax_QV Q))
set_option maxRecDepth 100000 in
set_option maxHeartbeats 4000000 in
theorem s_X6_clear_0 {l : Launch} {g : AG} {h : AH} {x0 : Nat}  {Q : AH → Prop} (hb : (Is 194 x0 5) ∧ ( ∀ h2 : AH, h2 = ax_setI h x0 0 0 → ( (Is 194 (h2.2.2 x0 6) 20) ∧ ( C_J7_fill_53178 l g h2 (h2.2.2 x0 6) 0 (fun h6 => ( Q h6)))))) : L_X6_clear_0 l g h x0  Q := by
  obtain ⟨i1, hb⟩ := hb
  refine wp_aload_n 0 dX6_clear_0 rfl rfl ?_
  refine wp_iconst (v := 0) dX6_clear_1 (by decide) ?_
  refine wp_putI dX6_clear_2 fl_X6_9 (Or.inl rfl) i1 ?_
  refine wp_topH (fun h2 e3 => ?_)
  have hb := hb h2 e3
  refine wp_aload_n 0 dX6_clear_5 rfl rfl ?_
  obtain ⟨i4, hb⟩ := hb
  refine wp_getR dX6_clear_6 fl_X6_32 i1 (i4.ne (by decide)) ?_
  refine wp_iconst (v := 0) dX6_clear_9 (by decide) ?_
  refine wp_callS (as := [.ref (h2.2.2 x0 6), .int 0]) dX6_clear_10 cb_J7_fill_53178 lk_X6_35 st_J7_fill_53178 rfl (Nat.le_of_ble_eq_true rfl) ⟨by decide, by decide⟩ ⟨Nat.le_refl _, Nat.le_refl _, Nat.le_refl _⟩ hb (fun r0 h6 hb => ?_)
  obtain ⟨rfl, hb⟩ := hb
  exact wp_vret rfl dX6_clear_13 ⟨rfl, hb⟩
theorem c_X6_clear {l : Launch} {g : AG} {h : AH} {x0 : Nat}  {Q : AH → Prop} (hb : L_X6_clear_0 l g h x0  Q) : C_X6_clear l g h x0  Q := ax_met rfl rfl (Nat.le_of_ble_eq_true rfl) hb
def C_X6_keep (l : Launch) (g : AG) (h : AH) (x0 : Nat) (x1 : Int32) (x2 : Int64) (x4 : Int64) (x6 : Int32) (x7 : Int32)  (Q : Int32 → AH → Prop) : Prop := Ct l g mX6_keep 0 0 194 194 h [.ref x0, .int x1, .long x2, .long x4, .int x6, .int x7] (ax_QI Q)
def L_X6_keep_0 (l : Launch) (g : AG) (h : AH) (x0 : Nat) (x1 : Int32) (x2 : Int64) (x4 : Int64) (x6 : Int32) (x7 : Int32)  (Q : Int32 → AH → Prop) : Prop := Wp l g mX6_keep 0 0 194 194 194 0 [(0, .ref x0), (1, .int x1), (2, .long x2), (4, .long x4), (6, .int x6), (7, .int x7)] [] h (FM g 194 194 (ax_QI Q))
def L_X6_keep_65 (l : Launch) (g : AG) (h : AH) (x0 : Nat) (x1 : Int32) (x8 : Int32) (s0 : Int32) (s1 : Int32) (s2 : Nat) (Q : Int32 → AH → Prop) : Prop := Wp l g mX6_keep 0 0 194 194 194 65 [(0, .ref x0), (1, .int x1), (8, .int x8)] [.int s0, .int s1, .ref s2] h (FM g 194 194 (ax_QI Q))
set_option maxRecDepth 100000 in
set_option maxHeartbeats 4000000 in
theorem s_X6_keep_0 {l : Launch} {g : AG} {h : AH} {x0 : Nat} {x1 : Int32} {x2 : Int64} {x4 : Int64} {x6 : Int32} {x7 : Int32}  {Q : Int32 → AH → Prop} (hb : (Is 194 x0 5) ∧ ( ∀ v2 : Int32, v2 = (h.1 x0 0) → ( (Is 194 (h.2.2 x0 1) 21) ∧ ( (vp_in v2 (ax_s (h.2.2 x0 1)).2) ∧ ( ∀ h6 : AH, h6 = ax_setL h (h.2.2 x0 1) v2.toNatClampNeg x2 → ( (Is 194 (h6.2.2 x0 2) 21) ∧ ( (vp_in v2 (ax_s (h6.2.2 x0 2)).2) ∧ ( ∀ h10 : AH, h10 = ax_setL h6 (h6.2.2 x0 2) v2.toNatClampNeg x4 → ( (Is 194 (h10.2.2 x0 3) 20) ∧ ( (vp_in v2 (ax_s (h10.2.2 x0 3)).2) ∧ ( ∀ h14 : AH, h14 = ax_setI h10 (h10.2.2 x0 3) v2.toNatClampNeg x6 → ( (Is 194 (h14.2.2 x0 4) 20) ∧ ( (vp_in v2 (ax_s (h14.2.2 x0 4)).2) ∧ ( ∀ h18 : AH, h18 = ax_setI h14 (h14.2.2 x0 4) v2.toNatClampNeg x7 → ( (Is 194 (h18.2.2 x0 5) 20) ∧ ( ((0 ≤ x6 → ((Is 194 (h18.2.2 x0 5) 20) ∧ ( (vp_in x6 (ax_s (h18.2.2 x0 5)).2) ∧ ( L_X6_keep_65 l g h18 x0 x1 v2 ((h18.1 (h18.2.2 x0 5) x6.toNatClampNeg) + 1) v2 (h18.2.2 x0 5) Q)))) ∧ (¬ (0 ≤ x6) → (L_X6_keep_65 l g h18 x0 x1 v2 0 v2 (h18.2.2 x0 5) Q))))))))))))))))))) : L_X6_keep_0 l g h x0 x1 x2 x4 x6 x7  Q := by
  obtain ⟨i1, hb⟩ := hb
  refine wp_aload_n 0 dX6_keep_0 rfl rfl ?_
  refine wp_getI dX6_keep_1 fl_X6_9 i1 ?_
  refine wp_topi (fun v2 e3 => ?_)
  have hb := hb v2 e3
  refine wp_istore (lv2 := [(8, .int v2), (0, .ref x0), (1, .int x1), (2, .long x2), (4, .long x4), (6, .int x6), (7, .int x7)]) dX6_keep_4 (by decide) rfl ?_
  refine wp_aload_n 1 dX6_keep_6 rfl rfl ?_
  obtain ⟨i4, hb⟩ := hb
  refine wp_getR dX6_keep_7 fl_X6_15 i1 (i4.ne (by decide)) ?_
  refine wp_iload 0 dX6_keep_10 rfl ?_
  refine wp_lload_n 3 dX6_keep_12 rfl rfl ?_
  obtain ⟨b5, hb⟩ := hb
  refine wp_lastore dX6_keep_13 i4 b5 ?_
  refine wp_topH (fun h6 e7 => ?_)
  have hb := hb h6 e7
  refine wp_aload_n 1 dX6_keep_14 rfl rfl ?_
  obtain ⟨i8, hb⟩ := hb
  refine wp_getR dX6_keep_15 fl_X6_19 i1 (i8.ne (by decide)) ?_
  refine wp_iload 0 dX6_keep_18 rfl ?_
  refine wp_lload 4 dX6_keep_20 rfl ?_
  obtain ⟨b9, hb⟩ := hb
  refine wp_lastore dX6_keep_22 i8 b9 ?_
  refine wp_topH (fun h10 e11 => ?_)
  have hb := hb h10 e11
  refine wp_aload_n 1 dX6_keep_23 rfl rfl ?_
  obtain ⟨i12, hb⟩ := hb
  refine wp_getR dX6_keep_24 fl_X6_22 i1 (i12.ne (by decide)) ?_
  refine wp_iload 0 dX6_keep_27 rfl ?_
  refine wp_iload 5 dX6_keep_29 rfl ?_
  obtain ⟨b13, hb⟩ := hb
  refine wp_iastore dX6_keep_31 i12 b13 ?_
  refine wp_topH (fun h14 e15 => ?_)
  have hb := hb h14 e15
  refine wp_aload_n 1 dX6_keep_32 rfl rfl ?_
  obtain ⟨i16, hb⟩ := hb
  refine wp_getR dX6_keep_33 fl_X6_26 i1 (i16.ne (by decide)) ?_
  refine wp_iload 0 dX6_keep_36 rfl ?_
  refine wp_iload 6 dX6_keep_38 rfl ?_
  obtain ⟨b17, hb⟩ := hb
  refine wp_iastore dX6_keep_40 i16 b17 ?_
  refine wp_topH (fun h18 e19 => ?_)
  have hb := hb h18 e19
  refine wp_aload_n 1 dX6_keep_41 rfl rfl ?_
  obtain ⟨i20, hb⟩ := hb
  refine wp_getR dX6_keep_42 fl_X6_29 i1 (i20.ne (by decide)) ?_
  refine wp_iload 0 dX6_keep_45 rfl ?_
  refine wp_iload 5 dX6_keep_47 rfl ?_
  refine wp_if_ge (tgt := 56) dX6_keep_49 (by decide) (fun c21 => ?_) (fun c21 => ?_)
  · have hb := hb.1 c21
    refine wp_aload_n 1 dX6_keep_56 rfl rfl ?_
    obtain ⟨i22, hb⟩ := hb
    refine wp_getR dX6_keep_57 fl_X6_29 i1 (i22.ne (by decide)) ?_
    refine wp_iload 5 dX6_keep_60 rfl ?_
    obtain ⟨b23, hb⟩ := hb
    refine wp_iaload dX6_keep_62 i22 b23 ?_
    refine wp_iconst (v := 1) dX6_keep_63 (by decide) ?_
    refine wp_iadd dX6_keep_64 ?_
    exact wp_sub [1, 2, 0] rfl hb
  · have hb := hb.2 c21
    refine wp_iconst (v := 0) dX6_keep_52 (by decide) ?_
    refine wp_goto (tgt := 65) dX6_keep_53 (by decide) ?_
    exact wp_sub [1, 2, 0] rfl hb
set_option maxRecDepth 100000 in
set_option maxHeartbeats 4000000 in
theorem s_X6_keep_65 {l : Launch} {g : AG} {h : AH} {x0 : Nat} {x1 : Int32} {x8 : Int32} {s0 : Int32} {s1 : Int32} {s2 : Nat} {Q : Int32 → AH → Prop} (hb : (Is 194 s2 20) ∧ ( (vp_in s1 (ax_s s2).2) ∧ ( ∀ h26 : AH, h26 = ax_setI h s2 s1.toNatClampNeg s0 → ( (Is 194 x0 5) ∧ ( ∀ h29 : AH, h29 = ax_setI h26 x0 0 ((h26.1 x0 0) + 1) → ( (Is 194 (h29.2.2 x0 6) 20) ∧ ( (vp_in x1 (ax_s (h29.2.2 x0 6)).2) ∧ ( ∀ h33 : AH, h33 = ax_setI h29 (h29.2.2 x0 6) x1.toNatClampNeg (h29.1 x0 0) → ( Q x8 h33))))))))) : L_X6_keep_65 l g h x0 x1 x8 s0 s1 s2 Q := by
  obtain ⟨i24, hb⟩ := hb
  obtain ⟨b25, hb⟩ := hb
  refine wp_iastore dX6_keep_65 i24 b25 ?_
  refine wp_topH (fun h26 e27 => ?_)
  have hb := hb h26 e27
  obtain ⟨i28, hb⟩ := hb
  refine wp_aload_n 0 dX6_keep_66 rfl rfl ?_
  refine wp_dup dX6_keep_67 rfl ?_
  refine wp_getI dX6_keep_68 fl_X6_9 i28 ?_
  refine wp_iconst (v := 1) dX6_keep_71 (by decide) ?_
  refine wp_iadd dX6_keep_72 ?_
  refine wp_putI dX6_keep_73 fl_X6_9 (Or.inl rfl) i28 ?_
  refine wp_topH (fun h29 e30 => ?_)
  have hb := hb h29 e30
  refine wp_aload_n 0 dX6_keep_76 rfl rfl ?_
  obtain ⟨i31, hb⟩ := hb
  refine wp_getR dX6_keep_77 fl_X6_32 i28 (i31.ne (by decide)) ?_
  refine wp_iload_n 1 dX6_keep_80 rfl rfl ?_
  refine wp_aload_n 0 dX6_keep_81 rfl rfl ?_
  refine wp_getI dX6_keep_82 fl_X6_9 i28 ?_
  obtain ⟨b32, hb⟩ := hb
  refine wp_iastore dX6_keep_85 i31 b32 ?_
  refine wp_topH (fun h33 e34 => ?_)
  have hb := hb h33 e34
  refine wp_iload 2 dX6_keep_86 rfl ?_
  exact wp_iret rfl dX6_keep_88 ⟨_, rfl, hb⟩
theorem c_X6_keep {l : Launch} {g : AG} {h : AH} {x0 : Nat} {x1 : Int32} {x2 : Int64} {x4 : Int64} {x6 : Int32} {x7 : Int32}  {Q : Int32 → AH → Prop} (hb : L_X6_keep_0 l g h x0 x1 x2 x4 x6 x7  Q) : C_X6_keep l g h x0 x1 x2 x4 x6 x7  Q := ax_met rfl rfl (Nat.le_of_ble_eq_true rfl) hb
def C_X6_meet (l : Launch) (g : AG) (h : AH) (x0 : Nat) (x1 : Int64) (x3 : Int64) (x5 : Int32) (x6 : Int32)  (Q : Int32 → AH → Prop) : Prop := Ct l g mX6_meet 1 28 194 194 h [.ref x0, .long x1, .long x3, .int x5, .int x6] (ax_QI Q)
def L_X6_meet_0 (l : Launch) (g : AG) (h : AH) (x0 : Nat) (x1 : Int64) (x3 : Int64) (x5 : Int32) (x6 : Int32)  (Q : Int32 → AH → Prop) : Prop := Wp l g mX6_meet 1 28 194 194 194 0 [(0, .ref x0), (1, .long x1), (3, .long x3), (5, .int x5), (6, .int x6)] [] h (FM g 194 194 (ax_QI Q))
def L_X6_meet_20 (l : Launch) (g : AG) (h : AH) (x0 : Nat) (x1 : Int64) (x3 : Int64) (x5 : Int32) (x6 : Int32) (x7 : Int32) (x8 : Int32)  (Q : Int32 → AH → Prop) : Prop := Wp l g mX6_meet 1 28 194 194 194 20 [(0, .ref x0), (1, .long x1), (3, .long x3), (5, .int x5), (6, .int x6), (7, .int x7), (8, .int x8)] [] h (FM g 194 194 (ax_QI Q))
set_option maxRecDepth 100000 in
set_option maxHeartbeats 4000000 in
theorem s_X6_meet_0 {l : Launch} {g : AG} {h : AH} {x0 : Nat} {x1 : Int64} {x3 : Int64} {x5 : Int32} {x6 : Int32}  {Q : Int32 → AH → Prop} (hb : ∀ v1 : Int64, v1 = ((x1 * (-7046029254386353131)) + (x3 * (-4417276706812531889))) → ( ∀ v3 : Int32, v3 = ((jlushr v1 54).toInt32) → ( L_X6_meet_20 l g h x0 x1 x3 x5 x6 v3 0  Q))) : L_X6_meet_0 l g h x0 x1 x3 x5 x6  Q := by
  refine wp_lload_n 1 dX6_meet_0 rfl rfl ?_
  refine wp_ldc2 (v := (-7046029254386353131)) dX6_meet_1 lk_X6_41 ?_
  refine wp_lmul dX6_meet_4 ?_
  refine wp_lload_n 2 dX6_meet_5 rfl rfl ?_
  refine wp_ldc2 (v := (-4417276706812531889)) dX6_meet_6 lk_X6_43 ?_
  refine wp_lmul dX6_meet_9 ?_
  refine wp_ladd dX6_meet_10 ?_
  refine wp_topl (fun v1 e2 => ?_)
  have hb := hb v1 e2
  refine wp_bipush (v := 54) dX6_meet_11 (by decide) ?_
  refine wp_lushr dX6_meet_13 ?_
  refine wp_l2i dX6_meet_14 ?_
  refine wp_topi (fun v3 e4 => ?_)
  have hb := hb v3 e4
  refine wp_istore (lv2 := [(7, .int v3), (0, .ref x0), (1, .long x1), (3, .long x3), (5, .int x5), (6, .int x6)]) dX6_meet_15 (by decide) rfl ?_
  refine wp_iconst (v := 0) dX6_meet_17 (by decide) ?_
  refine wp_istore (lv2 := [(8, .int 0), (7, .int v3), (0, .ref x0), (1, .long x1), (3, .long x3), (5, .int x5), (6, .int x6)]) dX6_meet_18 (by decide) rfl ?_
  exact wp_sub [2, 3, 4, 5, 6, 1, 0] rfl hb
set_option maxRecDepth 100000 in
set_option maxHeartbeats 4000000 in
theorem s_X6_meet_20 {l : Launch} {g : AG} {h : AH} {x0 : Nat} {x1 : Int64} {x3 : Int64} {x5 : Int32} {x6 : Int32} {x7 : Int32} {x8 : Int32}  {Q : Int32 → AH → Prop} (hb : ((1024 ≤ x8 → (Q (-1) h)) ∧ (¬ (1024 ≤ x8) → (∀ v6 : Int32, v6 = ((x7 + x8) &&& 1023) → ( (Is 194 x0 5) ∧ ( (Is 194 (h.2.2 x0 6) 20) ∧ ( (vp_in v6 (ax_s (h.2.2 x0 6)).2) ∧ ( ∀ v11 : Int32, v11 = ((h.1 (h.2.2 x0 6) v6.toNatClampNeg) - 1) → ( ((0 ≤ v11 → ((Is 194 (h.2.2 x0 1) 21) ∧ ( (vp_in v11 (ax_s (h.2.2 x0 1)).2) ∧ ( ((¬ lg_cmp (h.2.1 (h.2.2 x0 1) v11.toNatClampNeg) x1 = 0 → (∀ v17 : Int32, v17 = x8 + (1) → ( L_X6_meet_20 l g h x0 x1 x3 x5 x6 x7 v17  Q))) ∧ (lg_cmp (h.2.1 (h.2.2 x0 1) v11.toNatClampNeg) x1 = 0 → ((Is 194 (h.2.2 x0 2) 21) ∧ ( (vp_in v11 (ax_s (h.2.2 x0 2)).2) ∧ ( ((¬ lg_cmp (h.2.1 (h.2.2 x0 2) v11.toNatClampNeg) x3 = 0 → (∀ v22 : Int32, v22 = x8 + (1) → ( L_X6_meet_20 l g h x0 x1 x3 x5 x6 x7 v22  Q))) ∧ (lg_cmp (h.2.1 (h.2.2 x0 2) v11.toNatClampNeg) x3 = 0 → (Q v11 h)))))))))))) ∧ (¬ (0 ≤ v11) → (((400 ≤ h.1 x0 0 → (Q (-1) h)) ∧ (¬ (400 ≤ h.1 x0 0) → (C_X6_keep l g h x0 v6 x1 x3 x5 x6 (fun r27 h26 => ( Q r27 h26))))))))))))))))) : L_X6_meet_20 l g h x0 x1 x3 x5 x6 x7 x8  Q := by
  refine wp_iload 6 dX6_meet_20 rfl ?_
  refine wp_sipush (v := 1024) dX6_meet_22 (by decide) ?_
  refine wp_icmp_ge (tgt := 115) dX6_meet_25 (by decide) (fun c5 => ?_) (fun c5 => ?_)
  · have hb := hb.1 c5
    refine wp_iconst (v := (-1)) dX6_meet_115 (by decide) ?_
    exact wp_iret rfl dX6_meet_116 ⟨_, rfl, hb⟩
  · have hb := hb.2 c5
    refine wp_iload 5 dX6_meet_28 rfl ?_
    refine wp_iload 6 dX6_meet_30 rfl ?_
    refine wp_iadd dX6_meet_32 ?_
    refine wp_sipush (v := 1023) dX6_meet_33 (by decide) ?_
    refine wp_iand dX6_meet_36 ?_
    refine wp_topi (fun v6 e7 => ?_)
    have hb := hb v6 e7
    refine wp_istore (lv2 := [(9, .int v6), (0, .ref x0), (1, .long x1), (3, .long x3), (5, .int x5), (6, .int x6), (7, .int x7), (8, .int x8)]) dX6_meet_37 (by decide) rfl ?_
    obtain ⟨i8, hb⟩ := hb
    refine wp_aload_n 1 dX6_meet_39 rfl rfl ?_
    obtain ⟨i9, hb⟩ := hb
    refine wp_getR dX6_meet_40 fl_X6_32 i8 (i9.ne (by decide)) ?_
    refine wp_iload 0 dX6_meet_43 rfl ?_
    obtain ⟨b10, hb⟩ := hb
    refine wp_iaload dX6_meet_45 i9 b10 ?_
    refine wp_iconst (v := 1) dX6_meet_46 (by decide) ?_
    refine wp_isub dX6_meet_47 ?_
    refine wp_topi (fun v11 e12 => ?_)
    have hb := hb v11 e12
    refine wp_istore (lv2 := [(10, .int v11), (9, .int v6), (0, .ref x0), (1, .long x1), (3, .long x3), (5, .int x5), (6, .int x6), (7, .int x7), (8, .int x8)]) dX6_meet_48 (by decide) rfl ?_
    refine wp_iload 0 dX6_meet_50 rfl ?_
    refine wp_if_ge (tgt := 82) dX6_meet_52 (by decide) (fun c13 => ?_) (fun c13 => ?_)
    · have hb := hb.1 c13
      refine wp_aload_n 2 dX6_meet_82 rfl rfl ?_
      obtain ⟨i14, hb⟩ := hb
      refine wp_getR dX6_meet_83 fl_X6_15 i8 (i14.ne (by decide)) ?_
      refine wp_iload 0 dX6_meet_86 rfl ?_
      obtain ⟨b15, hb⟩ := hb
      refine wp_laload dX6_meet_88 i14 b15 ?_
      refine wp_lload_n 3 dX6_meet_89 rfl rfl ?_
      refine wp_lcmp dX6_meet_90 ?_
      refine wp_if_ne (tgt := 109) dX6_meet_91 (by decide) (fun c16 => ?_) (fun c16 => ?_)
      · have hb := hb.1 c16
        obtain ⟨v17, e18⟩ : ∃ y : Int32, y = x8 + (1) := ⟨_, rfl⟩
        have hb := hb v17 e18
        refine wp_iinc (v := v17) (lv2 := [(8, .int v17), (10, .int v11), (9, .int v6), (0, .ref x0), (1, .long x1), (3, .long x3), (5, .int x5), (6, .int x6), (7, .int x7)]) 8 dX6_meet_109 rfl (by rw [e18]; rfl) (by decide) rfl ?_
        refine wp_goto (tgt := 20) dX6_meet_112 (by decide) ?_
        exact wp_sub [3, 4, 5, 6, 7, 8, 0] rfl hb
      · have hb := hb.2 c16
        refine wp_aload_n 2 dX6_meet_94 rfl rfl ?_
        obtain ⟨i19, hb⟩ := hb
        refine wp_getR dX6_meet_95 fl_X6_19 i8 (i19.ne (by decide)) ?_
        refine wp_iload 0 dX6_meet_98 rfl ?_
        obtain ⟨b20, hb⟩ := hb
        refine wp_laload dX6_meet_100 i19 b20 ?_
        refine wp_lload_n 4 dX6_meet_101 rfl rfl ?_
        refine wp_lcmp dX6_meet_102 ?_
        refine wp_if_ne (tgt := 109) dX6_meet_103 (by decide) (fun c21 => ?_) (fun c21 => ?_)
        · have hb := hb.1 c21
          obtain ⟨v22, e23⟩ : ∃ y : Int32, y = x8 + (1) := ⟨_, rfl⟩
          have hb := hb v22 e23
          refine wp_iinc (v := v22) (lv2 := [(8, .int v22), (10, .int v11), (9, .int v6), (0, .ref x0), (1, .long x1), (3, .long x3), (5, .int x5), (6, .int x6), (7, .int x7)]) 8 dX6_meet_109 rfl (by rw [e23]; rfl) (by decide) rfl ?_
          refine wp_goto (tgt := 20) dX6_meet_112 (by decide) ?_
          exact wp_sub [3, 4, 5, 6, 7, 8, 0] rfl hb
        · have hb := hb.2 c21
          refine wp_iload 0 dX6_meet_106 rfl ?_
          exact wp_iret rfl dX6_meet_108 ⟨_, rfl, hb⟩
    · have hb := hb.2 c13
      refine wp_aload_n 2 dX6_meet_55 rfl rfl ?_
      refine wp_getI dX6_meet_56 fl_X6_9 i8 ?_
      refine wp_sipush (v := 400) dX6_meet_59 (by decide) ?_
      refine wp_icmp_ge (tgt := 80) dX6_meet_62 (by decide) (fun c24 => ?_) (fun c24 => ?_)
      · have hb := hb.1 c24
        refine wp_iconst (v := (-1)) dX6_meet_80 (by decide) ?_
        exact wp_iret rfl dX6_meet_81 ⟨_, rfl, hb⟩
      · have hb := hb.2 c24
        refine wp_aload_n 2 dX6_meet_65 rfl rfl ?_
        refine wp_iload 1 dX6_meet_66 rfl ?_
        refine wp_lload_n 3 dX6_meet_68 rfl rfl ?_
        refine wp_lload_n 4 dX6_meet_69 rfl rfl ?_
        refine wp_iload 5 dX6_meet_70 rfl ?_
        refine wp_iload 6 dX6_meet_72 rfl ?_
        refine wp_callV (as := [.int v6, .long x1, .long x3, .int x5, .int x6]) dX6_meet_74 cb_X6_keep lk_X6_45 im_X6_keep se_X6_keep rfl (Nat.le_of_ble_eq_true rfl) ⟨by decide, by decide⟩ ⟨Nat.le_refl _, Nat.le_refl _, Nat.le_refl _⟩ i8 rfl (by decide) hb (fun r0 h26 hb => ?_)
        obtain ⟨r27, rfl, hb⟩ := hb
        refine wp_goto (tgt := 81) dX6_meet_77 (by decide) ?_
        exact wp_iret rfl dX6_meet_81 ⟨_, rfl, hb⟩
theorem c_X6_meet {l : Launch} {g : AG} {h : AH} {x0 : Nat} {x1 : Int64} {x3 : Int64} {x5 : Int32} {x6 : Int32}  {Q : Int32 → AH → Prop} (hb : L_X6_meet_0 l g h x0 x1 x3 x5 x6  Q) : C_X6_meet l g h x0 x1 x3 x5 x6  Q := ax_met rfl rfl (Nat.le_of_ble_eq_true rfl) hb
