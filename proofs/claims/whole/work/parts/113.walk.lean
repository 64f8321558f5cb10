def C_X12_feed (l : Launch) (g : AG) (h : AH) (x0 : Nat) (x1 : Int32) (x2 : Int32) (x3 : Int32) (x4 : Int32) (x5 : Int32)  (Q : Int32 → AH → Prop) : Prop := Ct l g mX12_feed 0 0 194 194 h [.ref x0, .int x1, .int x2, .int x3, .int x4, .int x5] (ax_QI Q)
def L_X12_feed_0 (l : Launch) (g : AG) (h : AH) (x0 : Nat) (x1 : Int32) (x2 : Int32) (x3 : Int32) (x4 : Int32) (x5 : Int32)  (Q : Int32 → AH → Prop) : Prop := Wp l g mX12_feed 0 0 194 194 194 0 [(0, .ref x0), (1, .int x1), (2, .int x2), (3, .int x3), (4, .int x4), (5, .int x5)] [] h (FM g 194 194 (ax_QI Q))
def L_X12_feed_23 (l : Launch) (g : AG) (h : AH) (x0 : Nat) (x1 : Int32) (x2 : Int32) (x3 : Int32) (x4 : Int32) (x5 : Int32) (x6 : Int32)  (Q : Int32 → AH → Prop) : Prop := Wp l g mX12_feed 0 0 194 194 194 23 [(0, .ref x0), (1, .int x1), (2, .int x2), (3, .int x3), (4, .int x4), (5, .int x5), (6, .int x6)] [] h (FM g 194 194 (ax_QI Q))
def L_X12_feed_76 (l : Launch) (g : AG) (h : AH) (x0 : Nat) (x1 : Int32) (x2 : Int32) (x3 : Int32) (x4 : Int32) (x5 : Int32) (x6 : Int32) (s0 : Int32) (Q : Int32 → AH → Prop) : Prop := Wp l g mX12_feed 0 0 194 194 194 76 [(0, .ref x0), (1, .int x1), (2, .int x2), (3, .int x3), (4, .int x4), (5, .int x5), (6, .int x6)] [.int s0] h (FM g 194 194 (ax_QI Q))
set_option maxRecDepth 100000 in
set_option maxHeartbeats 4000000 in
theorem s_X12_feed_0 {l : Launch} {g : AG} {h : AH} {x0 : Nat} {x1 : Int32} {x2 : Int32} {x3 : Int32} {x4 : Int32} {x5 : Int32}  {Q : Int32 → AH → Prop} (hb : (Is 194 x0 11) ∧ ( ∀ h2 : AH, h2 = ax_setI h x0 0 0 → ( (((h2.1 x0 11) + 20 ≤ 800 → (L_X12_feed_23 l g h2 x0 x1 x2 x3 x4 x5 0  Q)) ∧ (¬ ((h2.1 x0 11) + 20 ≤ 800) → (Q (-1) h2)))))) : L_X12_feed_0 l g h x0 x1 x2 x3 x4 x5  Q := by
  obtain ⟨i1, hb⟩ := hb
  refine wp_aload_n 0 dX12_feed_0 rfl rfl ?_
  refine wp_iconst (v := 0) dX12_feed_1 (by decide) ?_
  refine wp_putI dX12_feed_2 fl_X12_1 (Or.inl rfl) i1 ?_
  refine wp_topH (fun h2 e3 => ?_)
  have hb := hb h2 e3
  refine wp_aload_n 0 dX12_feed_5 rfl rfl ?_
  refine wp_getI dX12_feed_6 fl_X12_313 i1 ?_
  refine wp_bipush (v := 20) dX12_feed_9 (by decide) ?_
  refine wp_iadd dX12_feed_11 ?_
  refine wp_sipush (v := 800) dX12_feed_12 (by decide) ?_
  refine wp_icmp_le (tgt := 20) dX12_feed_15 (by decide) (fun c4 => ?_) (fun c4 => ?_)
  · have hb := hb.1 c4
    refine wp_iconst (v := 0) dX12_feed_20 (by decide) ?_
    refine wp_istore (lv2 := [(6, .int 0), (0, .ref x0), (1, .int x1), (2, .int x2), (3, .int x3), (4, .int x4), (5, .int x5)]) dX12_feed_21 (by decide) rfl ?_
    exact wp_sub [1, 2, 3, 4, 5, 6, 0] rfl hb
  · have hb := hb.2 c4
    refine wp_iconst (v := (-1)) dX12_feed_18 (by decide) ?_
    exact wp_iret rfl dX12_feed_19 ⟨_, rfl, hb⟩
set_option maxRecDepth 100000 in
set_option maxHeartbeats 4000000 in
theorem s_X12_feed_23 {l : Launch} {g : AG} {h : AH} {x0 : Nat} {x1 : Int32} {x2 : Int32} {x3 : Int32} {x4 : Int32} {x5 : Int32} {x6 : Int32}  {Q : Int32 → AH → Prop} (hb : ((20 ≤ x6 → ((Is 194 x0 11) ∧ ( Q (h.1 x0 11) h))) ∧ (¬ (20 ≤ x6) → (((4 ≤ x6 → (((8 ≤ x6 → (((12 ≤ x6 → (((16 ≤ x6 → (L_X12_feed_76 l g h x0 x1 x2 x3 x4 x5 x6 x5 Q)) ∧ (¬ (16 ≤ x6) → (L_X12_feed_76 l g h x0 x1 x2 x3 x4 x5 x6 x4 Q))))) ∧ (¬ (12 ≤ x6) → (L_X12_feed_76 l g h x0 x1 x2 x3 x4 x5 x6 x3 Q))))) ∧ (¬ (8 ≤ x6) → (L_X12_feed_76 l g h x0 x1 x2 x3 x4 x5 x6 x2 Q))))) ∧ (¬ (4 ≤ x6) → (L_X12_feed_76 l g h x0 x1 x2 x3 x4 x5 x6 x1 Q))))))) : L_X12_feed_23 l g h x0 x1 x2 x3 x4 x5 x6  Q := by
  refine wp_iload 6 dX12_feed_23 rfl ?_
  refine wp_bipush (v := 20) dX12_feed_25 (by decide) ?_
  refine wp_icmp_ge (tgt := 117) dX12_feed_27 (by decide) (fun c5 => ?_) (fun c5 => ?_)
  · have hb := hb.1 c5
    obtain ⟨i6, hb⟩ := hb
    refine wp_aload_n 0 dX12_feed_117 rfl rfl ?_
    refine wp_getI dX12_feed_118 fl_X12_313 i6 ?_
    exact wp_iret rfl dX12_feed_121 ⟨_, rfl, hb⟩
  · have hb := hb.2 c5
    refine wp_iload 6 dX12_feed_30 rfl ?_
    refine wp_iconst (v := 4) dX12_feed_32 (by decide) ?_
    refine wp_icmp_ge (tgt := 40) dX12_feed_33 (by decide) (fun c7 => ?_) (fun c7 => ?_)
    · have hb := hb.1 c7
      refine wp_iload 6 dX12_feed_40 rfl ?_
      refine wp_bipush (v := 8) dX12_feed_42 (by decide) ?_
      refine wp_icmp_ge (tgt := 51) dX12_feed_44 (by decide) (fun c8 => ?_) (fun c8 => ?_)
      · have hb := hb.1 c8
        refine wp_iload 6 dX12_feed_51 rfl ?_
        refine wp_bipush (v := 12) dX12_feed_53 (by decide) ?_
        refine wp_icmp_ge (tgt := 62) dX12_feed_55 (by decide) (fun c9 => ?_) (fun c9 => ?_)
        · have hb := hb.1 c9
          refine wp_iload 6 dX12_feed_62 rfl ?_
          refine wp_bipush (v := 16) dX12_feed_64 (by decide) ?_
          refine wp_icmp_ge (tgt := 74) dX12_feed_66 (by decide) (fun c10 => ?_) (fun c10 => ?_)
          · have hb := hb.1 c10
            refine wp_iload 5 dX12_feed_74 rfl ?_
            exact hb
          · have hb := hb.2 c10
            refine wp_iload 4 dX12_feed_69 rfl ?_
            refine wp_goto (tgt := 76) dX12_feed_71 (by decide) ?_
            exact hb
        · have hb := hb.2 c9
          refine wp_iload_n 3 dX12_feed_58 rfl rfl ?_
          refine wp_goto (tgt := 76) dX12_feed_59 (by decide) ?_
          exact hb
      · have hb := hb.2 c8
        refine wp_iload_n 2 dX12_feed_47 rfl rfl ?_
        refine wp_goto (tgt := 76) dX12_feed_48 (by decide) ?_
        exact hb
    · have hb := hb.2 c7
      refine wp_iload_n 1 dX12_feed_36 rfl rfl ?_
      refine wp_goto (tgt := 76) dX12_feed_37 (by decide) ?_
      exact hb
set_option maxRecDepth 100000 in
set_option maxHeartbeats 4000000 in
theorem s_X12_feed_76 {l : Launch} {g : AG} {h : AH} {x0 : Nat} {x1 : Int32} {x2 : Int32} {x3 : Int32} {x4 : Int32} {x5 : Int32} {x6 : Int32} {s0 : Int32} {Q : Int32 → AH → Prop} (hb : (Is 194 x0 11) ∧ ( (Is 194 (h.2.2 x0 10) 22) ∧ ( (vp_in (h.1 x0 11) (ax_s (h.2.2 x0 10)).2) ∧ ( ∀ h14 : AH, h14 = ax_setI h (h.2.2 x0 10) (h.1 x0 11).toNatClampNeg (vp_nar .byte ((jishr s0 (24 - (8 * (jirem x6 4)))).toInt8.toInt32)) → ( ∀ h16 : AH, h16 = ax_setI h14 x0 11 ((h14.1 x0 11) + 1) → ( ∀ v18 : Int32, v18 = x6 + (1) → ( L_X12_feed_23 l g h16 x0 x1 x2 x3 x4 x5 v18  Q))))))) : L_X12_feed_76 l g h x0 x1 x2 x3 x4 x5 x6 s0 Q := by
  refine wp_istore (lv2 := [(7, .int s0), (0, .ref x0), (1, .int x1), (2, .int x2), (3, .int x3), (4, .int x4), (5, .int x5), (6, .int x6)]) dX12_feed_76 (by decide) rfl ?_
  obtain ⟨i11, hb⟩ := hb
  refine wp_aload_n 1 dX12_feed_78 rfl rfl ?_
  obtain ⟨i12, hb⟩ := hb
  refine wp_getR dX12_feed_79 fl_X12_48 i11 (i12.ne (by decide)) ?_
  refine wp_aload_n 1 dX12_feed_82 rfl rfl ?_
  refine wp_getI dX12_feed_83 fl_X12_313 i11 ?_
  refine wp_iload 0 dX12_feed_86 rfl ?_
  refine wp_bipush (v := 24) dX12_feed_88 (by decide) ?_
  refine wp_bipush (v := 8) dX12_feed_90 (by decide) ?_
  refine wp_iload 7 dX12_feed_92 rfl ?_
  refine wp_iconst (v := 4) dX12_feed_94 (by decide) ?_
  refine wp_irem dX12_feed_95 (by decide) ?_
  refine wp_imul dX12_feed_96 ?_
  refine wp_isub dX12_feed_97 ?_
  refine wp_ishr dX12_feed_98 ?_
  refine wp_i2b dX12_feed_99 ?_
  obtain ⟨b13, hb⟩ := hb
  refine wp_bastore dX12_feed_100 i12 b13 ?_
  refine wp_topH (fun h14 e15 => ?_)
  have hb := hb h14 e15
  refine wp_aload_n 1 dX12_feed_101 rfl rfl ?_
  refine wp_dup dX12_feed_102 rfl ?_
  refine wp_getI dX12_feed_103 fl_X12_313 i11 ?_
  refine wp_iconst (v := 1) dX12_feed_106 (by decide) ?_
  refine wp_iadd dX12_feed_107 ?_
  refine wp_putI dX12_feed_108 fl_X12_313 (Or.inl rfl) i11 ?_
  refine wp_topH (fun h16 e17 => ?_)
  have hb := hb h16 e17
  obtain ⟨v18, e19⟩ : ∃ y : Int32, y = x6 + (1) := ⟨_, rfl⟩
  have hb := hb v18 e19
  refine wp_iinc (v := v18) (lv2 := [(6, .int v18), (7, .int s0), (0, .ref x0), (1, .int x1), (2, .int x2), (3, .int x3), (4, .int x4), (5, .int x5)]) 7 dX12_feed_111 rfl (by rw [e19]; rfl) (by decide) rfl ?_
  refine wp_goto (tgt := 23) dX12_feed_114 (by decide) ?_
  exact wp_sub [2, 3, 4, 5, 6, 7, 0] rfl hb
theorem c_X12_feed {l : Launch} {g : AG} {h : AH} {x0 : Nat} {x1 : Int32} {x2 : Int32} {x3 : Int32} {x4 : Int32} {x5 : Int32}  {Q : Int32 → AH → Prop} (hb : L_X12_feed_0 l g h x0 x1 x2 x3 x4 x5  Q) : C_X12_feed l g h x0 x1 x2 x3 x4 x5  Q := ax_met rfl rfl (Nat.le_of_ble_eq_true rfl) hb
def C_X12_begins (l : Launch) (g : AG) (h : AH) (x0 : Nat)  (Q : AH → Prop) : Prop := Ct l g mX12_begins 0 0 194 194 h [.ref x0] (ax_QV Q)
def L_X12_begins_0 (l : Launch) (g : AG) (h : AH) (x0 : Nat)  (Q : AH → Prop) : Prop := Wp l g mX12_begins 0 0 194 194 194 0 [(0, .ref x0)] [] h (FM g 194 194 (ax_QV Q))
def L_X12_begins_26 (l : Launch) (g : AG) (h : AH) (x0 : Nat) (x1 : Int32)  (Q : AH → Prop) : Prop := Wp l g mX12_begins 0 0 194 194 194 26 [(0, .ref x0), (1, .int x1)] [] h (FM g 194 194 (ax_QV Q))
set_option maxRecDepth 100000 in
set_option maxHeartbeats 4000000 in
theorem s_X12_begins_0 {l : Launch} {g : AG} {h : AH} {x0 : Nat}  {Q : AH → Prop} (hb : (Is 194 x0 11) ∧ ( ∀ h2 : AH, h2 = ax_setI h x0 19 0 → ( ∀ h4 : AH, h4 = ax_setI h2 x0 20 1 → ( (Is 194 (h4.2.2 x0 21) 20) ∧ ( (vp_in 0 (ax_s (h4.2.2 x0 21)).2) ∧ ( ∀ h8 : AH, h8 = ax_setI h4 (h4.2.2 x0 21) (0 : Int32).toNatClampNeg 0 → ( (Is 194 (h8.2.2 x0 22) 20) ∧ ( (vp_in 0 (ax_s (h8.2.2 x0 22)).2) ∧ ( ∀ h12 : AH, h12 = ax_setI h8 (h8.2.2 x0 22) (0 : Int32).toNatClampNeg 0 → ( L_X12_begins_26 l g h12 x0 0  Q)))))))))) : L_X12_begins_0 l g h x0  Q := by
  obtain ⟨i1, hb⟩ := hb
  refine wp_aload_n 0 dX12_begins_0 rfl rfl ?_
  refine wp_iconst (v := 0) dX12_begins_1 (by decide) ?_
  refine wp_putI dX12_begins_2 fl_X12_343 (Or.inl rfl) i1 ?_
  refine wp_topH (fun h2 e3 => ?_)
  have hb := hb h2 e3
  refine wp_aload_n 0 dX12_begins_5 rfl rfl ?_
  refine wp_iconst (v := 1) dX12_begins_6 (by decide) ?_
  refine wp_putI dX12_begins_7 fl_X12_346 (Or.inl rfl) i1 ?_
  refine wp_topH (fun h4 e5 => ?_)
  have hb := hb h4 e5
  refine wp_aload_n 0 dX12_begins_10 rfl rfl ?_
  obtain ⟨i6, hb⟩ := hb
  refine wp_getR dX12_begins_11 fl_X12_52 i1 (i6.ne (by decide)) ?_
  refine wp_iconst (v := 0) dX12_begins_14 (by decide) ?_
  refine wp_iconst (v := 0) dX12_begins_15 (by decide) ?_
  obtain ⟨b7, hb⟩ := hb
  refine wp_iastore dX12_begins_16 i6 b7 ?_
  refine wp_topH (fun h8 e9 => ?_)
  have hb := hb h8 e9
  refine wp_aload_n 0 dX12_begins_17 rfl rfl ?_
  obtain ⟨i10, hb⟩ := hb
  refine wp_getR dX12_begins_18 fl_X12_56 i1 (i10.ne (by decide)) ?_
  refine wp_iconst (v := 0) dX12_begins_21 (by decide) ?_
  refine wp_iconst (v := 0) dX12_begins_22 (by decide) ?_
  obtain ⟨b11, hb⟩ := hb
  refine wp_iastore dX12_begins_23 i10 b11 ?_
  refine wp_topH (fun h12 e13 => ?_)
  have hb := hb h12 e13
  refine wp_iconst (v := 0) dX12_begins_24 (by decide) ?_
  refine wp_istore_n (lv2 := [(1, .int 0), (0, .ref x0)]) dX12_begins_25 rfl (by decide) rfl ?_
  exact wp_sub [1, 0] rfl hb
set_option maxRecDepth 100000 in
set_option maxHeartbeats 4000000 in
theorem s_X12_begins_26 {l : Launch} {g : AG} {h : AH} {x0 : Nat} {x1 : Int32}  {Q : AH → Prop} (hb : ((6 ≤ x1 → (Q h)) ∧ (¬ (6 ≤ x1) → ((Is 194 x0 11) ∧ ( (Is 194 (h.2.2 x0 23) 20) ∧ ( (vp_in x1 (ax_s (h.2.2 x0 23)).2) ∧ ( ∀ h18 : AH, h18 = ax_setI h (h.2.2 x0 23) x1.toNatClampNeg 0 → ( ∀ v20 : Int32, v20 = x1 + (1) → ( L_X12_begins_26 l g h18 x0 v20  Q))))))))) : L_X12_begins_26 l g h x0 x1  Q := by
  refine wp_iload_n 1 dX12_begins_26 rfl rfl ?_
  refine wp_bipush (v := 6) dX12_begins_27 (by decide) ?_
  refine wp_icmp_ge (tgt := 45) dX12_begins_29 (by decide) (fun c14 => ?_) (fun c14 => ?_)
  · have hb := hb.1 c14
    exact wp_vret rfl dX12_begins_45 ⟨rfl, hb⟩
  · have hb := hb.2 c14
    obtain ⟨i15, hb⟩ := hb
    refine wp_aload_n 0 dX12_begins_32 rfl rfl ?_
    obtain ⟨i16, hb⟩ := hb
    refine wp_getR dX12_begins_33 fl_X12_59 i15 (i16.ne (by decide)) ?_
    refine wp_iload_n 1 dX12_begins_36 rfl rfl ?_
    refine wp_iconst (v := 0) dX12_begins_37 (by decide) ?_
    obtain ⟨b17, hb⟩ := hb
    refine wp_iastore dX12_begins_38 i16 b17 ?_
    refine wp_topH (fun h18 e19 => ?_)
    have hb := hb h18 e19
    obtain ⟨v20, e21⟩ : ∃ y : Int32, y = x1 + (1) := ⟨_, rfl⟩
    have hb := hb v20 e21
    refine wp_iinc (v := v20) (lv2 := [(1, .int v20), (0, .ref x0)]) 1 dX12_begins_39 rfl (by rw [e21]; rfl) (by decide) rfl ?_
    refine wp_goto (tgt := 26) dX12_begins_42 (by decide) ?_
    exact wp_sub [1, 0] rfl hb
theorem c_X12_begins {l : Launch} {g : AG} {h : AH} {x0 : Nat}  {Q : AH → Prop} (hb : L_X12_begins_0 l g h x0  Q) : C_X12_begins l g h x0  Q := ax_met rfl rfl (Nat.le_of_ble_eq_true rfl) hb
def C_X12_packed (l : Launch) (g : AG) (h : AH) (x0 : Nat)  (Q : Int64 → AH → Prop) : Prop := Ct l g mX12_packed 0 0 194 194 h [.ref x0] (ax_QL Q)
def L_X12_packed_0 (l : Launch) (g : AG) (h : AH) (x0 : Nat)  (Q : Int64 → AH → Prop) : Prop := Wp l g mX12_packed 0 0 194 194 194 0 [(0, .ref x0)] [] h (FM g 194 194 (ax_QL Q))
def L_X12_packed_18 (l : Launch) (g : AG) (h : AH) (x0 : Nat) (x1 : Int64) (x3 : Int32)  (Q : Int64 → AH → Prop) : Prop := Wp l g mX12_packed 0 0 194 194 194 18 [(0, .ref x0), (1, .long x1), (3, .int x3)] [] h (FM g 194 194 (ax_QL Q))
set_option maxRecDepth 100000 in
set_option maxHeartbeats 4000000 in
theorem s_X12_packed_0 {l : Launch} {g : AG} {h : AH} {x0 : Nat}  {Q : Int64 → AH → Prop} (hb : (Is 194 x0 11) ∧ ( ∀ v2 : Int64, v2 = ((h.1 x0 19).toInt64) → ( ∀ v4 : Int64, v4 = ((jlshl v2 3) ||| ((h.1 x0 20).toInt64)) → ( L_X12_packed_18 l g h x0 v4 0  Q)))) : L_X12_packed_0 l g h x0  Q := by
  obtain ⟨i1, hb⟩ := hb
  refine wp_aload_n 0 dX12_packed_0 rfl rfl ?_
  refine wp_getI dX12_packed_1 fl_X12_343 i1 ?_
  refine wp_i2l dX12_packed_4 ?_
  refine wp_topl (fun v2 e3 => ?_)
  have hb := hb v2 e3
  refine wp_lstore_n (lv2 := [(1, .long v2), (0, .ref x0)]) dX12_packed_5 rfl (by decide) rfl ?_
  refine wp_lload_n 0 dX12_packed_6 rfl rfl ?_
  refine wp_iconst (v := 3) dX12_packed_7 (by decide) ?_
  refine wp_lshl dX12_packed_8 ?_
  refine wp_aload_n 1 dX12_packed_9 rfl rfl ?_
  refine wp_getI dX12_packed_10 fl_X12_346 i1 ?_
  refine wp_i2l dX12_packed_13 ?_
  refine wp_lor dX12_packed_14 ?_
  refine wp_topl (fun v4 e5 => ?_)
  have hb := hb v4 e5
  refine wp_lstore_n (lv2 := [(1, .long v4), (0, .ref x0)]) dX12_packed_15 rfl (by decide) rfl ?_
  refine wp_iconst (v := 0) dX12_packed_16 (by decide) ?_
  refine wp_istore_n (lv2 := [(3, .int 0), (1, .long v4), (0, .ref x0)]) dX12_packed_17 rfl (by decide) rfl ?_
  exact wp_sub [2, 1, 0] rfl hb
set_option maxRecDepth 100000 in
set_option maxHeartbeats 4000000 in
theorem s_X12_packed_18 {l : Launch} {g : AG} {h : AH} {x0 : Nat} {x1 : Int64} {x3 : Int32}  {Q : Int64 → AH → Prop} (hb : ((5 ≤ x3 → (Q x1 h)) ∧ (¬ (5 ≤ x3) → ((Is 194 x0 11) ∧ ( ((h.1 x0 20 ≤ x3 → (∀ v9 : Int64, v9 = ((jlshl x1 7) ||| ((0 : Int32).toInt64)) → ( ∀ v11 : Int32, v11 = x3 + (1) → ( L_X12_packed_18 l g h x0 v9 v11  Q)))) ∧ (¬ (h.1 x0 20 ≤ x3) → ((Is 194 (h.2.2 x0 21) 20) ∧ ( (vp_in x3 (ax_s (h.2.2 x0 21)).2) ∧ ( (Is 194 (h.2.2 x0 22) 20) ∧ ( (vp_in x3 (ax_s (h.2.2 x0 22)).2) ∧ ( ∀ v17 : Int32, v17 = ((jishl (h.1 (h.2.2 x0 21) x3.toNatClampNeg) 4) ||| (h.1 (h.2.2 x0 22) x3.toNatClampNeg)) → ( ∀ v19 : Int64, v19 = ((jlshl x1 7) ||| v17.toInt64) → ( ∀ v21 : Int32, v21 = x3 + (1) → ( L_X12_packed_18 l g h x0 v19 v21  Q))))))))))))))) : L_X12_packed_18 l g h x0 x1 x3  Q := by
  refine wp_iload_n 2 dX12_packed_18 rfl rfl ?_
  refine wp_iconst (v := 5) dX12_packed_19 (by decide) ?_
  refine wp_icmp_ge (tgt := 63) dX12_packed_20 (by decide) (fun c6 => ?_) (fun c6 => ?_)
  · have hb := hb.1 c6
    refine wp_lload_n 1 dX12_packed_63 rfl rfl ?_
    exact wp_lret rfl dX12_packed_64 ⟨_, rfl, hb⟩
  · have hb := hb.2 c6
    refine wp_lload_n 1 dX12_packed_23 rfl rfl ?_
    refine wp_bipush (v := 7) dX12_packed_24 (by decide) ?_
    refine wp_lshl dX12_packed_26 ?_
    refine wp_iload_n 2 dX12_packed_27 rfl rfl ?_
    obtain ⟨i7, hb⟩ := hb
    refine wp_aload_n 0 dX12_packed_28 rfl rfl ?_
    refine wp_getI dX12_packed_29 fl_X12_346 i7 ?_
    refine wp_icmp_ge (tgt := 53) dX12_packed_32 (by decide) (fun c8 => ?_) (fun c8 => ?_)
    · have hb := hb.1 c8
      refine wp_iconst (v := 0) dX12_packed_53 (by decide) ?_
      refine wp_i2l dX12_packed_54 ?_
      refine wp_lor dX12_packed_55 ?_
      refine wp_topl (fun v9 e10 => ?_)
      have hb := hb v9 e10
      refine wp_lstore_n (lv2 := [(1, .long v9), (0, .ref x0), (3, .int x3)]) dX12_packed_56 rfl (by decide) rfl ?_
      obtain ⟨v11, e12⟩ : ∃ y : Int32, y = x3 + (1) := ⟨_, rfl⟩
      have hb := hb v11 e12
      refine wp_iinc (v := v11) (lv2 := [(3, .int v11), (1, .long v9), (0, .ref x0)]) 2 dX12_packed_57 rfl (by rw [e12]; rfl) (by decide) rfl ?_
      refine wp_goto (tgt := 18) dX12_packed_60 (by decide) ?_
      exact wp_sub [2, 1, 0] rfl hb
    · have hb := hb.2 c8
      refine wp_aload_n 0 dX12_packed_35 rfl rfl ?_
      obtain ⟨i13, hb⟩ := hb
      refine wp_getR dX12_packed_36 fl_X12_52 i7 (i13.ne (by decide)) ?_
      refine wp_iload_n 2 dX12_packed_39 rfl rfl ?_
      obtain ⟨b14, hb⟩ := hb
      refine wp_iaload dX12_packed_40 i13 b14 ?_
      refine wp_iconst (v := 4) dX12_packed_41 (by decide) ?_
      refine wp_ishl dX12_packed_42 ?_
      refine wp_aload_n 0 dX12_packed_43 rfl rfl ?_
      obtain ⟨i15, hb⟩ := hb
      refine wp_getR dX12_packed_44 fl_X12_56 i7 (i15.ne (by decide)) ?_
      refine wp_iload_n 2 dX12_packed_47 rfl rfl ?_
      obtain ⟨b16, hb⟩ := hb
      refine wp_iaload dX12_packed_48 i15 b16 ?_
      refine wp_ior dX12_packed_49 ?_
      refine wp_topi (fun v17 e18 => ?_)
      have hb := hb v17 e18
      refine wp_goto (tgt := 54) dX12_packed_50 (by decide) ?_
      refine wp_i2l dX12_packed_54 ?_
      refine wp_lor dX12_packed_55 ?_
      refine wp_topl (fun v19 e20 => ?_)
      have hb := hb v19 e20
      refine wp_lstore_n (lv2 := [(1, .long v19), (0, .ref x0), (3, .int x3)]) dX12_packed_56 rfl (by decide) rfl ?_
      obtain ⟨v21, e22⟩ : ∃ y : Int32, y = x3 + (1) := ⟨_, rfl⟩
      have hb := hb v21 e22
      refine wp_iinc (v := v21) (lv2 := [(3, .int v21), (1, .long v19), (0, .ref x0)]) 2 dX12_packed_57 rfl (by rw [e22]; rfl) (by decide) rfl ?_
      refine wp_goto (tgt := 18) dX12_packed_60 (by decide) ?_
      exact wp_sub [2, 1, 0] rfl hb
theorem c_X12_packed {l : Launch} {g : AG} {h : AH} {x0 : Nat}  {Q : Int64 → AH → Prop} (hb : L_X12_packed_0 l g h x0  Q) : C_X12_packed l g h x0  Q := ax_met rfl rfl (Nat.le_of_ble_eq_true rfl) hb
def C_X12_packedVars (l : Launch) (g : AG) (h : AH) (x0 : Nat)  (Q : Int64 → AH → Prop) : Prop := Ct l g mX12_packedVars 0 0 194 194 h [.ref x0] (ax_QL Q)
def L_X12_packedVars_0 (l : Launch) (g : AG) (h : AH) (x0 : Nat)  (Q : Int64 → AH → Prop) : Prop := Wp l g mX12_packedVars 0 0 194 194 194 0 [(0, .ref x0)] [] h (FM g 194 194 (ax_QL Q))
def L_X12_packedVars_4 (l : Launch) (g : AG) (h : AH) (x0 : Nat) (x1 : Int64) (x3 : Int32)  (Q : Int64 → AH → Prop) : Prop := Wp l g mX12_packedVars 0 0 194 194 194 4 [(0, .ref x0), (1, .long x1), (3, .int x3)] [] h (FM g 194 194 (ax_QL Q))
set_option maxRecDepth 100000 in
set_option maxHeartbeats 4000000 in
theorem s_X12_packedVars_0 {l : Launch} {g : AG} {h : AH} {x0 : Nat}  {Q : Int64 → AH → Prop} (hb : L_X12_packedVars_4 l g h x0 0 0  Q) : L_X12_packedVars_0 l g h x0  Q := by
  refine wp_lconst (v := 0) dX12_packedVars_0 (by decide) ?_
  refine wp_lstore_n (lv2 := [(1, .long 0), (0, .ref x0)]) dX12_packedVars_1 rfl (by decide) rfl ?_
  refine wp_iconst (v := 0) dX12_packedVars_2 (by decide) ?_
  refine wp_istore_n (lv2 := [(3, .int 0), (1, .long 0), (0, .ref x0)]) dX12_packedVars_3 rfl (by decide) rfl ?_
  exact wp_sub [2, 1, 0] rfl hb
set_option maxRecDepth 100000 in
set_option maxHeartbeats 4000000 in
theorem s_X12_packedVars_4 {l : Launch} {g : AG} {h : AH} {x0 : Nat} {x1 : Int64} {x3 : Int32}  {Q : Int64 → AH → Prop} (hb : ((6 ≤ x3 → (Q x1 h)) ∧ (¬ (6 ≤ x3) → ((Is 194 x0 11) ∧ ( (Is 194 (h.2.2 x0 23) 20) ∧ ( (vp_in x3 (ax_s (h.2.2 x0 23)).2) ∧ ( ∀ v5 : Int64, v5 = ((jlshl x1 4) ||| ((h.1 (h.2.2 x0 23) x3.toNatClampNeg).toInt64)) → ( ∀ v7 : Int32, v7 = x3 + (1) → ( L_X12_packedVars_4 l g h x0 v5 v7  Q))))))))) : L_X12_packedVars_4 l g h x0 x1 x3  Q := by
  refine wp_iload_n 2 dX12_packedVars_4 rfl rfl ?_
  refine wp_bipush (v := 6) dX12_packedVars_5 (by decide) ?_
  refine wp_icmp_ge (tgt := 28) dX12_packedVars_7 (by decide) (fun c1 => ?_) (fun c1 => ?_)
  · have hb := hb.1 c1
    refine wp_lload_n 1 dX12_packedVars_28 rfl rfl ?_
    exact wp_lret rfl dX12_packedVars_29 ⟨_, rfl, hb⟩
  · have hb := hb.2 c1
    refine wp_lload_n 1 dX12_packedVars_10 rfl rfl ?_
    refine wp_iconst (v := 4) dX12_packedVars_11 (by decide) ?_
    refine wp_lshl dX12_packedVars_12 ?_
    obtain ⟨i2, hb⟩ := hb
    refine wp_aload_n 0 dX12_packedVars_13 rfl rfl ?_
    obtain ⟨i3, hb⟩ := hb
    refine wp_getR dX12_packedVars_14 fl_X12_59 i2 (i3.ne (by decide)) ?_
    refine wp_iload_n 2 dX12_packedVars_17 rfl rfl ?_
    obtain ⟨b4, hb⟩ := hb
    refine wp_iaload dX12_packedVars_18 i3 b4 ?_
    refine wp_i2l dX12_packedVars_19 ?_
    refine wp_lor dX12_packedVars_20 ?_
    refine wp_topl (fun v5 e6 => ?_)
    have hb := hb v5 e6
    refine wp_lstore_n (lv2 := [(1, .long v5), (0, .ref x0), (3, .int x3)]) dX12_packedVars_21 rfl (by decide) rfl ?_
    obtain ⟨v7, e8⟩ : ∃ y : Int32, y = x3 + (1) := ⟨_, rfl⟩
    have hb := hb v7 e8
    refine wp_iinc (v := v7) (lv2 := [(3, .int v7), (1, .long v5), (0, .ref x0)]) 2 dX12_packedVars_22 rfl (by rw [e8]; rfl) (by decide) rfl ?_
    refine wp_goto (tgt := 4) dX12_packedVars_25 (by decide) ?_
    exact wp_sub [2, 1, 0] rfl hb
theorem c_X12_packedVars {l : Launch} {g : AG} {h : AH} {x0 : Nat}  {Q : Int64 → AH → Prop} (hb : L_X12_packedVars_0 l g h x0  Q) : C_X12_packedVars l g h x0  Q := ax_met rfl rfl (Nat.le_of_ble_eq_true rfl) hb
def C_X12_app (l : Launch) (g : AG) (h : AH) (x0 : Nat) (x1 : Int32) (x2 : Int32)  (Q : Int32 → AH → Prop) : Prop := Ch l g mX12_app 9 240 194 194 h [.ref x0, .int x1, .int x2] (ax_QI Q)
def L_X12_app_0 (l : Launch) (g : AG) (h : AH) (x0 : Nat) (x1 : Int32) (x2 : Int32)  (Q : Int32 → AH → Prop) : Prop := Wp l g mX12_app 9 240 194 194 194 0 [(0, .ref x0), (1, .int x1), (2, .int x2)] [] h (FM g 194 194 (ax_QI Q))
def L_X12_app_65 (l : Launch) (g : AG) (h : AH) (x0 : Nat) (s0 : Nat) (Q : Int32 → AH → Prop) : Prop := Wp l g mX12_app 9 240 194 194 194 65 [(0, .ref x0)] [.ref s0] h (FM g 194 194 (ax_QI Q))
set_option maxRecDepth 100000 in
set_option maxHeartbeats 4000000 in
theorem s_X12_app_0 {l : Launch} {g : AG} {h : AH} {x0 : Nat} {x1 : Int32} {x2 : Int32}  {Q : Int32 → AH → Prop} (hb : (Is 194 x0 11) ∧ ( ∀ h2 : AH, h2 = ax_setI h x0 0 0 → ( ((x1 < 0 → (C_X12_refused l g h2 x0 1 (fun r7 h6 => ( Q r7 h6)))) ∧ (¬ (x1 < 0) → (((x1 ≤ 1 → (((x2 < 0 → (C_X12_refused l g h2 x0 2 (fun r12 h11 => ( Q r12 h11)))) ∧ (¬ (x2 < 0) → (((x2 ≤ h2.1 x0 11 → (∀ h14 : AH, h14 = ax_setI h2 x0 12 x2 → ( ∀ h16 : AH, h16 = ax_setI h14 x0 11 0 → ( ∀ h18 : AH, h18 = ax_setI h16 x0 13 0 → ( ∀ h20 : AH, h20 = ax_setI h18 x0 3 0 → ( C_X12_reads l g h20 x0 (fun h23 => ( (Is 194 (h23.2.2 x0 4) 25) ∧ ( (vp_in x1 (ax_s (h23.2.2 x0 4)).2) ∧ ( (Is 194 (h23.2.2 (h23.2.2 x0 4) x1.toNatClampNeg) 9) ∧ ( ∀ v28 : Nat, v28 = (h23.2.2 (h23.2.2 x0 4) x1.toNatClampNeg) → ( (Is 194 (h23.2.2 x0 4) 25) ∧ ( (Is 194 (h23.2.2 x0 5) 9) ∧ ( (vp_in x1 (ax_s (h23.2.2 x0 4)).2) ∧ ( ∀ h34 : AH, h34 = ax_setR h23 (h23.2.2 x0 4) x1.toNatClampNeg (h23.2.2 x0 5) → ( ∀ h36 : AH, h36 = ax_setR h34 x0 5 v28 → ( (Is 194 (h36.2.2 x0 6) 23) ∧ ( (vp_in x1 (ax_s (h36.2.2 x0 6)).2) ∧ ( ∀ h40 : AH, h40 = ax_setI h36 (h36.2.2 x0 6) x1.toNatClampNeg (vp_nar .boolean 1) → ( C_X12_begins l g h40 x0 (fun h43 => ( (Is 194 (h43.2.2 x0 7) 21) ∧ ( C_X12_packed l g h43 x0 (fun r47 h46 => ( (vp_in x1 (ax_s (h43.2.2 x0 7)).2) ∧ ( ∀ h49 : AH, h49 = ax_setL h46 (h43.2.2 x0 7) x1.toNatClampNeg r47 → ( (Is 194 (h49.2.2 x0 8) 21) ∧ ( C_X12_packedVars l g h49 x0 (fun r54 h53 => ( (vp_in x1 (ax_s (h49.2.2 x0 8)).2) ∧ ( ∀ h56 : AH, h56 = ax_setL h53 (h49.2.2 x0 8) x1.toNatClampNeg r54 → ( ((¬ h56.1 x0 24 = x1 → ((Is 194 (h56.2.2 x0 4) 25) ∧ ( (vp_in x1 (ax_s (h56.2.2 x0 4)).2) ∧ ( (Is 194 (h56.2.2 (h56.2.2 x0 4) x1.toNatClampNeg) 9) ∧ ( C_X12_done l g h56 x0 (h56.1 (h56.2.2 (h56.2.2 x0 4) x1.toNatClampNeg) 0) (fun r64 h63 => ( Q r64 h63))))))) ∧ (h56.1 x0 24 = x1 → (∀ h65 : AH, h65 = ax_setI h56 x0 24 (-1) → ( ∀ h67 : AH, h67 = ax_setI h65 x0 25 0 → ( (Is 194 (h67.2.2 x0 4) 25) ∧ ( (vp_in x1 (ax_s (h67.2.2 x0 4)).2) ∧ ( (Is 194 (h67.2.2 (h67.2.2 x0 4) x1.toNatClampNeg) 9) ∧ ( C_X12_done l g h67 x0 (h67.1 (h67.2.2 (h67.2.2 x0 4) x1.toNatClampNeg) 0) (fun r74 h73 => ( Q r74 h73)))))))))))))))))))))))))))))))))))) (fun h24 => L_X12_app_65 l g h24 x0 128 Q))))))) ∧ (¬ (x2 ≤ h2.1 x0 11) → (C_X12_refused l g h2 x0 2 (fun r77 h76 => ( Q r77 h76)))))))))) ∧ (¬ (x1 ≤ 1) → (C_X12_refused l g h2 x0 1 (fun r80 h79 => ( Q r80 h79))))))))))) : L_X12_app_0 l g h x0 x1 x2  Q := by
  obtain ⟨i1, hb⟩ := hb
  refine wp_aload_n 0 dX12_app_0 rfl rfl ?_
  refine wp_iconst (v := 0) dX12_app_1 (by decide) ?_
  refine wp_putI dX12_app_2 fl_X12_1 (Or.inl rfl) i1 ?_
  refine wp_topH (fun h2 e3 => ?_)
  have hb := hb h2 e3
  refine wp_iload_n 1 dX12_app_5 rfl rfl ?_
  refine wp_if_lt (tgt := 14) dX12_app_6 (by decide) (fun c4 => ?_) (fun c4 => ?_)
  · have hb := hb.1 c4
    refine wp_aload_n 0 dX12_app_14 rfl rfl ?_
    refine wp_iconst (v := 1) dX12_app_15 (by decide) ?_
    refine wp_callV (as := [.int 1]) dX12_app_16 cb_X12_refused lk_X12_316 im_X12_refused se_X12_refused rfl (Nat.le_of_ble_eq_true rfl) ⟨by decide, by decide⟩ ⟨Nat.le_refl _, Nat.le_refl _, Nat.le_refl _⟩ i1 rfl (by decide) hb (fun r0 h6 hb => ?_)
    obtain ⟨r7, rfl, hb⟩ := hb
    exact wp_iret rfl dX12_app_19 ⟨_, rfl, hb⟩
  · have hb := hb.2 c4
    refine wp_iload_n 1 dX12_app_9 rfl rfl ?_
    refine wp_iconst (v := 1) dX12_app_10 (by decide) ?_
    refine wp_icmp_le (tgt := 20) dX12_app_11 (by decide) (fun c8 => ?_) (fun c8 => ?_)
    · have hb := hb.1 c8
      refine wp_iload_n 2 dX12_app_20 rfl rfl ?_
      refine wp_if_lt (tgt := 32) dX12_app_21 (by decide) (fun c9 => ?_) (fun c9 => ?_)
      · have hb := hb.1 c9
        refine wp_aload_n 0 dX12_app_32 rfl rfl ?_
        refine wp_iconst (v := 2) dX12_app_33 (by decide) ?_
        refine wp_callV (as := [.int 2]) dX12_app_34 cb_X12_refused lk_X12_316 im_X12_refused se_X12_refused rfl (Nat.le_of_ble_eq_true rfl) ⟨by decide, by decide⟩ ⟨Nat.le_refl _, Nat.le_refl _, Nat.le_refl _⟩ i1 rfl (by decide) hb (fun r0 h11 hb => ?_)
        obtain ⟨r12, rfl, hb⟩ := hb
        exact wp_iret rfl dX12_app_37 ⟨_, rfl, hb⟩
      · have hb := hb.2 c9
        refine wp_iload_n 2 dX12_app_24 rfl rfl ?_
        refine wp_aload_n 0 dX12_app_25 rfl rfl ?_
        refine wp_getI dX12_app_26 fl_X12_313 i1 ?_
        refine wp_icmp_le (tgt := 38) dX12_app_29 (by decide) (fun c13 => ?_) (fun c13 => ?_)
        · have hb := hb.1 c13
          refine wp_aload_n 0 dX12_app_38 rfl rfl ?_
          refine wp_iload_n 2 dX12_app_39 rfl rfl ?_
          refine wp_putI dX12_app_40 fl_X12_136 (Or.inl rfl) i1 ?_
          refine wp_topH (fun h14 e15 => ?_)
          have hb := hb h14 e15
          refine wp_aload_n 0 dX12_app_43 rfl rfl ?_
          refine wp_iconst (v := 0) dX12_app_44 (by decide) ?_
          refine wp_putI dX12_app_45 fl_X12_313 (Or.inl rfl) i1 ?_
          refine wp_topH (fun h16 e17 => ?_)
          have hb := hb h16 e17
          refine wp_aload_n 0 dX12_app_48 rfl rfl ?_
          refine wp_iconst (v := 0) dX12_app_49 (by decide) ?_
          refine wp_putI dX12_app_50 fl_X12_151 (Or.inl rfl) i1 ?_
          refine wp_topH (fun h18 e19 => ?_)
          have hb := hb h18 e19
          refine wp_aload_n 0 dX12_app_53 rfl rfl ?_
          refine wp_iconst (v := 0) dX12_app_54 (by decide) ?_
          refine wp_putI dX12_app_55 fl_X12_319 (Or.inl rfl) i1 ?_
          refine wp_topH (fun h20 e21 => ?_)
          have hb := hb h20 e21
          refine wp_aload_n 0 dX12_app_58 rfl rfl ?_
          refine wx_callC (as := []) (hpc := 65) dX12_app_59 cb_X12_reads lk_X12_321 im_X12_reads se_X12_reads rfl (Nat.le_of_ble_eq_true rfl) ⟨by decide, by decide⟩ (Nat.le_refl _) i1 rfl (by decide) (by decide) rfl (by decide) rfl hb (fun r0 h23 hb => ?_) (fun h24 hx => wp_sub [0] rfl hx)
          obtain ⟨rfl, hb⟩ := hb
          refine wp_goto (tgt := 89) dX12_app_62 (by decide) ?_
          refine wp_aload_n 0 dX12_app_89 rfl rfl ?_
          obtain ⟨i25, hb⟩ := hb
          refine wp_getR dX12_app_90 fl_X12_21 i1 (i25.ne (by decide)) ?_
          refine wp_iload_n 1 dX12_app_93 rfl rfl ?_
          obtain ⟨b26, hb⟩ := hb
          obtain ⟨i27, hb⟩ := hb
          refine wp_aaload25 dX12_app_94 i25 b26 (i27.ne (by decide)) ?_
          refine wp_topr (fun v28 e29 => ?_)
          have hb := hb v28 e29
          have i30 : Is 194 v28 9 := by rw [e29]; exact i27
          refine wp_astore_n (lv2 := [(3, .ref v28), (0, .ref x0), (1, .int x1), (2, .int x2)]) dX12_app_95 rfl (by decide) rfl ?_
          refine wp_aload_n 1 dX12_app_96 rfl rfl ?_
          obtain ⟨i31, hb⟩ := hb
          refine wp_getR dX12_app_97 fl_X12_21 i1 (i31.ne (by decide)) ?_
          refine wp_iload_n 2 dX12_app_100 rfl rfl ?_
          refine wp_aload_n 1 dX12_app_101 rfl rfl ?_
          obtain ⟨i32, hb⟩ := hb
          refine wp_getR dX12_app_102 fl_X12_26 i1 (i32.ne (by decide)) ?_
          obtain ⟨b33, hb⟩ := hb
          refine wp_aastore25 dX12_app_105 i31 i32 b33 ?_
          refine wp_topH (fun h34 e35 => ?_)
          have hb := hb h34 e35
          refine wp_aload_n 1 dX12_app_106 rfl rfl ?_
          refine wp_aload_n 0 dX12_app_107 rfl rfl ?_
          refine wp_putR dX12_app_108 fl_X12_26 (Or.inl rfl) i1 (i30.ne (by decide)) ?_
          refine wp_topH (fun h36 e37 => ?_)
          have hb := hb h36 e37
          refine wp_aload_n 1 dX12_app_111 rfl rfl ?_
          obtain ⟨i38, hb⟩ := hb
          refine wp_getR dX12_app_112 fl_X12_30 i1 (i38.ne (by decide)) ?_
          refine wp_iload_n 2 dX12_app_115 rfl rfl ?_
          refine wp_iconst (v := 1) dX12_app_116 (by decide) ?_
          obtain ⟨b39, hb⟩ := hb
          refine wp_zastore dX12_app_117 i38 b39 ?_
          refine wp_topH (fun h40 e41 => ?_)
          have hb := hb h40 e41
          refine wp_aload_n 1 dX12_app_118 rfl rfl ?_
          refine wp_callV (as := []) dX12_app_119 cb_X12_begins lk_X12_324 im_X12_begins se_X12_begins rfl (Nat.le_of_ble_eq_true rfl) ⟨by decide, by decide⟩ ⟨Nat.le_refl _, Nat.le_refl _, Nat.le_refl _⟩ i1 rfl (by decide) hb (fun r0 h43 hb => ?_)
          obtain ⟨rfl, hb⟩ := hb
          refine wp_aload_n 1 dX12_app_122 rfl rfl ?_
          obtain ⟨i44, hb⟩ := hb
          refine wp_getR dX12_app_123 fl_X12_34 i1 (i44.ne (by decide)) ?_
          refine wp_iload_n 2 dX12_app_126 rfl rfl ?_
          refine wp_aload_n 1 dX12_app_127 rfl rfl ?_
          refine wp_callV (as := []) dX12_app_128 cb_X12_packed lk_X12_327 im_X12_packed se_X12_packed rfl (Nat.le_of_ble_eq_true rfl) ⟨by decide, by decide⟩ ⟨Nat.le_refl _, Nat.le_refl _, Nat.le_refl _⟩ i1 rfl (by decide) hb (fun r0 h46 hb => ?_)
          obtain ⟨r47, rfl, hb⟩ := hb
          obtain ⟨b48, hb⟩ := hb
          refine wp_lastore dX12_app_131 i44 b48 ?_
          refine wp_topH (fun h49 e50 => ?_)
          have hb := hb h49 e50
          refine wp_aload_n 1 dX12_app_132 rfl rfl ?_
          obtain ⟨i51, hb⟩ := hb
          refine wp_getR dX12_app_133 fl_X12_38 i1 (i51.ne (by decide)) ?_
          refine wp_iload_n 2 dX12_app_136 rfl rfl ?_
          refine wp_aload_n 1 dX12_app_137 rfl rfl ?_
          refine wp_callV (as := []) dX12_app_138 cb_X12_packedVars lk_X12_331 im_X12_packedVars se_X12_packedVars rfl (Nat.le_of_ble_eq_true rfl) ⟨by decide, by decide⟩ ⟨Nat.le_refl _, Nat.le_refl _, Nat.le_refl _⟩ i1 rfl (by decide) hb (fun r0 h53 hb => ?_)
          obtain ⟨r54, rfl, hb⟩ := hb
          obtain ⟨b55, hb⟩ := hb
          refine wp_lastore dX12_app_141 i51 b55 ?_
          refine wp_topH (fun h56 e57 => ?_)
          have hb := hb h56 e57
          refine wp_aload_n 1 dX12_app_142 rfl rfl ?_
          refine wp_getI dX12_app_143 fl_X12_62 i1 ?_
          refine wp_iload_n 2 dX12_app_146 rfl rfl ?_
          refine wp_icmp_ne (tgt := 160) dX12_app_147 (by decide) (fun c58 => ?_) (fun c58 => ?_)
          · have hb := hb.1 c58
            refine wp_aload_n 1 dX12_app_160 rfl rfl ?_
            refine wp_aload_n 1 dX12_app_161 rfl rfl ?_
            obtain ⟨i59, hb⟩ := hb
            refine wp_getR dX12_app_162 fl_X12_21 i1 (i59.ne (by decide)) ?_
            refine wp_iload_n 2 dX12_app_165 rfl rfl ?_
            obtain ⟨b60, hb⟩ := hb
            obtain ⟨i61, hb⟩ := hb
            refine wp_aaload25 dX12_app_166 i59 b60 (i61.ne (by decide)) ?_
            refine wp_getI dX12_app_167 fl_X12_205 i61 ?_
            refine wp_callV (as := [.int (h56.1 (h56.2.2 (h56.2.2 x0 4) x1.toNatClampNeg) 0)]) dX12_app_170 cb_X12_done lk_X12_337 im_X12_done se_X12_done rfl (Nat.le_of_ble_eq_true rfl) ⟨by decide, by decide⟩ ⟨Nat.le_refl _, Nat.le_refl _, Nat.le_refl _⟩ i1 rfl (by decide) hb (fun r0 h63 hb => ?_)
            obtain ⟨r64, rfl, hb⟩ := hb
            exact wp_iret rfl dX12_app_173 ⟨_, rfl, hb⟩
          · have hb := hb.2 c58
            refine wp_aload_n 1 dX12_app_150 rfl rfl ?_
            refine wp_iconst (v := (-1)) dX12_app_151 (by decide) ?_
            refine wp_putI dX12_app_152 fl_X12_62 (Or.inl rfl) i1 ?_
            refine wp_topH (fun h65 e66 => ?_)
            have hb := hb h65 e66
            refine wp_aload_n 1 dX12_app_155 rfl rfl ?_
            refine wp_iconst (v := 0) dX12_app_156 (by decide) ?_
            refine wp_putI dX12_app_157 fl_X12_334 (Or.inl rfl) i1 ?_
            refine wp_topH (fun h67 e68 => ?_)
            have hb := hb h67 e68
            refine wp_aload_n 1 dX12_app_160 rfl rfl ?_
            refine wp_aload_n 1 dX12_app_161 rfl rfl ?_
            obtain ⟨i69, hb⟩ := hb
            refine wp_getR dX12_app_162 fl_X12_21 i1 (i69.ne (by decide)) ?_
            refine wp_iload_n 2 dX12_app_165 rfl rfl ?_
            obtain ⟨b70, hb⟩ := hb
            obtain ⟨i71, hb⟩ := hb
            refine wp_aaload25 dX12_app_166 i69 b70 (i71.ne (by decide)) ?_
            refine wp_getI dX12_app_167 fl_X12_205 i71 ?_
            refine wp_callV (as := [.int (h67.1 (h67.2.2 (h67.2.2 x0 4) x1.toNatClampNeg) 0)]) dX12_app_170 cb_X12_done lk_X12_337 im_X12_done se_X12_done rfl (Nat.le_of_ble_eq_true rfl) ⟨by decide, by decide⟩ ⟨Nat.le_refl _, Nat.le_refl _, Nat.le_refl _⟩ i1 rfl (by decide) hb (fun r0 h73 hb => ?_)
            obtain ⟨r74, rfl, hb⟩ := hb
            exact wp_iret rfl dX12_app_173 ⟨_, rfl, hb⟩
        · have hb := hb.2 c13
          refine wp_aload_n 0 dX12_app_32 rfl rfl ?_
          refine wp_iconst (v := 2) dX12_app_33 (by decide) ?_
          refine wp_callV (as := [.int 2]) dX12_app_34 cb_X12_refused lk_X12_316 im_X12_refused se_X12_refused rfl (Nat.le_of_ble_eq_true rfl) ⟨by decide, by decide⟩ ⟨Nat.le_refl _, Nat.le_refl _, Nat.le_refl _⟩ i1 rfl (by decide) hb (fun r0 h76 hb => ?_)
          obtain ⟨r77, rfl, hb⟩ := hb
          exact wp_iret rfl dX12_app_37 ⟨_, rfl, hb⟩
    · have hb := hb.2 c8
      refine wp_aload_n 0 dX12_app_14 rfl rfl ?_
      refine wp_iconst (v := 1) dX12_app_15 (by decide) ?_
      refine wp_callV (as := [.int 1]) dX12_app_16 cb_X12_refused lk_X12_316 im_X12_refused se_X12_refused rfl (Nat.le_of_ble_eq_true rfl) ⟨by decide, by decide⟩ ⟨Nat.le_refl _, Nat.le_refl _, Nat.le_refl _⟩ i1 rfl (by decide) hb (fun r0 h79 hb => ?_)
      obtain ⟨r80, rfl, hb⟩ := hb
      exact wp_iret rfl dX12_app_19 ⟨_, rfl, hb⟩
set_option maxRecDepth 100000 in
set_option maxHeartbeats 4000000 in
theorem s_X12_app_65 {l : Launch} {g : AG} {h : AH} {x0 : Nat} {s0 : Nat} {Q : Int32 → AH → Prop} (hb : (Is 194 x0 11) ∧ ( (Is 194 s0 10) ∧ ( ∀ h83 : AH, h83 = ax_setI h x0 3 (h.1 s0 6) → ( ∀ h85 : AH, h85 = ax_setI h83 x0 1 3 → ( ∀ h87 : AH, h87 = ax_setI h85 x0 2 (h85.1 s0 7) → ( Q (-1) h87)))))) : L_X12_app_65 l g h x0 s0 Q := by
  refine wp_astore_n (lv2 := [(3, .ref s0), (0, .ref x0)]) dX12_app_65 rfl (by decide) rfl ?_
  obtain ⟨i81, hb⟩ := hb
  refine wp_aload_n 1 dX12_app_66 rfl rfl ?_
  obtain ⟨i82, hb⟩ := hb
  refine wp_aload_n 0 dX12_app_67 rfl rfl ?_
  refine wp_getI dX12_app_68 fl_X12_131 i82 ?_
  refine wp_putI dX12_app_71 fl_X12_319 (Or.inl rfl) i81 ?_
  refine wp_topH (fun h83 e84 => ?_)
  have hb := hb h83 e84
  refine wp_aload_n 1 dX12_app_74 rfl rfl ?_
  refine wp_iconst (v := 3) dX12_app_75 (by decide) ?_
  refine wp_putI dX12_app_76 fl_X12_7 (Or.inl rfl) i81 ?_
  refine wp_topH (fun h85 e86 => ?_)
  have hb := hb h85 e86
  refine wp_aload_n 1 dX12_app_79 rfl rfl ?_
  refine wp_aload_n 0 dX12_app_80 rfl rfl ?_
  refine wp_getI dX12_app_81 fl_X12_133 i82 ?_
  refine wp_putI dX12_app_84 fl_X12_10 (Or.inl rfl) i81 ?_
  refine wp_topH (fun h87 e88 => ?_)
  have hb := hb h87 e88
  refine wp_iconst (v := (-1)) dX12_app_87 (by decide) ?_
  exact wp_iret rfl dX12_app_88 ⟨_, rfl, hb⟩
theorem c_X12_app {l : Launch} {g : AG} {h : AH} {x0 : Nat} {x1 : Int32} {x2 : Int32}  {Q : Int32 → AH → Prop} (hb : L_X12_app_0 l g h x0 x1 x2  Q) : C_X12_app l g h x0 x1 x2  Q := ax_meth rfl rfl (Nat.le_of_ble_eq_true rfl) hb
def C_X12_fault (l : Launch) (g : AG) (h : AH) (x0 : Nat)  (Q : Int32 → AH → Prop) : Prop := Ct l g mX12_fault 0 0 194 194 h [.ref x0] (ax_QI Q)
def L_X12_fault_0 (l : Launch) (g : AG) (h : AH) (x0 : Nat)  (Q : Int32 → AH → Prop) : Prop := Wp l g mX12_fault 0 0 194 194 194 0 [(0, .ref x0)] [] h (FM g 194 194 (ax_QI Q))
set_option maxRecDepth 100000 in
set_option maxHeartbeats 4000000 in
theorem s_X12_fault_0 {l : Launch} {g : AG} {h : AH} {x0 : Nat}  {Q : Int32 → AH → Prop} (hb : (Is 194 x0 11) ∧ ( ∀ h2 : AH, h2 = ax_setI h x0 0 0 → ( Q (h2.1 x0 3) h2))) : L_X12_fault_0 l g h x0  Q := by
  obtain ⟨i1, hb⟩ := hb
  refine wp_aload_n 0 dX12_fault_0 rfl rfl ?_
  refine wp_iconst (v := 0) dX12_fault_1 (by decide) ?_
  refine wp_putI dX12_fault_2 fl_X12_1 (Or.inl rfl) i1 ?_
  refine wp_topH (fun h2 e3 => ?_)
  have hb := hb h2 e3
  refine wp_aload_n 0 dX12_fault_5 rfl rfl ?_
  refine wp_getI dX12_fault_6 fl_X12_319 i1 ?_
  exact wp_iret rfl dX12_fault_9 ⟨_, rfl, hb⟩
theorem c_X12_fault {l : Launch} {g : AG} {h : AH} {x0 : Nat}  {Q : Int32 → AH → Prop} (hb : L_X12_fault_0 l g h x0  Q) : C_X12_fault l g h x0  Q := ax_met rfl rfl (Nat.le_of_ble_eq_true rfl) hb
def C_X12_where (l : Launch) (g : AG) (h : AH) (x0 : Nat)  (Q : Int32 → AH → Prop) : Prop := Ct l g mX12_where 0 0 194 194 h [.ref x0] (ax_QI Q)
def L_X12_where_0 (l : Launch) (g : AG) (h : AH) (x0 : Nat)  (Q : Int32 → AH → Prop) : Prop := Wp l g mX12_where 0 0 194 194 194 0 [(0, .ref x0)] [] h (FM g 194 194 (ax_QI Q))
set_option maxRecDepth 100000 in
set_option maxHeartbeats 4000000 in
theorem s_X12_where_0 {l : Launch} {g : AG} {h : AH} {x0 : Nat}  {Q : Int32 → AH → Prop} (hb : (Is 194 x0 11) ∧ ( ∀ h2 : AH, h2 = ax_setI h x0 0 0 → ( Q (h2.1 x0 2) h2))) : L_X12_where_0 l g h x0  Q := by
  obtain ⟨i1, hb⟩ := hb
  refine wp_aload_n 0 dX12_where_0 rfl rfl ?_
  refine wp_iconst (v := 0) dX12_where_1 (by decide) ?_
  refine wp_putI dX12_where_2 fl_X12_1 (Or.inl rfl) i1 ?_
  refine wp_topH (fun h2 e3 => ?_)
  have hb := hb h2 e3
  refine wp_aload_n 0 dX12_where_5 rfl rfl ?_
  refine wp_getI dX12_where_6 fl_X12_10 i1 ?_
  exact wp_iret rfl dX12_where_9 ⟨_, rfl, hb⟩
theorem c_X12_where {l : Launch} {g : AG} {h : AH} {x0 : Nat}  {Q : Int32 → AH → Prop} (hb : L_X12_where_0 l g h x0  Q) : C_X12_where l g h x0  Q := ax_met rfl rfl (Nat.le_of_ble_eq_true rfl) hb
def C_X12_about (l : Launch) (g : AG) (h : AH) (x0 : Nat) (x1 : Int32) (x2 : Int32)  (Q : Int32 → AH → Prop) : Prop := Ct l g mX12_about 1 21 194 194 h [.ref x0, .int x1, .int x2] (ax_QI Q)
def L_X12_about_0 (l : Launch) (g : AG) (h : AH) (x0 : Nat) (x1 : Int32) (x2 : Int32)  (Q : Int32 → AH → Prop) : Prop := Wp l g mX12_about 1 21 194 194 194 0 [(0, .ref x0), (1, .int x1), (2, .int x2)] [] h (FM g 194 194 (ax_QI Q))
def L_X12_about_82 (l : Launch) (g : AG) (h : AH) (x3 : Nat) (x4 : Int32) (x5 : Int32)  (Q : Int32 → AH → Prop) : Prop := Wp l g mX12_about 1 21 194 194 194 82 [(3, .ref x3), (4, .int x4), (5, .int x5)] [] h (FM g 194 194 (ax_QI Q))
def L_X12_about_123 (l : Launch) (g : AG) (h : AH) (x3 : Nat) (x4 : Int32) (x5 : Int32)  (Q : Int32 → AH → Prop) : Prop := Wp l g mX12_about 1 21 194 194 194 123 [(3, .ref x3), (4, .int x4), (5, .int x5)] [] h (FM g 194 194 (ax_QI Q))
def L_X12_about_156 (l : Launch) (g : AG) (h : AH) (x3 : Nat) (x4 : Int32) (x5 : Int32)  (Q : Int32 → AH → Prop) : Prop := Wp l g mX12_about 1 21 194 194 194 156 [(3, .ref x3), (4, .int x4), (5, .int x5)] [] h (FM g 194 194 (ax_QI Q))
set_option maxRecDepth 100000 in
set_option maxHeartbeats 4000000 in
theorem s_X12_about_0 {l : Launch} {g : AG} {h : AH} {x0 : Nat} {x1 : Int32} {x2 : Int32}  {Q : Int32 → AH → Prop} (hb : (Is 194 x0 11) ∧ ( ∀ h2 : AH, h2 = ax_setI h x0 0 0 → ( C_X12_isApp l g h2 x0 x1 (fun r6 h5 => ( ((¬ r6 = 0 → ((Is 194 (h5.2.2 x0 4) 25) ∧ ( (vp_in x1 (ax_s (h5.2.2 x0 4)).2) ∧ ( (Is 194 (h5.2.2 (h5.2.2 x0 4) x1.toNatClampNeg) 9) ∧ ( ∀ v11 : Nat, v11 = (h5.2.2 (h5.2.2 x0 4) x1.toNatClampNeg) → ( ((x2 = 0 → (Q (h5.1 v11 0) h5)) ∧ (¬ x2 = 0 → (((x2 = 1 → (Q (h5.1 v11 1) h5)) ∧ (¬ x2 = 1 → (((x2 = 2 → (Q (h5.1 v11 2) h5)) ∧ (¬ x2 = 2 → (((x2 = 3 → (L_X12_about_82 l g h5 v11 0 0  Q)) ∧ (¬ x2 = 3 → (((x2 = 4 → (L_X12_about_123 l g h5 v11 0 0  Q)) ∧ (¬ x2 = 4 → (((x2 = 5 → (L_X12_about_156 l g h5 v11 0 0  Q)) ∧ (¬ x2 = 5 → (Q (-1) h5)))))))))))))))))))))))) ∧ (r6 = 0 → (Q (-1) h5)))))))) : L_X12_about_0 l g h x0 x1 x2  Q := by
  obtain ⟨i1, hb⟩ := hb
  refine wp_aload_n 0 dX12_about_0 rfl rfl ?_
  refine wp_iconst (v := 0) dX12_about_1 (by decide) ?_
  refine wp_putI dX12_about_2 fl_X12_1 (Or.inl rfl) i1 ?_
  refine wp_topH (fun h2 e3 => ?_)
  have hb := hb h2 e3
  refine wp_aload_n 0 dX12_about_5 rfl rfl ?_
  refine wp_iload_n 1 dX12_about_6 rfl rfl ?_
  refine wp_callV (as := [.int x1]) dX12_about_7 cb_X12_isApp lk_X12_340 im_X12_isApp se_X12_isApp rfl (Nat.le_of_ble_eq_true rfl) ⟨by decide, by decide⟩ ⟨Nat.le_refl _, Nat.le_refl _, Nat.le_refl _⟩ i1 rfl (by decide) hb (fun r0 h5 hb => ?_)
  obtain ⟨r6, rfl, hb⟩ := hb
  refine wp_if_ne (tgt := 15) dX12_about_10 (by decide) (fun c7 => ?_) (fun c7 => ?_)
  · have hb := hb.1 c7
    refine wp_aload_n 0 dX12_about_15 rfl rfl ?_
    obtain ⟨i8, hb⟩ := hb
    refine wp_getR dX12_about_16 fl_X12_21 i1 (i8.ne (by decide)) ?_
    refine wp_iload_n 1 dX12_about_19 rfl rfl ?_
    obtain ⟨b9, hb⟩ := hb
    obtain ⟨i10, hb⟩ := hb
    refine wp_aaload25 dX12_about_20 i8 b9 (i10.ne (by decide)) ?_
    refine wp_topr (fun v11 e12 => ?_)
    have hb := hb v11 e12
    have i13 : Is 194 v11 9 := by rw [e12]; exact i10
    refine wp_astore_n (lv2 := [(3, .ref v11), (0, .ref x0), (1, .int x1), (2, .int x2)]) dX12_about_21 rfl (by decide) rfl ?_
    refine wp_iconst (v := 0) dX12_about_22 (by decide) ?_
    refine wp_istore (lv2 := [(4, .int 0), (3, .ref v11), (0, .ref x0), (1, .int x1), (2, .int x2)]) dX12_about_23 (by decide) rfl ?_
    refine wp_iload_n 4 dX12_about_25 rfl rfl ?_
    refine wp_case 0 (fun c14 => ?_) (fun c14 => ?_)
    · have hb := hb.1 c14
      refine wp_tableIn (v := 0) (tgt := 64) dX12_about_26 c14 (by decide) (by decide) rfl (by decide) ?_
      refine wp_aload_n 1 dX12_about_64 rfl rfl ?_
      refine wp_getI dX12_about_65 fl_X12_205 i13 ?_
      exact wp_iret rfl dX12_about_68 ⟨_, rfl, hb⟩
    · have hb := hb.2 c14
      refine wp_case 1 (fun c15 => ?_) (fun c15 => ?_)
      · have hb := hb.1 c15
        refine wp_tableIn (v := 1) (tgt := 69) dX12_about_26 c15 (by decide) (by decide) rfl (by decide) ?_
        refine wp_aload_n 1 dX12_about_69 rfl rfl ?_
        refine wp_getI dX12_about_70 fl_X12_208 i13 ?_
        exact wp_iret rfl dX12_about_73 ⟨_, rfl, hb⟩
      · have hb := hb.2 c15
        refine wp_case 2 (fun c16 => ?_) (fun c16 => ?_)
        · have hb := hb.1 c16
          refine wp_tableIn (v := 2) (tgt := 74) dX12_about_26 c16 (by decide) (by decide) rfl (by decide) ?_
          refine wp_aload_n 1 dX12_about_74 rfl rfl ?_
          refine wp_getI dX12_about_75 fl_X12_198 i13 ?_
          exact wp_iret rfl dX12_about_78 ⟨_, rfl, hb⟩
        · have hb := hb.2 c16
          refine wp_case 3 (fun c17 => ?_) (fun c17 => ?_)
          · have hb := hb.1 c17
            refine wp_tableIn (v := 3) (tgt := 79) dX12_about_26 c17 (by decide) (by decide) rfl (by decide) ?_
            refine wp_iconst (v := 0) dX12_about_79 (by decide) ?_
            refine wp_istore (lv2 := [(5, .int 0), (4, .int 0), (3, .ref v11), (0, .ref x0), (1, .int x1), (2, .int x2)]) dX12_about_80 (by decide) rfl ?_
            exact wp_sub [2, 1, 0] rfl hb
          · have hb := hb.2 c17
            refine wp_case 4 (fun c18 => ?_) (fun c18 => ?_)
            · have hb := hb.1 c18
              refine wp_tableIn (v := 4) (tgt := 120) dX12_about_26 c18 (by decide) (by decide) rfl (by decide) ?_
              refine wp_iconst (v := 0) dX12_about_120 (by decide) ?_
              refine wp_istore (lv2 := [(5, .int 0), (4, .int 0), (3, .ref v11), (0, .ref x0), (1, .int x1), (2, .int x2)]) dX12_about_121 (by decide) rfl ?_
              exact wp_sub [2, 1, 0] rfl hb
            · have hb := hb.2 c18
              refine wp_case 5 (fun c19 => ?_) (fun c19 => ?_)
              · have hb := hb.1 c19
                refine wp_tableIn (v := 5) (tgt := 153) dX12_about_26 c19 (by decide) (by decide) rfl (by decide) ?_
                refine wp_iconst (v := 0) dX12_about_153 (by decide) ?_
                refine wp_istore (lv2 := [(5, .int 0), (4, .int 0), (3, .ref v11), (0, .ref x0), (1, .int x1), (2, .int x2)]) dX12_about_154 (by decide) rfl ?_
                exact wp_sub [2, 1, 0] rfl hb
              · have hb := hb.2 c19
                refine wp_tableOut (tgt := 194) dX12_about_26 (by have zc14 := lv_neT (k := 0) (a := 0) c14 rfl; have zc15 := lv_neT (k := 1) (a := 1) c15 rfl; have zc16 := lv_neT (k := 2) (a := 2) c16 rfl; have zc17 := lv_neT (k := 3) (a := 3) c17 rfl; have zc18 := lv_neT (k := 4) (a := 4) c18 rfl; have zc19 := lv_neT (k := 5) (a := 5) c19 rfl; omega) (by decide) ?_
                refine wp_iconst (v := (-1)) dX12_about_194 (by decide) ?_
                exact wp_iret rfl dX12_about_195 ⟨_, rfl, hb⟩
  · have hb := hb.2 c7
    refine wp_iconst (v := (-1)) dX12_about_13 (by decide) ?_
    exact wp_iret rfl dX12_about_14 ⟨_, rfl, hb⟩
set_option maxRecDepth 100000 in
set_option maxHeartbeats 4000000 in
theorem s_X12_about_82 {l : Launch} {g : AG} {h : AH} {x3 : Nat} {x4 : Int32} {x5 : Int32}  {Q : Int32 → AH → Prop} (hb : (Is 194 x3 9) ∧ ( ((h.1 x3 2 ≤ x5 → (Q x4 h)) ∧ (¬ (h.1 x3 2 ≤ x5) → ((Is 194 (h.2.2 x3 10) 23) ∧ ( (vp_in x5 (ax_s (h.2.2 x3 10)).2) ∧ ( ((h.1 (h.2.2 x3 10) x5.toNatClampNeg = 0 → (∀ v25 : Int32, v25 = (x4 + 0) → ( ∀ v27 : Int32, v27 = x5 + (1) → ( L_X12_about_82 l g h x3 v25 v27  Q)))) ∧ (¬ (h.1 (h.2.2 x3 10) x5.toNatClampNeg = 0) → (∀ v29 : Int32, v29 = (x4 + 1) → ( ∀ v31 : Int32, v31 = x5 + (1) → ( L_X12_about_82 l g h x3 v29 v31  Q)))))))))))) : L_X12_about_82 l g h x3 x4 x5  Q := by
  refine wp_iload 2 dX12_about_82 rfl ?_
  obtain ⟨i20, hb⟩ := hb
  refine wp_aload_n 0 dX12_about_84 rfl rfl ?_
  refine wp_getI dX12_about_85 fl_X12_198 i20 ?_
  refine wp_icmp_ge (tgt := 117) dX12_about_88 (by decide) (fun c21 => ?_) (fun c21 => ?_)
  · have hb := hb.1 c21
    refine wp_iload 1 dX12_about_117 rfl ?_
    exact wp_iret rfl dX12_about_119 ⟨_, rfl, hb⟩
  · have hb := hb.2 c21
    refine wp_iload 1 dX12_about_91 rfl ?_
    refine wp_aload_n 0 dX12_about_93 rfl rfl ?_
    obtain ⟨i22, hb⟩ := hb
    refine wp_getR dX12_about_94 fl_X12_214 i20 (i22.ne (by decide)) ?_
    refine wp_iload 2 dX12_about_97 rfl ?_
    obtain ⟨b23, hb⟩ := hb
    refine wp_zaload dX12_about_99 i22 b23 ?_
    refine wp_if_eq (tgt := 107) dX12_about_100 (by decide) (fun c24 => ?_) (fun c24 => ?_)
    · have hb := hb.1 c24
      refine wp_iconst (v := 0) dX12_about_107 (by decide) ?_
      refine wp_iadd dX12_about_108 ?_
      refine wp_topi (fun v25 e26 => ?_)
      have hb := hb v25 e26
      refine wp_istore (lv2 := [(4, .int v25), (3, .ref x3), (5, .int x5)]) dX12_about_109 (by decide) rfl ?_
      obtain ⟨v27, e28⟩ : ∃ y : Int32, y = x5 + (1) := ⟨_, rfl⟩
      have hb := hb v27 e28
      refine wp_iinc (v := v27) (lv2 := [(5, .int v27), (4, .int v25), (3, .ref x3)]) 2 dX12_about_111 rfl (by rw [e28]; rfl) (by decide) rfl ?_
      refine wp_goto (tgt := 82) dX12_about_114 (by decide) ?_
      exact wp_sub [2, 1, 0] rfl hb
    · have hb := hb.2 c24
      refine wp_iconst (v := 1) dX12_about_103 (by decide) ?_
      refine wp_goto (tgt := 108) dX12_about_104 (by decide) ?_
      refine wp_iadd dX12_about_108 ?_
      refine wp_topi (fun v29 e30 => ?_)
      have hb := hb v29 e30
      refine wp_istore (lv2 := [(4, .int v29), (3, .ref x3), (5, .int x5)]) dX12_about_109 (by decide) rfl ?_
      obtain ⟨v31, e32⟩ : ∃ y : Int32, y = x5 + (1) := ⟨_, rfl⟩
      have hb := hb v31 e32
      refine wp_iinc (v := v31) (lv2 := [(5, .int v31), (4, .int v29), (3, .ref x3)]) 2 dX12_about_111 rfl (by rw [e32]; rfl) (by decide) rfl ?_
      refine wp_goto (tgt := 82) dX12_about_114 (by decide) ?_
      exact wp_sub [2, 1, 0] rfl hb
set_option maxRecDepth 100000 in
set_option maxHeartbeats 4000000 in
theorem s_X12_about_123 {l : Launch} {g : AG} {h : AH} {x3 : Nat} {x4 : Int32} {x5 : Int32}  {Q : Int32 → AH → Prop} (hb : (Is 194 x3 9) ∧ ( ((h.1 x3 0 ≤ x5 → (Q x4 h)) ∧ (¬ (h.1 x3 0 ≤ x5) → ((Is 194 (h.2.2 x3 7) 20) ∧ ( (vp_in x5 (ax_s (h.2.2 x3 7)).2) ∧ ( ∀ v37 : Int32, v37 = (x4 + (h.1 (h.2.2 x3 7) x5.toNatClampNeg)) → ( ∀ v39 : Int32, v39 = x5 + (1) → ( L_X12_about_123 l g h x3 v37 v39  Q))))))))) : L_X12_about_123 l g h x3 x4 x5  Q := by
  refine wp_iload 2 dX12_about_123 rfl ?_
  obtain ⟨i33, hb⟩ := hb
  refine wp_aload_n 0 dX12_about_125 rfl rfl ?_
  refine wp_getI dX12_about_126 fl_X12_205 i33 ?_
  refine wp_icmp_ge (tgt := 150) dX12_about_129 (by decide) (fun c34 => ?_) (fun c34 => ?_)
  · have hb := hb.1 c34
    refine wp_iload 1 dX12_about_150 rfl ?_
    exact wp_iret rfl dX12_about_152 ⟨_, rfl, hb⟩
  · have hb := hb.2 c34
    refine wp_iload 1 dX12_about_132 rfl ?_
    refine wp_aload_n 0 dX12_about_134 rfl rfl ?_
    obtain ⟨i35, hb⟩ := hb
    refine wp_getR dX12_about_135 fl_X12_252 i33 (i35.ne (by decide)) ?_
    refine wp_iload 2 dX12_about_138 rfl ?_
    obtain ⟨b36, hb⟩ := hb
    refine wp_iaload dX12_about_140 i35 b36 ?_
    refine wp_iadd dX12_about_141 ?_
    refine wp_topi (fun v37 e38 => ?_)
    have hb := hb v37 e38
    refine wp_istore (lv2 := [(4, .int v37), (3, .ref x3), (5, .int x5)]) dX12_about_142 (by decide) rfl ?_
    obtain ⟨v39, e40⟩ : ∃ y : Int32, y = x5 + (1) := ⟨_, rfl⟩
    have hb := hb v39 e40
    refine wp_iinc (v := v39) (lv2 := [(5, .int v39), (4, .int v37), (3, .ref x3)]) 2 dX12_about_144 rfl (by rw [e40]; rfl) (by decide) rfl ?_
    refine wp_goto (tgt := 123) dX12_about_147 (by decide) ?_
    exact wp_sub [2, 1, 0] rfl hb
set_option maxRecDepth 100000 in
set_option maxHeartbeats 4000000 in
theorem s_X12_about_156 {l : Launch} {g : AG} {h : AH} {x3 : Nat} {x4 : Int32} {x5 : Int32}  {Q : Int32 → AH → Prop} (hb : (Is 194 x3 9) ∧ ( ((h.1 x3 0 ≤ x5 → (Q x4 h)) ∧ (¬ (h.1 x3 0 ≤ x5) → ((Is 194 (h.2.2 x3 9) 20) ∧ ( (vp_in x5 (ax_s (h.2.2 x3 9)).2) ∧ ( ((h.1 (h.2.2 x3 9) x5.toNatClampNeg ≤ 0 → (∀ v46 : Int32, v46 = (x4 + 0) → ( ∀ v48 : Int32, v48 = x5 + (1) → ( L_X12_about_156 l g h x3 v46 v48  Q)))) ∧ (¬ (h.1 (h.2.2 x3 9) x5.toNatClampNeg ≤ 0) → (∀ v50 : Int32, v50 = (x4 + 1) → ( ∀ v52 : Int32, v52 = x5 + (1) → ( L_X12_about_156 l g h x3 v50 v52  Q)))))))))))) : L_X12_about_156 l g h x3 x4 x5  Q := by
  refine wp_iload 2 dX12_about_156 rfl ?_
  obtain ⟨i41, hb⟩ := hb
  refine wp_aload_n 0 dX12_about_158 rfl rfl ?_
  refine wp_getI dX12_about_159 fl_X12_205 i41 ?_
  refine wp_icmp_ge (tgt := 191) dX12_about_162 (by decide) (fun c42 => ?_) (fun c42 => ?_)
  · have hb := hb.1 c42
    refine wp_iload 1 dX12_about_191 rfl ?_
    exact wp_iret rfl dX12_about_193 ⟨_, rfl, hb⟩
  · have hb := hb.2 c42
    refine wp_iload 1 dX12_about_165 rfl ?_
    refine wp_aload_n 0 dX12_about_167 rfl rfl ?_
    obtain ⟨i43, hb⟩ := hb
    refine wp_getR dX12_about_168 fl_X12_234 i41 (i43.ne (by decide)) ?_
    refine wp_iload 2 dX12_about_171 rfl ?_
    obtain ⟨b44, hb⟩ := hb
    refine wp_iaload dX12_about_173 i43 b44 ?_
    refine wp_if_le (tgt := 181) dX12_about_174 (by decide) (fun c45 => ?_) (fun c45 => ?_)
    · have hb := hb.1 c45
      refine wp_iconst (v := 0) dX12_about_181 (by decide) ?_
      refine wp_iadd dX12_about_182 ?_
      refine wp_topi (fun v46 e47 => ?_)
      have hb := hb v46 e47
      refine wp_istore (lv2 := [(4, .int v46), (3, .ref x3), (5, .int x5)]) dX12_about_183 (by decide) rfl ?_
      obtain ⟨v48, e49⟩ : ∃ y : Int32, y = x5 + (1) := ⟨_, rfl⟩
      have hb := hb v48 e49
      refine wp_iinc (v := v48) (lv2 := [(5, .int v48), (4, .int v46), (3, .ref x3)]) 2 dX12_about_185 rfl (by rw [e49]; rfl) (by decide) rfl ?_
      refine wp_goto (tgt := 156) dX12_about_188 (by decide) ?_
      exact wp_sub [2, 1, 0] rfl hb
    · have hb := hb.2 c45
      refine wp_iconst (v := 1) dX12_about_177 (by decide) ?_
      refine wp_goto (tgt := 182) dX12_about_178 (by decide) ?_
      refine wp_iadd dX12_about_182 ?_
      refine wp_topi (fun v50 e51 => ?_)
      have hb := hb v50 e51
      refine wp_istore (lv2 := [(4, .int v50), (3, .ref x3), (5, .int x5)]) dX12_about_183 (by decide) rfl ?_
      obtain ⟨v52, e53⟩ : ∃ y : Int32, y = x5 + (1) := ⟨_, rfl⟩
      have hb := hb v52 e53
      refine wp_iinc (v := v52) (lv2 := [(5, .int v52), (4, .int v50), (3, .ref x3)]) 2 dX12_about_185 rfl (by rw [e53]; rfl) (by decide) rfl ?_
      refine wp_goto (tgt := 156) dX12_about_188 (by decide) ?_
      exact wp_sub [2, 1, 0] rfl hb
theorem c_X12_about {l : Launch} {g : AG} {h : AH} {x0 : Nat} {x1 : Int32} {x2 : Int32}  {Q : Int32 → AH → Prop} (hb : L_X12_about_0 l g h x0 x1 x2  Q) : C_X12_about l g h x0 x1 x2  Q := ax_met rfl rfl (Nat.le_of_ble_eq_true rfl) hb
def C_X12_button (l : Launch) (g : AG) (h : AH) (x0 : Nat) (x1 : Int32) (x2 : Int32) (x3 : Int32)  (Q : Int32 → AH → Prop) : Prop := Ct l g mX12_button 1 21 194 194 h [.ref x0, .int x1, .int x2, .int x3] (ax_QI Q)
def L_X12_button_0 (l : Launch) (g : AG) (h : AH) (x0 : Nat) (x1 : Int32) (x2 : Int32) (x3 : Int32)  (Q : Int32 → AH → Prop) : Prop := Wp l g mX12_button 1 21 194 194 194 0 [(0, .ref x0), (1, .int x1), (2, .int x2), (3, .int x3)] [] h (FM g 194 194 (ax_QI Q))
set_option maxRecDepth 100000 in
set_option maxHeartbeats 4000000 in
theorem s_X12_button_0 {l : Launch} {g : AG} {h : AH} {x0 : Nat} {x1 : Int32} {x2 : Int32} {x3 : Int32}  {Q : Int32 → AH → Prop} (hb : (Is 194 x0 11) ∧ ( ∀ h2 : AH, h2 = ax_setI h x0 0 0 → ( C_X12_isApp l g h2 x0 x1 (fun r6 h5 => ( ((r6 = 0 → (Q (-1) h5)) ∧ (¬ (r6 = 0) → (((x2 < 0 → (Q (-1) h5)) ∧ (¬ (x2 < 0) → ((Is 194 (h5.2.2 x0 4) 25) ∧ ( (vp_in x1 (ax_s (h5.2.2 x0 4)).2) ∧ ( (Is 194 (h5.2.2 (h5.2.2 x0 4) x1.toNatClampNeg) 9) ∧ ( ((x2 < h5.1 (h5.2.2 (h5.2.2 x0 4) x1.toNatClampNeg) 1 → ((Is 194 (h5.2.2 x0 4) 25) ∧ ( (vp_in x1 (ax_s (h5.2.2 x0 4)).2) ∧ ( (Is 194 (h5.2.2 (h5.2.2 x0 4) x1.toNatClampNeg) 9) ∧ ( ∀ v16 : Nat, v16 = (h5.2.2 (h5.2.2 x0 4) x1.toNatClampNeg) → ( ((¬ x3 = 0 → (((¬ x3 = 1 → (((¬ x3 = 2 → (Q (-1) h5)) ∧ (x3 = 2 → ((Is 194 (h5.2.2 v16 11) 20) ∧ ( (vp_in x2 (ax_s (h5.2.2 v16 11)).2) ∧ ( Q (h5.1 (h5.2.2 v16 11) x2.toNatClampNeg) h5))))))) ∧ (x3 = 1 → ((Is 194 (h5.2.2 v16 18) 20) ∧ ( (vp_in x2 (ax_s (h5.2.2 v16 18)).2) ∧ ( Q (h5.1 (h5.2.2 v16 18) x2.toNatClampNeg) h5))))))) ∧ (x3 = 0 → ((Is 194 (h5.2.2 v16 17) 20) ∧ ( (vp_in x2 (ax_s (h5.2.2 v16 17)).2) ∧ ( Q (h5.1 (h5.2.2 v16 17) x2.toNatClampNeg) h5))))))))))) ∧ (¬ (x2 < h5.1 (h5.2.2 (h5.2.2 x0 4) x1.toNatClampNeg) 1) → (Q (-1) h5))))))))))))))))) : L_X12_button_0 l g h x0 x1 x2 x3  Q := by
  obtain ⟨i1, hb⟩ := hb
  refine wp_aload_n 0 dX12_button_0 rfl rfl ?_
  refine wp_iconst (v := 0) dX12_button_1 (by decide) ?_
  refine wp_putI dX12_button_2 fl_X12_1 (Or.inl rfl) i1 ?_
  refine wp_topH (fun h2 e3 => ?_)
  have hb := hb h2 e3
  refine wp_aload_n 0 dX12_button_5 rfl rfl ?_
  refine wp_iload_n 1 dX12_button_6 rfl rfl ?_
  refine wp_callV (as := [.int x1]) dX12_button_7 cb_X12_isApp lk_X12_340 im_X12_isApp se_X12_isApp rfl (Nat.le_of_ble_eq_true rfl) ⟨by decide, by decide⟩ ⟨Nat.le_refl _, Nat.le_refl _, Nat.le_refl _⟩ i1 rfl (by decide) hb (fun r0 h5 hb => ?_)
  obtain ⟨r6, rfl, hb⟩ := hb
  refine wp_if_eq (tgt := 30) dX12_button_10 (by decide) (fun c7 => ?_) (fun c7 => ?_)
  · have hb := hb.1 c7
    refine wp_iconst (v := (-1)) dX12_button_30 (by decide) ?_
    exact wp_iret rfl dX12_button_31 ⟨_, rfl, hb⟩
  · have hb := hb.2 c7
    refine wp_iload_n 2 dX12_button_13 rfl rfl ?_
    refine wp_if_lt (tgt := 30) dX12_button_14 (by decide) (fun c8 => ?_) (fun c8 => ?_)
    · have hb := hb.1 c8
      refine wp_iconst (v := (-1)) dX12_button_30 (by decide) ?_
      exact wp_iret rfl dX12_button_31 ⟨_, rfl, hb⟩
    · have hb := hb.2 c8
      refine wp_iload_n 2 dX12_button_17 rfl rfl ?_
      refine wp_aload_n 0 dX12_button_18 rfl rfl ?_
      obtain ⟨i9, hb⟩ := hb
      refine wp_getR dX12_button_19 fl_X12_21 i1 (i9.ne (by decide)) ?_
      refine wp_iload_n 1 dX12_button_22 rfl rfl ?_
      obtain ⟨b10, hb⟩ := hb
      obtain ⟨i11, hb⟩ := hb
      refine wp_aaload25 dX12_button_23 i9 b10 (i11.ne (by decide)) ?_
      refine wp_getI dX12_button_24 fl_X12_208 i11 ?_
      refine wp_icmp_lt (tgt := 32) dX12_button_27 (by decide) (fun c12 => ?_) (fun c12 => ?_)
      · have hb := hb.1 c12
        refine wp_aload_n 0 dX12_button_32 rfl rfl ?_
        obtain ⟨i13, hb⟩ := hb
        refine wp_getR dX12_button_33 fl_X12_21 i1 (i13.ne (by decide)) ?_
        refine wp_iload_n 1 dX12_button_36 rfl rfl ?_
        obtain ⟨b14, hb⟩ := hb
        obtain ⟨i15, hb⟩ := hb
        refine wp_aaload25 dX12_button_37 i13 b14 (i15.ne (by decide)) ?_
        refine wp_topr (fun v16 e17 => ?_)
        have hb := hb v16 e17
        have i18 : Is 194 v16 9 := by rw [e17]; exact i15
        refine wp_astore (lv2 := [(4, .ref v16), (0, .ref x0), (1, .int x1), (2, .int x2), (3, .int x3)]) dX12_button_38 (by decide) rfl ?_
        refine wp_iload_n 4 dX12_button_40 rfl rfl ?_
        refine wp_if_ne (tgt := 54) dX12_button_41 (by decide) (fun c19 => ?_) (fun c19 => ?_)
        · have hb := hb.1 c19
          refine wp_iload_n 4 dX12_button_54 rfl rfl ?_
          refine wp_iconst (v := 1) dX12_button_55 (by decide) ?_
          refine wp_icmp_ne (tgt := 69) dX12_button_56 (by decide) (fun c20 => ?_) (fun c20 => ?_)
          · have hb := hb.1 c20
            refine wp_iload_n 4 dX12_button_69 rfl rfl ?_
            refine wp_iconst (v := 2) dX12_button_70 (by decide) ?_
            refine wp_icmp_ne (tgt := 84) dX12_button_71 (by decide) (fun c21 => ?_) (fun c21 => ?_)
            · have hb := hb.1 c21
              refine wp_iconst (v := (-1)) dX12_button_84 (by decide) ?_
              exact wp_iret rfl dX12_button_85 ⟨_, rfl, hb⟩
            · have hb := hb.2 c21
              refine wp_aload 0 dX12_button_74 rfl ?_
              obtain ⟨i22, hb⟩ := hb
              refine wp_getR dX12_button_76 fl_X12_237 i18 (i22.ne (by decide)) ?_
              refine wp_iload_n 3 dX12_button_79 rfl rfl ?_
              obtain ⟨b23, hb⟩ := hb
              refine wp_iaload dX12_button_80 i22 b23 ?_
              refine wp_goto (tgt := 85) dX12_button_81 (by decide) ?_
              exact wp_iret rfl dX12_button_85 ⟨_, rfl, hb⟩
          · have hb := hb.2 c20
            refine wp_aload 0 dX12_button_59 rfl ?_
            obtain ⟨i24, hb⟩ := hb
            refine wp_getR dX12_button_61 fl_X12_270 i18 (i24.ne (by decide)) ?_
            refine wp_iload_n 3 dX12_button_64 rfl rfl ?_
            obtain ⟨b25, hb⟩ := hb
            refine wp_iaload dX12_button_65 i24 b25 ?_
            refine wp_goto (tgt := 85) dX12_button_66 (by decide) ?_
            exact wp_iret rfl dX12_button_85 ⟨_, rfl, hb⟩
        · have hb := hb.2 c19
          refine wp_aload 0 dX12_button_44 rfl ?_
          obtain ⟨i26, hb⟩ := hb
          refine wp_getR dX12_button_46 fl_X12_267 i18 (i26.ne (by decide)) ?_
          refine wp_iload_n 3 dX12_button_49 rfl rfl ?_
          obtain ⟨b27, hb⟩ := hb
          refine wp_iaload dX12_button_50 i26 b27 ?_
          refine wp_goto (tgt := 85) dX12_button_51 (by decide) ?_
          exact wp_iret rfl dX12_button_85 ⟨_, rfl, hb⟩
      · have hb := hb.2 c12
        refine wp_iconst (v := (-1)) dX12_button_30 (by decide) ?_
        exact wp_iret rfl dX12_button_31 ⟨_, rfl, hb⟩
theorem c_X12_button {l : Launch} {g : AG} {h : AH} {x0 : Nat} {x1 : Int32} {x2 : Int32} {x3 : Int32}  {Q : Int32 → AH → Prop} (hb : L_X12_button_0 l g h x0 x1 x2 x3  Q) : C_X12_button l g h x0 x1 x2 x3  Q := ax_met rfl rfl (Nat.le_of_ble_eq_true rfl) hb
