def C_X12_possible (l : Launch) (g : AG) (h : AH) (x0 : Nat) (x1 : Nat)  (Q : Int32 → AH → Prop) : Prop := Ct l g mX12_possible 1 27 194 194 h [.ref x0, .ref x1] (ax_QI Q)
def L_X12_possible_0 (l : Launch) (g : AG) (h : AH) (x0 : Nat) (x1 : Nat)  (Q : Int32 → AH → Prop) : Prop := Wp l g mX12_possible 1 27 194 194 194 0 [(0, .ref x0), (1, .ref x1)] [] h (FM g 194 194 (ax_QI Q))
def L_X12_possible_23 (l : Launch) (g : AG) (h : AH) (x0 : Nat) (s0 : Int32) (s1 : Int32) (Q : Int32 → AH → Prop) : Prop := Wp l g mX12_possible 1 27 194 194 194 23 [(0, .ref x0)] [.int s0, .int s1] h (FM g 194 194 (ax_QI Q))
set_option maxRecDepth 100000 in
set_option maxHeartbeats 4000000 in
theorem s_X12_possible_0 {l : Launch} {g : AG} {h : AH} {x0 : Nat} {x1 : Nat}  {Q : Int32 → AH → Prop} (hb : (Is 194 x0 11) ∧ ( (Is 194 x1 9) ∧ ( C_X12_pressed l g h x0 x1 (fun r5 h4 => ( ((h4.1 x0 19 ≤ 0 → (L_X12_possible_23 l g h4 x0 16777216 (r5 ||| 67108864) Q)) ∧ (¬ (h4.1 x0 19 ≤ 0) → (L_X12_possible_23 l g h4 x0 0 (r5 ||| 67108864) Q)))))))) : L_X12_possible_0 l g h x0 x1  Q := by
  obtain ⟨i1, hb⟩ := hb
  refine wp_aload_n 0 dX12_possible_0 rfl rfl ?_
  obtain ⟨i2, hb⟩ := hb
  refine wp_aload_n 1 dX12_possible_1 rfl rfl ?_
  refine wp_callV (as := [.ref x1]) dX12_possible_2 cb_X12_pressed lk_X12_354 im_X12_pressed se_X12_pressed rfl (Nat.le_of_ble_eq_true rfl) ⟨by decide, by decide⟩ ⟨Nat.le_refl _, Nat.le_refl _, Nat.le_refl _⟩ i1 rfl (by decide) hb (fun r0 h4 hb => ?_)
  obtain ⟨r5, rfl, hb⟩ := hb
  refine wp_ldcw (v := 67108864) dX12_possible_5 lk_X12_358 ?_
  refine wp_ior dX12_possible_8 ?_
  refine wp_aload_n 0 dX12_possible_9 rfl rfl ?_
  refine wp_getI dX12_possible_10 fl_X12_343 i1 ?_
  refine wp_if_le (tgt := 20) dX12_possible_13 (by decide) (fun c6 => ?_) (fun c6 => ?_)
  · have hb := hb.1 c6
    refine wp_ldcw (v := 16777216) dX12_possible_20 lk_X12_359 ?_
    exact wp_sub [0] rfl hb
  · have hb := hb.2 c6
    refine wp_iconst (v := 0) dX12_possible_16 (by decide) ?_
    refine wp_goto (tgt := 23) dX12_possible_17 (by decide) ?_
    exact wp_sub [0] rfl hb
set_option maxRecDepth 100000 in
set_option maxHeartbeats 4000000 in
theorem s_X12_possible_23 {l : Launch} {g : AG} {h : AH} {x0 : Nat} {s0 : Int32} {s1 : Int32} {Q : Int32 → AH → Prop} (hb : (Is 194 x0 11) ∧ ( ((0 < h.1 x0 19 → (Q ((s1 ||| s0) ||| 0) h)) ∧ (¬ (0 < h.1 x0 19) → (((2 ≤ h.1 x0 20 → (Q ((s1 ||| s0) ||| 33554432) h)) ∧ (¬ (2 ≤ h.1 x0 20) → (Q ((s1 ||| s0) ||| 0) h)))))))) : L_X12_possible_23 l g h x0 s0 s1 Q := by
  refine wp_ior dX12_possible_23 ?_
  obtain ⟨i7, hb⟩ := hb
  refine wp_aload_n 0 dX12_possible_24 rfl rfl ?_
  refine wp_getI dX12_possible_25 fl_X12_343 i7 ?_
  refine wp_if_gt (tgt := 39) dX12_possible_28 (by decide) (fun c8 => ?_) (fun c8 => ?_)
  · have hb := hb.1 c8
    refine wp_iconst (v := 0) dX12_possible_39 (by decide) ?_
    refine wp_goto (tgt := 46) dX12_possible_40 (by decide) ?_
    refine wp_ior dX12_possible_46 ?_
    exact wp_iret rfl dX12_possible_47 ⟨_, rfl, hb⟩
  · have hb := hb.2 c8
    refine wp_aload_n 0 dX12_possible_31 rfl rfl ?_
    refine wp_getI dX12_possible_32 fl_X12_346 i7 ?_
    refine wp_iconst (v := 2) dX12_possible_35 (by decide) ?_
    refine wp_icmp_ge (tgt := 43) dX12_possible_36 (by decide) (fun c9 => ?_) (fun c9 => ?_)
    · have hb := hb.1 c9
      refine wp_ldcw (v := 33554432) dX12_possible_43 lk_X12_360 ?_
      refine wp_ior dX12_possible_46 ?_
      exact wp_iret rfl dX12_possible_47 ⟨_, rfl, hb⟩
    · have hb := hb.2 c9
      refine wp_iconst (v := 0) dX12_possible_39 (by decide) ?_
      refine wp_goto (tgt := 46) dX12_possible_40 (by decide) ?_
      refine wp_ior dX12_possible_46 ?_
      exact wp_iret rfl dX12_possible_47 ⟨_, rfl, hb⟩
theorem c_X12_possible {l : Launch} {g : AG} {h : AH} {x0 : Nat} {x1 : Nat}  {Q : Int32 → AH → Prop} (hb : L_X12_possible_0 l g h x0 x1  Q) : C_X12_possible l g h x0 x1  Q := ax_met rfl (Nat.le_of_ble_eq_true rfl) hb
def C_X12_forgets (l : Launch) (g : AG) (h : AH) (x0 : Nat) (x1 : Nat)  (Q : AH → Prop) : Prop := Ct l g mX12_forgets 0 0 194 194 h [.ref x0, .ref x1] (ax_QV Q)
def L_X12_forgets_0 (l : Launch) (g : AG) (h : AH) (x0 : Nat) (x1 : Nat)  (Q : AH → Prop) : Prop := Wp l g mX12_forgets 0 0 194 194 194 0 [(0, .ref x0), (1, .ref x1)] [] h (FM g 194 194 (ax_QV Q))
def L_X12_forgets_2 (l : Launch) (g : AG) (h : AH) (x0 : Nat) (x1 : Nat) (x2 : Int32)  (Q : AH → Prop) : Prop := Wp l g mX12_forgets 0 0 194 194 194 2 [(0, .ref x0), (1, .ref x1), (2, .int x2)] [] h (FM g 194 194 (ax_QV Q))
set_option maxRecDepth 100000 in
set_option maxHeartbeats 4000000 in
theorem s_X12_forgets_0 {l : Launch} {g : AG} {h : AH} {x0 : Nat} {x1 : Nat}  {Q : AH → Prop} (hb : L_X12_forgets_2 l g h x0 x1 0  Q) : L_X12_forgets_0 l g h x0 x1  Q := by
  refine wp_iconst (v := 0) dX12_forgets_0 (by decide) ?_
  refine wp_istore_n (lv2 := [(2, .int 0), (0, .ref x0), (1, .ref x1)]) dX12_forgets_1 rfl (by decide) rfl ?_
  exact wp_sub [1, 2, 0] rfl hb
set_option maxRecDepth 100000 in
set_option maxHeartbeats 4000000 in
theorem s_X12_forgets_2 {l : Launch} {g : AG} {h : AH} {x0 : Nat} {x1 : Nat} {x2 : Int32}  {Q : AH → Prop} (hb : ((6 ≤ x2 → (Q h)) ∧ (¬ (6 ≤ x2) → ((Is 194 x1 9) ∧ ( ((h.1 x1 2 ≤ x2 → ((Is 194 x0 11) ∧ ( (Is 194 (h.2.2 x0 23) 20) ∧ ( (vp_in x2 (ax_s (h.2.2 x0 23)).2) ∧ ( ∀ h7 : AH, h7 = ax_setI h (h.2.2 x0 23) x2.toNatClampNeg 0 → ( ∀ v9 : Int32, v9 = x2 + (1) → ( L_X12_forgets_2 l g h7 x0 x1 v9  Q))))))) ∧ (¬ (h.1 x1 2 ≤ x2) → ((Is 194 (h.2.2 x1 10) 23) ∧ ( (vp_in x2 (ax_s (h.2.2 x1 10)).2) ∧ ( ((¬ h.1 (h.2.2 x1 10) x2.toNatClampNeg = 0 → (∀ v14 : Int32, v14 = x2 + (1) → ( L_X12_forgets_2 l g h x0 x1 v14  Q))) ∧ (h.1 (h.2.2 x1 10) x2.toNatClampNeg = 0 → ((Is 194 x0 11) ∧ ( (Is 194 (h.2.2 x0 23) 20) ∧ ( (vp_in x2 (ax_s (h.2.2 x0 23)).2) ∧ ( ∀ h19 : AH, h19 = ax_setI h (h.2.2 x0 23) x2.toNatClampNeg 0 → ( ∀ v21 : Int32, v21 = x2 + (1) → ( L_X12_forgets_2 l g h19 x0 x1 v21  Q)))))))))))))))))) : L_X12_forgets_2 l g h x0 x1 x2  Q := by
  refine wp_iload_n 2 dX12_forgets_2 rfl rfl ?_
  refine wp_bipush (v := 6) dX12_forgets_3 (by decide) ?_
  refine wp_icmp_ge (tgt := 38) dX12_forgets_5 (by decide) (fun c1 => ?_) (fun c1 => ?_)
  · have hb := hb.1 c1
    exact wp_vret rfl dX12_forgets_38 ⟨rfl, hb⟩
  · have hb := hb.2 c1
    refine wp_iload_n 2 dX12_forgets_8 rfl rfl ?_
    obtain ⟨i2, hb⟩ := hb
    refine wp_aload_n 1 dX12_forgets_9 rfl rfl ?_
    refine wp_getI dX12_forgets_10 fl_X12_198 i2 ?_
    refine wp_icmp_ge (tgt := 25) dX12_forgets_13 (by decide) (fun c3 => ?_) (fun c3 => ?_)
    · have hb := hb.1 c3
      obtain ⟨i4, hb⟩ := hb
      refine wp_aload_n 0 dX12_forgets_25 rfl rfl ?_
      obtain ⟨i5, hb⟩ := hb
      refine wp_getR dX12_forgets_26 fl_X12_59 i4 (i5.ne (by decide)) ?_
      refine wp_iload_n 2 dX12_forgets_29 rfl rfl ?_
      refine wp_iconst (v := 0) dX12_forgets_30 (by decide) ?_
      obtain ⟨b6, hb⟩ := hb
      refine wp_iastore dX12_forgets_31 i5 b6 ?_
      refine wp_topH (fun h7 e8 => ?_)
      have hb := hb h7 e8
      obtain ⟨v9, e10⟩ : ∃ y : Int32, y = x2 + (1) := ⟨_, rfl⟩
      have hb := hb v9 e10
      refine wp_iinc (v := v9) (lv2 := [(2, .int v9), (0, .ref x0), (1, .ref x1)]) 2 dX12_forgets_32 rfl (by rw [e10]; rfl) (by decide) rfl ?_
      refine wp_goto (tgt := 2) dX12_forgets_35 (by decide) ?_
      exact wp_sub [1, 2, 0] rfl hb
    · have hb := hb.2 c3
      refine wp_aload_n 1 dX12_forgets_16 rfl rfl ?_
      obtain ⟨i11, hb⟩ := hb
      refine wp_getR dX12_forgets_17 fl_X12_214 i2 (i11.ne (by decide)) ?_
      refine wp_iload_n 2 dX12_forgets_20 rfl rfl ?_
      obtain ⟨b12, hb⟩ := hb
      refine wp_zaload dX12_forgets_21 i11 b12 ?_
      refine wp_if_ne (tgt := 32) dX12_forgets_22 (by decide) (fun c13 => ?_) (fun c13 => ?_)
      · have hb := hb.1 c13
        obtain ⟨v14, e15⟩ : ∃ y : Int32, y = x2 + (1) := ⟨_, rfl⟩
        have hb := hb v14 e15
        refine wp_iinc (v := v14) (lv2 := [(2, .int v14), (0, .ref x0), (1, .ref x1)]) 2 dX12_forgets_32 rfl (by rw [e15]; rfl) (by decide) rfl ?_
        refine wp_goto (tgt := 2) dX12_forgets_35 (by decide) ?_
        exact wp_sub [1, 2, 0] rfl hb
      · have hb := hb.2 c13
        obtain ⟨i16, hb⟩ := hb
        refine wp_aload_n 0 dX12_forgets_25 rfl rfl ?_
        obtain ⟨i17, hb⟩ := hb
        refine wp_getR dX12_forgets_26 fl_X12_59 i16 (i17.ne (by decide)) ?_
        refine wp_iload_n 2 dX12_forgets_29 rfl rfl ?_
        refine wp_iconst (v := 0) dX12_forgets_30 (by decide) ?_
        obtain ⟨b18, hb⟩ := hb
        refine wp_iastore dX12_forgets_31 i17 b18 ?_
        refine wp_topH (fun h19 e20 => ?_)
        have hb := hb h19 e20
        obtain ⟨v21, e22⟩ : ∃ y : Int32, y = x2 + (1) := ⟨_, rfl⟩
        have hb := hb v21 e22
        refine wp_iinc (v := v21) (lv2 := [(2, .int v21), (0, .ref x0), (1, .ref x1)]) 2 dX12_forgets_32 rfl (by rw [e22]; rfl) (by decide) rfl ?_
        refine wp_goto (tgt := 2) dX12_forgets_35 (by decide) ?_
        exact wp_sub [1, 2, 0] rfl hb
theorem c_X12_forgets {l : Launch} {g : AG} {h : AH} {x0 : Nat} {x1 : Nat}  {Q : AH → Prop} (hb : L_X12_forgets_0 l g h x0 x1  Q) : C_X12_forgets l g h x0 x1  Q := ax_met rfl (Nat.le_of_ble_eq_true rfl) hb
def C_X12_does (l : Launch) (g : AG) (h : AH) (x0 : Nat) (x1 : Nat) (x2 : Int32)  (Q : AH → Prop) : Prop := Ct l g mX12_does 1 22 194 194 h [.ref x0, .ref x1, .int x2] (ax_QV Q)
def L_X12_does_0 (l : Launch) (g : AG) (h : AH) (x0 : Nat) (x1 : Nat) (x2 : Int32)  (Q : AH → Prop) : Prop := Wp l g mX12_does 1 22 194 194 194 0 [(0, .ref x0), (1, .ref x1), (2, .int x2)] [] h (FM g 194 194 (ax_QV Q))
def L_X12_does_4 (l : Launch) (g : AG) (h : AH) (x0 : Nat) (x1 : Nat) (x2 : Int32) (x3 : Int32)  (Q : AH → Prop) : Prop := Wp l g mX12_does 1 22 194 194 194 4 [(0, .ref x0), (1, .ref x1), (2, .int x2), (3, .int x3)] [] h (FM g 194 194 (ax_QV Q))
set_option maxRecDepth 100000 in
set_option maxHeartbeats 4000000 in
theorem s_X12_does_0 {l : Launch} {g : AG} {h : AH} {x0 : Nat} {x1 : Nat} {x2 : Int32}  {Q : AH → Prop} (hb : ∀ v1 : Int32, v1 = (4 * x2) → ( L_X12_does_4 l g h x0 x1 x2 v1  Q)) : L_X12_does_0 l g h x0 x1 x2  Q := by
  refine wp_iconst (v := 4) dX12_does_0 (by decide) ?_
  refine wp_iload_n 2 dX12_does_1 rfl rfl ?_
  refine wp_imul dX12_does_2 ?_
  refine wp_topi (fun v1 e2 => ?_)
  have hb := hb v1 e2
  refine wp_istore_n (lv2 := [(3, .int v1), (0, .ref x0), (1, .ref x1), (2, .int x2)]) dX12_does_3 rfl (by decide) rfl ?_
  exact wp_sub [1, 2, 3, 0] rfl hb
set_option maxRecDepth 100000 in
set_option maxHeartbeats 4000000 in
theorem s_X12_does_4 {l : Launch} {g : AG} {h : AH} {x0 : Nat} {x1 : Nat} {x2 : Int32} {x3 : Int32}  {Q : AH → Prop} (hb : (Is 194 x1 9) ∧ ( (Is 194 (h.2.2 x1 11) 20) ∧ ( (vp_in x2 (ax_s (h.2.2 x1 11)).2) ∧ ( (((4 * x2) + (h.1 (h.2.2 x1 11) x2.toNatClampNeg) ≤ x3 → (Q h)) ∧ (¬ ((4 * x2) + (h.1 (h.2.2 x1 11) x2.toNatClampNeg) ≤ x3) → ((Is 194 x0 11) ∧ ( ((¬ h.1 x0 19 = 0 → (Q h)) ∧ (h.1 x0 19 = 0 → ((Is 194 (h.2.2 x1 13) 20) ∧ ( (vp_in x3 (ax_s (h.2.2 x1 13)).2) ∧ ( ∀ v11 : Int32, v11 = (h.1 (h.2.2 x1 13) x3.toNatClampNeg) → ( (Is 194 (h.2.2 x1 12) 20) ∧ ( (vp_in x3 (ax_s (h.2.2 x1 12)).2) ∧ ( ((h.1 (h.2.2 x1 12) x3.toNatClampNeg = 0 → (((¬ h.1 x0 20 = 5 → ((Is 194 (h.2.2 x0 21) 20) ∧ ( (vp_in (h.1 x0 20) (ax_s (h.2.2 x0 21)).2) ∧ ( ∀ h19 : AH, h19 = ax_setI h (h.2.2 x0 21) (h.1 x0 20).toNatClampNeg v11 → ( (Is 194 (h19.2.2 x0 22) 20) ∧ ( (vp_in (h19.1 x0 20) (ax_s (h19.2.2 x0 22)).2) ∧ ( ∀ h23 : AH, h23 = ax_setI h19 (h19.2.2 x0 22) (h19.1 x0 20).toNatClampNeg 0 → ( ∀ h25 : AH, h25 = ax_setI h23 x0 20 ((h23.1 x0 20) + 1) → ( ∀ v27 : Int32, v27 = x3 + (1) → ( L_X12_does_4 l g h25 x0 x1 x2 v27  Q)))))))))) ∧ (h.1 x0 20 = 5 → (∀ v29 : Int32, v29 = x3 + (1) → ( L_X12_does_4 l g h x0 x1 x2 v29  Q)))))) ∧ (¬ h.1 (h.2.2 x1 12) x3.toNatClampNeg = 0 → (((h.1 (h.2.2 x1 12) x3.toNatClampNeg = 1 → (∀ v32 : Int32, v32 = (if 1 < (h.1 x0 20) - 1 then (h.1 x0 20) - 1 else 1) → ( ∀ h34 : AH, h34 = ax_setI h x0 20 v32 → ( ∀ v36 : Int32, v36 = x3 + (1) → ( L_X12_does_4 l g h34 x0 x1 x2 v36  Q))))) ∧ (¬ h.1 (h.2.2 x1 12) x3.toNatClampNeg = 1 → (((h.1 (h.2.2 x1 12) x3.toNatClampNeg = 2 → ((Is 194 (h.2.2 x0 23) 20) ∧ ( (Is 194 (h.2.2 x1 14) 20) ∧ ( (vp_in x3 (ax_s (h.2.2 x1 14)).2) ∧ ( (vp_in v11 (ax_s (h.2.2 x0 23)).2) ∧ ( ∀ h43 : AH, h43 = ax_setI h (h.2.2 x0 23) v11.toNatClampNeg (h.1 (h.2.2 x1 14) x3.toNatClampNeg) → ( ∀ v45 : Int32, v45 = x3 + (1) → ( L_X12_does_4 l g h43 x0 x1 x2 v45  Q)))))))) ∧ (¬ h.1 (h.2.2 x1 12) x3.toNatClampNeg = 2 → (((h.1 (h.2.2 x1 12) x3.toNatClampNeg = 3 → ((Is 194 (h.2.2 x0 23) 20) ∧ ( (Is 194 (h.2.2 x0 23) 20) ∧ ( (vp_in v11 (ax_s (h.2.2 x0 23)).2) ∧ ( (Is 194 (h.2.2 x1 14) 20) ∧ ( (vp_in x3 (ax_s (h.2.2 x1 14)).2) ∧ ( ∀ v53 : Int32, v53 = ((h.1 (h.2.2 x0 23) v11.toNatClampNeg) + (h.1 (h.2.2 x1 14) x3.toNatClampNeg)) → ( (Is 194 (h.2.2 x1 6) 20) ∧ ( (vp_in v11 (ax_s (h.2.2 x1 6)).2) ∧ ( (¬ (h.1 (h.2.2 x1 6) v11.toNatClampNeg) + 1 = 0) ∧ ( ∀ v58 : Int32, v58 = (jirem v53 ((h.1 (h.2.2 x1 6) v11.toNatClampNeg) + 1)) → ( (vp_in v11 (ax_s (h.2.2 x0 23)).2) ∧ ( ∀ h61 : AH, h61 = ax_setI h (h.2.2 x0 23) v11.toNatClampNeg v58 → ( ∀ v63 : Int32, v63 = x3 + (1) → ( L_X12_does_4 l g h61 x0 x1 x2 v63  Q))))))))))))))) ∧ (¬ h.1 (h.2.2 x1 12) x3.toNatClampNeg = 3 → (∀ h65 : AH, h65 = ax_setI h x0 19 v11 → ( ∀ h67 : AH, h67 = ax_setI h65 x0 20 0 → ( C_X12_forgets l g h67 x0 x1 (fun h70 => ( ∀ v71 : Int32, v71 = x3 + (1) → ( L_X12_does_4 l g h70 x0 x1 x2 v71  Q))))))))))))))))))))))))))))))))) : L_X12_does_4 l g h x0 x1 x2 x3  Q := by
  refine wp_iload_n 3 dX12_does_4 rfl rfl ?_
  refine wp_iconst (v := 4) dX12_does_5 (by decide) ?_
  refine wp_iload_n 2 dX12_does_6 rfl rfl ?_
  refine wp_imul dX12_does_7 ?_
  obtain ⟨i3, hb⟩ := hb
  refine wp_aload_n 1 dX12_does_8 rfl rfl ?_
  obtain ⟨i4, hb⟩ := hb
  refine wp_getR dX12_does_9 fl_X12_237 i3 (i4.ne (by decide)) ?_
  refine wp_iload_n 2 dX12_does_12 rfl rfl ?_
  obtain ⟨b5, hb⟩ := hb
  refine wp_iaload dX12_does_13 i4 b5 ?_
  refine wp_iadd dX12_does_14 ?_
  refine wp_icmp_ge (tgt := 202) dX12_does_15 (by decide) (fun c6 => ?_) (fun c6 => ?_)
  · have hb := hb.1 c6
    exact wp_vret rfl dX12_does_202 ⟨rfl, hb⟩
  · have hb := hb.2 c6
    obtain ⟨i7, hb⟩ := hb
    refine wp_aload_n 0 dX12_does_18 rfl rfl ?_
    refine wp_getI dX12_does_19 fl_X12_343 i7 ?_
    refine wp_if_ne (tgt := 202) dX12_does_22 (by decide) (fun c8 => ?_) (fun c8 => ?_)
    · have hb := hb.1 c8
      exact wp_vret rfl dX12_does_202 ⟨rfl, hb⟩
    · have hb := hb.2 c8
      refine wp_aload_n 1 dX12_does_25 rfl rfl ?_
      obtain ⟨i9, hb⟩ := hb
      refine wp_getR dX12_does_26 fl_X12_243 i3 (i9.ne (by decide)) ?_
      refine wp_iload_n 3 dX12_does_29 rfl rfl ?_
      obtain ⟨b10, hb⟩ := hb
      refine wp_iaload dX12_does_30 i9 b10 ?_
      refine wp_topi (fun v11 e12 => ?_)
      have hb := hb v11 e12
      refine wp_istore (lv2 := [(4, .int v11), (0, .ref x0), (1, .ref x1), (2, .int x2), (3, .int x3)]) dX12_does_31 (by decide) rfl ?_
      refine wp_aload_n 2 dX12_does_33 rfl rfl ?_
      obtain ⟨i13, hb⟩ := hb
      refine wp_getR dX12_does_34 fl_X12_240 i3 (i13.ne (by decide)) ?_
      refine wp_iload_n 4 dX12_does_37 rfl rfl ?_
      obtain ⟨b14, hb⟩ := hb
      refine wp_iaload dX12_does_38 i13 b14 ?_
      refine wp_case 0 (fun c15 => ?_) (fun c15 => ?_)
      · have hb := hb.1 c15
        refine wp_tableIn (v := 0) (tgt := 68) dX12_does_39 c15 (by decide) (by decide) rfl (by decide) ?_
        refine wp_aload_n 1 dX12_does_68 rfl rfl ?_
        refine wp_getI dX12_does_69 fl_X12_346 i7 ?_
        refine wp_iconst (v := 5) dX12_does_72 (by decide) ?_
        refine wp_icmp_ne (tgt := 79) dX12_does_73 (by decide) (fun c16 => ?_) (fun c16 => ?_)
        · have hb := hb.1 c16
          refine wp_aload_n 1 dX12_does_79 rfl rfl ?_
          obtain ⟨i17, hb⟩ := hb
          refine wp_getR dX12_does_80 fl_X12_52 i7 (i17.ne (by decide)) ?_
          refine wp_aload_n 1 dX12_does_83 rfl rfl ?_
          refine wp_getI dX12_does_84 fl_X12_346 i7 ?_
          refine wp_iload 0 dX12_does_87 rfl ?_
          obtain ⟨b18, hb⟩ := hb
          refine wp_iastore dX12_does_89 i17 b18 ?_
          refine wp_topH (fun h19 e20 => ?_)
          have hb := hb h19 e20
          refine wp_aload_n 1 dX12_does_90 rfl rfl ?_
          obtain ⟨i21, hb⟩ := hb
          refine wp_getR dX12_does_91 fl_X12_56 i7 (i21.ne (by decide)) ?_
          refine wp_aload_n 1 dX12_does_94 rfl rfl ?_
          refine wp_getI dX12_does_95 fl_X12_346 i7 ?_
          refine wp_iconst (v := 0) dX12_does_98 (by decide) ?_
          obtain ⟨b22, hb⟩ := hb
          refine wp_iastore dX12_does_99 i21 b22 ?_
          refine wp_topH (fun h23 e24 => ?_)
          have hb := hb h23 e24
          refine wp_aload_n 1 dX12_does_100 rfl rfl ?_
          refine wp_dup dX12_does_101 rfl ?_
          refine wp_getI dX12_does_102 fl_X12_346 i7 ?_
          refine wp_iconst (v := 1) dX12_does_105 (by decide) ?_
          refine wp_iadd dX12_does_106 ?_
          refine wp_putI dX12_does_107 fl_X12_346 (Or.inl rfl) i7 ?_
          refine wp_topH (fun h25 e26 => ?_)
          have hb := hb h25 e26
          refine wp_goto (tgt := 196) dX12_does_110 (by decide) ?_
          obtain ⟨v27, e28⟩ : ∃ y : Int32, y = x3 + (1) := ⟨_, rfl⟩
          have hb := hb v27 e28
          refine wp_iinc (v := v27) (lv2 := [(3, .int v27), (4, .int v11), (0, .ref x0), (1, .ref x1), (2, .int x2)]) 4 dX12_does_196 rfl (by rw [e28]; rfl) (by decide) rfl ?_
          refine wp_goto (tgt := 4) dX12_does_199 (by decide) ?_
          exact wp_sub [2, 3, 4, 0] rfl hb
        · have hb := hb.2 c16
          refine wp_goto (tgt := 196) dX12_does_76 (by decide) ?_
          obtain ⟨v29, e30⟩ : ∃ y : Int32, y = x3 + (1) := ⟨_, rfl⟩
          have hb := hb v29 e30
          refine wp_iinc (v := v29) (lv2 := [(3, .int v29), (4, .int v11), (0, .ref x0), (1, .ref x1), (2, .int x2)]) 4 dX12_does_196 rfl (by rw [e30]; rfl) (by decide) rfl ?_
          refine wp_goto (tgt := 4) dX12_does_199 (by decide) ?_
          exact wp_sub [2, 3, 4, 0] rfl hb
      · have hb := hb.2 c15
        refine wp_case 1 (fun c31 => ?_) (fun c31 => ?_)
        · have hb := hb.1 c31
          refine wp_tableIn (v := 1) (tgt := 113) dX12_does_39 c31 (by decide) (by decide) rfl (by decide) ?_
          refine wp_aload_n 1 dX12_does_113 rfl rfl ?_
          refine wp_iconst (v := 1) dX12_does_114 (by decide) ?_
          refine wp_aload_n 1 dX12_does_115 rfl rfl ?_
          refine wp_getI dX12_does_116 fl_X12_346 i7 ?_
          refine wp_iconst (v := 1) dX12_does_119 (by decide) ?_
          refine wp_isub dX12_does_120 ?_
          refine wp_mmax dX12_does_121 lk_X12_361 (Nat.le_of_ble_eq_true rfl) (by decide) (by decide) (by decide) ?_
          refine wp_topi (fun v32 e33 => ?_)
          have hb := hb v32 e33
          refine wp_putI dX12_does_124 fl_X12_346 (Or.inl rfl) i7 ?_
          refine wp_topH (fun h34 e35 => ?_)
          have hb := hb h34 e35
          refine wp_goto (tgt := 196) dX12_does_127 (by decide) ?_
          obtain ⟨v36, e37⟩ : ∃ y : Int32, y = x3 + (1) := ⟨_, rfl⟩
          have hb := hb v36 e37
          refine wp_iinc (v := v36) (lv2 := [(3, .int v36), (4, .int v11), (0, .ref x0), (1, .ref x1), (2, .int x2)]) 4 dX12_does_196 rfl (by rw [e37]; rfl) (by decide) rfl ?_
          refine wp_goto (tgt := 4) dX12_does_199 (by decide) ?_
          exact wp_sub [2, 3, 4, 0] rfl hb
        · have hb := hb.2 c31
          refine wp_case 2 (fun c38 => ?_) (fun c38 => ?_)
          · have hb := hb.1 c38
            refine wp_tableIn (v := 2) (tgt := 130) dX12_does_39 c38 (by decide) (by decide) rfl (by decide) ?_
            refine wp_aload_n 1 dX12_does_130 rfl rfl ?_
            obtain ⟨i39, hb⟩ := hb
            refine wp_getR dX12_does_131 fl_X12_59 i7 (i39.ne (by decide)) ?_
            refine wp_iload 0 dX12_does_134 rfl ?_
            refine wp_aload_n 2 dX12_does_136 rfl rfl ?_
            obtain ⟨i40, hb⟩ := hb
            refine wp_getR dX12_does_137 fl_X12_310 i3 (i40.ne (by decide)) ?_
            refine wp_iload_n 4 dX12_does_140 rfl rfl ?_
            obtain ⟨b41, hb⟩ := hb
            refine wp_iaload dX12_does_141 i40 b41 ?_
            obtain ⟨b42, hb⟩ := hb
            refine wp_iastore dX12_does_142 i39 b42 ?_
            refine wp_topH (fun h43 e44 => ?_)
            have hb := hb h43 e44
            refine wp_goto (tgt := 196) dX12_does_143 (by decide) ?_
            obtain ⟨v45, e46⟩ : ∃ y : Int32, y = x3 + (1) := ⟨_, rfl⟩
            have hb := hb v45 e46
            refine wp_iinc (v := v45) (lv2 := [(3, .int v45), (4, .int v11), (0, .ref x0), (1, .ref x1), (2, .int x2)]) 4 dX12_does_196 rfl (by rw [e46]; rfl) (by decide) rfl ?_
            refine wp_goto (tgt := 4) dX12_does_199 (by decide) ?_
            exact wp_sub [2, 3, 4, 0] rfl hb
          · have hb := hb.2 c38
            refine wp_case 3 (fun c47 => ?_) (fun c47 => ?_)
            · have hb := hb.1 c47
              refine wp_tableIn (v := 3) (tgt := 146) dX12_does_39 c47 (by decide) (by decide) rfl (by decide) ?_
              refine wp_aload_n 1 dX12_does_146 rfl rfl ?_
              obtain ⟨i48, hb⟩ := hb
              refine wp_getR dX12_does_147 fl_X12_59 i7 (i48.ne (by decide)) ?_
              refine wp_iload 0 dX12_does_150 rfl ?_
              refine wp_aload_n 1 dX12_does_152 rfl rfl ?_
              obtain ⟨i49, hb⟩ := hb
              refine wp_getR dX12_does_153 fl_X12_59 i7 (i49.ne (by decide)) ?_
              refine wp_iload 0 dX12_does_156 rfl ?_
              obtain ⟨b50, hb⟩ := hb
              refine wp_iaload dX12_does_158 i49 b50 ?_
              refine wp_aload_n 2 dX12_does_159 rfl rfl ?_
              obtain ⟨i51, hb⟩ := hb
              refine wp_getR dX12_does_160 fl_X12_310 i3 (i51.ne (by decide)) ?_
              refine wp_iload_n 4 dX12_does_163 rfl rfl ?_
              obtain ⟨b52, hb⟩ := hb
              refine wp_iaload dX12_does_164 i51 b52 ?_
              refine wp_iadd dX12_does_165 ?_
              refine wp_topi (fun v53 e54 => ?_)
              have hb := hb v53 e54
              refine wp_aload_n 2 dX12_does_166 rfl rfl ?_
              obtain ⟨i55, hb⟩ := hb
              refine wp_getR dX12_does_167 fl_X12_216 i3 (i55.ne (by decide)) ?_
              refine wp_iload 0 dX12_does_170 rfl ?_
              obtain ⟨b56, hb⟩ := hb
              refine wp_iaload dX12_does_172 i55 b56 ?_
              refine wp_iconst (v := 1) dX12_does_173 (by decide) ?_
              refine wp_iadd dX12_does_174 ?_
              obtain ⟨q57, hb⟩ := hb
              refine wp_irem dX12_does_175 q57 ?_
              refine wp_topi (fun v58 e59 => ?_)
              have hb := hb v58 e59
              obtain ⟨b60, hb⟩ := hb
              refine wp_iastore dX12_does_176 i48 b60 ?_
              refine wp_topH (fun h61 e62 => ?_)
              have hb := hb h61 e62
              refine wp_goto (tgt := 196) dX12_does_177 (by decide) ?_
              obtain ⟨v63, e64⟩ : ∃ y : Int32, y = x3 + (1) := ⟨_, rfl⟩
              have hb := hb v63 e64
              refine wp_iinc (v := v63) (lv2 := [(3, .int v63), (4, .int v11), (0, .ref x0), (1, .ref x1), (2, .int x2)]) 4 dX12_does_196 rfl (by rw [e64]; rfl) (by decide) rfl ?_
              refine wp_goto (tgt := 4) dX12_does_199 (by decide) ?_
              exact wp_sub [2, 3, 4, 0] rfl hb
            · have hb := hb.2 c47
              refine wp_tableOut (tgt := 180) dX12_does_39 (by have zc15 := lv_neT (k := 0) (a := 0) c15 rfl; have zc31 := lv_neT (k := 1) (a := 1) c31 rfl; have zc38 := lv_neT (k := 2) (a := 2) c38 rfl; have zc47 := lv_neT (k := 3) (a := 3) c47 rfl; omega) (by decide) ?_
              refine wp_aload_n 1 dX12_does_180 rfl rfl ?_
              refine wp_iload 0 dX12_does_181 rfl ?_
              refine wp_putI dX12_does_183 fl_X12_343 (Or.inl rfl) i7 ?_
              refine wp_topH (fun h65 e66 => ?_)
              have hb := hb h65 e66
              refine wp_aload_n 1 dX12_does_186 rfl rfl ?_
              refine wp_iconst (v := 0) dX12_does_187 (by decide) ?_
              refine wp_putI dX12_does_188 fl_X12_346 (Or.inl rfl) i7 ?_
              refine wp_topH (fun h67 e68 => ?_)
              have hb := hb h67 e68
              refine wp_aload_n 1 dX12_does_191 rfl rfl ?_
              refine wp_aload_n 2 dX12_does_192 rfl rfl ?_
              refine wp_callV (as := [.ref x1]) dX12_does_193 cb_X12_forgets lk_X12_366 im_X12_forgets se_X12_forgets rfl (Nat.le_of_ble_eq_true rfl) ⟨by decide, by decide⟩ ⟨Nat.le_refl _, Nat.le_refl _, Nat.le_refl _⟩ i7 rfl (by decide) hb (fun r0 h70 hb => ?_)
              obtain ⟨rfl, hb⟩ := hb
              obtain ⟨v71, e72⟩ : ∃ y : Int32, y = x3 + (1) := ⟨_, rfl⟩
              have hb := hb v71 e72
              refine wp_iinc (v := v71) (lv2 := [(3, .int v71), (4, .int v11), (0, .ref x0), (1, .ref x1), (2, .int x2)]) 4 dX12_does_196 rfl (by rw [e72]; rfl) (by decide) rfl ?_
              refine wp_goto (tgt := 4) dX12_does_199 (by decide) ?_
              exact wp_sub [2, 3, 4, 0] rfl hb
theorem c_X12_does {l : Launch} {g : AG} {h : AH} {x0 : Nat} {x1 : Nat} {x2 : Int32}  {Q : AH → Prop} (hb : L_X12_does_0 l g h x0 x1 x2  Q) : C_X12_does l g h x0 x1 x2  Q := ax_met rfl (Nat.le_of_ble_eq_true rfl) hb
