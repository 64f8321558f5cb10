def C_X12_count (l : Launch) (g : AG) (h : AH) (x0 : Nat) (x1 : Int32)  (Q : Int32 → AH → Prop) : Prop := Ct l g mX12_count 0 0 194 194 h [.ref x0, .int x1] (ax_QI Q)
def L_X12_count_0 (l : Launch) (g : AG) (h : AH) (x0 : Nat) (x1 : Int32)  (Q : Int32 → AH → Prop) : Prop := Wp l g mX12_count 0 0 194 194 194 0 [(0, .ref x0), (1, .int x1)] [] h (FM g 194 194 (ax_QI Q))
set_option maxRecDepth 100000 in
set_option maxHeartbeats 4000000 in
theorem s_X12_count_0 {l : Launch} {g : AG} {h : AH} {x0 : Nat} {x1 : Int32}  {Q : Int32 → AH → Prop} (hb : (Is 194 x0 11) ∧ ( ∀ h2 : AH, h2 = ax_setI h x0 0 0 → ( ((x1 = 0 → (Q (h2.1 x0 25) h2)) ∧ (¬ x1 = 0 → (((x1 = 1 → (Q (h2.1 x0 24) h2)) ∧ (¬ x1 = 1 → (((x1 = 2 → (Q (h2.1 x0 40) h2)) ∧ (¬ x1 = 2 → (((x1 = 3 → (Q (h2.1 x0 11) h2)) ∧ (¬ x1 = 3 → (((x1 = 4 → (Q (h2.1 x0 43) h2)) ∧ (¬ x1 = 4 → (Q (-1) h2)))))))))))))))))) : L_X12_count_0 l g h x0 x1  Q := by
  obtain ⟨i1, hb⟩ := hb
  refine wp_aload_n 0 dX12_count_0 rfl rfl ?_
  refine wp_iconst (v := 0) dX12_count_1 (by decide) ?_
  refine wp_putI dX12_count_2 fl_X12_1 (Or.inl rfl) i1 ?_
  refine wp_topH (fun h2 e3 => ?_)
  have hb := hb h2 e3
  refine wp_iload_n 1 dX12_count_5 rfl rfl ?_
  refine wp_case 0 (fun c4 => ?_) (fun c4 => ?_)
  · have hb := hb.1 c4
    refine wp_tableIn (v := 0) (tgt := 40) dX12_count_6 c4 (by decide) (by decide) rfl (by decide) ?_
    refine wp_aload_n 0 dX12_count_40 rfl rfl ?_
    refine wp_getI dX12_count_41 fl_X12_334 i1 ?_
    exact wp_iret rfl dX12_count_44 ⟨_, rfl, hb⟩
  · have hb := hb.2 c4
    refine wp_case 1 (fun c5 => ?_) (fun c5 => ?_)
    · have hb := hb.1 c5
      refine wp_tableIn (v := 1) (tgt := 45) dX12_count_6 c5 (by decide) (by decide) rfl (by decide) ?_
      refine wp_aload_n 0 dX12_count_45 rfl rfl ?_
      refine wp_getI dX12_count_46 fl_X12_62 i1 ?_
      exact wp_iret rfl dX12_count_49 ⟨_, rfl, hb⟩
    · have hb := hb.2 c5
      refine wp_case 2 (fun c6 => ?_) (fun c6 => ?_)
      · have hb := hb.1 c6
        refine wp_tableIn (v := 2) (tgt := 50) dX12_count_6 c6 (by decide) (by decide) rfl (by decide) ?_
        refine wp_aload_n 0 dX12_count_50 rfl rfl ?_
        refine wp_getI dX12_count_51 fl_X12_415 i1 ?_
        exact wp_iret rfl dX12_count_54 ⟨_, rfl, hb⟩
      · have hb := hb.2 c6
        refine wp_case 3 (fun c7 => ?_) (fun c7 => ?_)
        · have hb := hb.1 c7
          refine wp_tableIn (v := 3) (tgt := 55) dX12_count_6 c7 (by decide) (by decide) rfl (by decide) ?_
          refine wp_aload_n 0 dX12_count_55 rfl rfl ?_
          refine wp_getI dX12_count_56 fl_X12_313 i1 ?_
          exact wp_iret rfl dX12_count_59 ⟨_, rfl, hb⟩
        · have hb := hb.2 c7
          refine wp_case 4 (fun c8 => ?_) (fun c8 => ?_)
          · have hb := hb.1 c8
            refine wp_tableIn (v := 4) (tgt := 60) dX12_count_6 c8 (by decide) (by decide) rfl (by decide) ?_
            refine wp_aload_n 0 dX12_count_60 rfl rfl ?_
            refine wp_getI dX12_count_61 fl_X12_444 i1 ?_
            exact wp_iret rfl dX12_count_64 ⟨_, rfl, hb⟩
          · have hb := hb.2 c8
            refine wp_tableOut (tgt := 65) dX12_count_6 (by have zc4 := lv_neT (k := 0) (a := 0) c4 rfl; have zc5 := lv_neT (k := 1) (a := 1) c5 rfl; have zc6 := lv_neT (k := 2) (a := 2) c6 rfl; have zc7 := lv_neT (k := 3) (a := 3) c7 rfl; have zc8 := lv_neT (k := 4) (a := 4) c8 rfl; omega) (by decide) ?_
            refine wp_iconst (v := (-1)) dX12_count_65 (by decide) ?_
            exact wp_iret rfl dX12_count_66 ⟨_, rfl, hb⟩
theorem c_X12_count {l : Launch} {g : AG} {h : AH} {x0 : Nat} {x1 : Int32}  {Q : Int32 → AH → Prop} (hb : L_X12_count_0 l g h x0 x1  Q) : C_X12_count l g h x0 x1  Q := ax_met rfl rfl (Nat.le_of_ble_eq_true rfl) hb
def C_X12_trouble (l : Launch) (g : AG) (h : AH) (x0 : Nat)  (Q : Int32 → AH → Prop) : Prop := Ct l g mX12_trouble 0 0 194 194 h [.ref x0] (ax_QI Q)
def L_X12_trouble_0 (l : Launch) (g : AG) (h : AH) (x0 : Nat)  (Q : Int32 → AH → Prop) : Prop := Wp l g mX12_trouble 0 0 194 194 194 0 [(0, .ref x0)] [] h (FM g 194 194 (ax_QI Q))
set_option maxRecDepth 100000 in
set_option maxHeartbeats 4000000 in
theorem s_X12_trouble_0 {l : Launch} {g : AG} {h : AH} {x0 : Nat}  {Q : Int32 → AH → Prop} (hb : (Is 194 x0 11) ∧ ( ∀ h2 : AH, h2 = ax_setI h x0 0 0 → ( Q (h2.1 x0 1) h2))) : L_X12_trouble_0 l g h x0  Q := by
  obtain ⟨i1, hb⟩ := hb
  refine wp_aload_n 0 dX12_trouble_0 rfl rfl ?_
  refine wp_iconst (v := 0) dX12_trouble_1 (by decide) ?_
  refine wp_putI dX12_trouble_2 fl_X12_1 (Or.inl rfl) i1 ?_
  refine wp_topH (fun h2 e3 => ?_)
  have hb := hb h2 e3
  refine wp_aload_n 0 dX12_trouble_5 rfl rfl ?_
  refine wp_getI dX12_trouble_6 fl_X12_7 i1 ?_
  exact wp_iret rfl dX12_trouble_9 ⟨_, rfl, hb⟩
theorem c_X12_trouble {l : Launch} {g : AG} {h : AH} {x0 : Nat}  {Q : Int32 → AH → Prop} (hb : L_X12_trouble_0 l g h x0  Q) : C_X12_trouble l g h x0  Q := ax_met rfl rfl (Nat.le_of_ble_eq_true rfl) hb
