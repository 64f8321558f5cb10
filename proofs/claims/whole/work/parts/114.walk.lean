def C_X7_taken (l : Launch) (g : AG) (h : AH) (x0 : Nat)  (Q : Int32 → AH → Prop) : Prop := Ct l g mX7_taken 7 182 194 194 h [.ref x0] (ax_QI Q)
def L_X7_taken_0 (l : Launch) (g : AG) (h : AH) (x0 : Nat)  (Q : Int32 → AH → Prop) : Prop := Wp l g mX7_taken 7 182 194 194 194 0 [(0, .ref x0)] [] h (FM g 194 194 (ax_QI Q))
set_option maxRecDepth 100000 in
set_option maxHeartbeats 4000000 in
theorem s_X7_taken_0 {l : Launch} {g : AG} {h : AH} {x0 : Nat}  {Q : Int32 → AH → Prop} (hb : (Is 194 x0 6) ∧ ( ((h.1 x0 2 = 0 → (C_X7_takeTop l g h x0 (fun r5 h4 => ( (r5 = 0 ∨ r5 = 1) ∧ ( Q r5 h4))))) ∧ (¬ h.1 x0 2 = 0 → (((h.1 x0 2 = 1 → (C_X7_takeVarName l g h x0 (fun r10 h9 => ( (r10 = 0 ∨ r10 = 1) ∧ ( Q r10 h9))))) ∧ (¬ h.1 x0 2 = 1 → (((h.1 x0 2 = 2 → (C_X7_takeVarMost l g h x0 (fun r15 h14 => ( (r15 = 0 ∨ r15 = 1) ∧ ( Q r15 h14))))) ∧ (¬ h.1 x0 2 = 2 → (((h.1 x0 2 = 3 → (C_X7_takeSign l g h x0 59 0 (fun r20 h19 => ( (r20 = 0 ∨ r20 = 1) ∧ ( Q r20 h19))))) ∧ (¬ h.1 x0 2 = 3 → (((h.1 x0 2 = 4 → (C_X7_takeWindowName l g h x0 (fun r25 h24 => ( (r25 = 0 ∨ r25 = 1) ∧ ( Q r25 h24))))) ∧ (¬ h.1 x0 2 = 4 → (((h.1 x0 2 = 5 → (C_X7_takeSign l g h x0 123 6 (fun r30 h29 => ( (r30 = 0 ∨ r30 = 1) ∧ ( Q r30 h29))))) ∧ (¬ h.1 x0 2 = 5 → (((h.1 x0 2 = 6 → (C_X7_takePart l g h x0 (fun r35 h34 => ( (r35 = 0 ∨ r35 = 1) ∧ ( Q r35 h34))))) ∧ (¬ h.1 x0 2 = 6 → (((h.1 x0 2 = 7 → (C_X7_takeShowName l g h x0 (fun r40 h39 => ( (r40 = 0 ∨ r40 = 1) ∧ ( Q r40 h39))))) ∧ (¬ h.1 x0 2 = 7 → (((h.1 x0 2 = 8 → (C_X7_takeSign l g h x0 59 6 (fun r45 h44 => ( (r45 = 0 ∨ r45 = 1) ∧ ( Q r45 h44))))) ∧ (¬ h.1 x0 2 = 8 → (((h.1 x0 2 = 9 → (C_X7_takeButtonName l g h x0 (fun r50 h49 => ( (r50 = 0 ∨ r50 = 1) ∧ ( Q r50 h49))))) ∧ (¬ h.1 x0 2 = 9 → (((h.1 x0 2 = 10 → ((Is 194 (h.2.2 x0 0) 7) ∧ ( C_X8_says l g h (h.2.2 x0 0) 1007 (fun r56 h55 => ( ((r56 = 0 → (C_X7_takeDo l g h55 x0 (fun r60 h59 => ( (r60 = 0 ∨ r60 = 1) ∧ ( Q r60 h59))))) ∧ (¬ (r56 = 0) → (C_X7_awaits l g h55 x0 11 (fun r64 h63 => ( (r64 = 0 ∨ r64 = 1) ∧ ( Q r64 h63))))))))))) ∧ (¬ h.1 x0 2 = 10 → (((h.1 x0 2 = 11 → (C_X7_takeCondName l g h x0 (fun r69 h68 => ( (r69 = 0 ∨ r69 = 1) ∧ ( Q r69 h68))))) ∧ (¬ h.1 x0 2 = 11 → (((h.1 x0 2 = 12 → (C_X7_takeCondSign l g h x0 (fun r74 h73 => ( (r74 = 0 ∨ r74 = 1) ∧ ( Q r74 h73))))) ∧ (¬ h.1 x0 2 = 12 → (((h.1 x0 2 = 13 → (C_X7_takeCondNumber l g h x0 (fun r79 h78 => ( (r79 = 0 ∨ r79 = 1) ∧ ( Q r79 h78))))) ∧ (¬ h.1 x0 2 = 13 → (((h.1 x0 2 = 14 → ((Is 194 (h.2.2 x0 0) 7) ∧ ( C_X8_says l g h (h.2.2 x0 0) 1002 (fun r85 h84 => ( ((r85 = 0 → (C_X7_takeDo l g h84 x0 (fun r89 h88 => ( (r89 = 0 ∨ r89 = 1) ∧ ( Q r89 h88))))) ∧ (¬ (r85 = 0) → (C_X7_awaits l g h84 x0 11 (fun r93 h92 => ( (r93 = 0 ∨ r93 = 1) ∧ ( Q r93 h92))))))))))) ∧ (¬ h.1 x0 2 = 14 → (((h.1 x0 2 = 15 → (C_X7_takeTimerTicks l g h x0 (fun r98 h97 => ( (r98 = 0 ∨ r98 = 1) ∧ ( Q r98 h97))))) ∧ (¬ h.1 x0 2 = 15 → (((h.1 x0 2 = 16 → (C_X7_takeDo l g h x0 (fun r103 h102 => ( (r103 = 0 ∨ r103 = 1) ∧ ( Q r103 h102))))) ∧ (¬ h.1 x0 2 = 16 → (((h.1 x0 2 = 17 → (C_X7_takeDeed l g h x0 (fun r108 h107 => ( (r108 = 0 ∨ r108 = 1) ∧ ( Q r108 h107))))) ∧ (¬ h.1 x0 2 = 17 → (((h.1 x0 2 = 18 → (C_X7_takeDeedWindow l g h x0 (fun r113 h112 => ( (r113 = 0 ∨ r113 = 1) ∧ ( Q r113 h112))))) ∧ (¬ h.1 x0 2 = 18 → (((h.1 x0 2 = 19 → (C_X7_takeDeedVar l g h x0 (fun r118 h117 => ( (r118 = 0 ∨ r118 = 1) ∧ ( Q r118 h117))))) ∧ (¬ h.1 x0 2 = 19 → (((h.1 x0 2 = 20 → (C_X7_takeDeedNumber l g h x0 (fun r123 h122 => ( (r123 = 0 ∨ r123 = 1) ∧ ( Q r123 h122))))) ∧ (¬ h.1 x0 2 = 20 → ((Is 194 (h.2.2 x0 0) 7) ∧ ( ((¬ h.1 (h.2.2 x0 0) 3 = 44 → (C_X7_takeSign l g h x0 59 6 (fun r129 h128 => ( (r129 = 0 ∨ r129 = 1) ∧ ( Q r129 h128))))) ∧ (h.1 (h.2.2 x0 0) 3 = 44 → (C_X7_awaits l g h x0 17 (fun r133 h132 => ( (r133 = 0 ∨ r133 = 1) ∧ ( Q r133 h132)))))))))))))))))))))))))))))))))))))))))))))))))))))))))))))))))))))))) : L_X7_taken_0 l g h x0  Q := by
  obtain ⟨i1, hb⟩ := hb
  refine wp_aload_n 0 dX7_taken_0 rfl rfl ?_
  refine wp_getI dX7_taken_1 fl_X7_18 i1 ?_
  refine wp_case 0 (fun c2 => ?_) (fun c2 => ?_)
  · have hb := hb.1 c2
    refine wp_tableIn (v := 0) (tgt := 104) dX7_taken_4 c2 (by decide) (by decide) rfl (by decide) ?_
    refine wp_aload_n 0 dX7_taken_104 rfl rfl ?_
    refine wp_callV (as := []) dX7_taken_105 cb_X7_takeTop lk_X7_100 im_X7_takeTop se_X7_takeTop rfl (Nat.le_of_ble_eq_true rfl) ⟨by decide, by decide⟩ ⟨Nat.le_refl _, Nat.le_refl _, Nat.le_refl _⟩ i1 rfl (by decide) hb (fun r0 h4 hb => ?_)
    obtain ⟨r5, rfl, hb⟩ := hb
    obtain ⟨q6, hb⟩ := hb
    exact wp_zret rfl dX7_taken_108 q6 ⟨_, rfl, hb⟩
  · have hb := hb.2 c2
    refine wp_case 1 (fun c7 => ?_) (fun c7 => ?_)
    · have hb := hb.1 c7
      refine wp_tableIn (v := 1) (tgt := 109) dX7_taken_4 c7 (by decide) (by decide) rfl (by decide) ?_
      refine wp_aload_n 0 dX7_taken_109 rfl rfl ?_
      refine wp_callV (as := []) dX7_taken_110 cb_X7_takeVarName lk_X7_103 im_X7_takeVarName se_X7_takeVarName rfl (Nat.le_of_ble_eq_true rfl) ⟨by decide, by decide⟩ ⟨Nat.le_refl _, Nat.le_refl _, Nat.le_refl _⟩ i1 rfl (by decide) hb (fun r0 h9 hb => ?_)
      obtain ⟨r10, rfl, hb⟩ := hb
      obtain ⟨q11, hb⟩ := hb
      exact wp_zret rfl dX7_taken_113 q11 ⟨_, rfl, hb⟩
    · have hb := hb.2 c7
      refine wp_case 2 (fun c12 => ?_) (fun c12 => ?_)
      · have hb := hb.1 c12
        refine wp_tableIn (v := 2) (tgt := 114) dX7_taken_4 c12 (by decide) (by decide) rfl (by decide) ?_
        refine wp_aload_n 0 dX7_taken_114 rfl rfl ?_
        refine wp_callV (as := []) dX7_taken_115 cb_X7_takeVarMost lk_X7_106 im_X7_takeVarMost se_X7_takeVarMost rfl (Nat.le_of_ble_eq_true rfl) ⟨by decide, by decide⟩ ⟨Nat.le_refl _, Nat.le_refl _, Nat.le_refl _⟩ i1 rfl (by decide) hb (fun r0 h14 hb => ?_)
        obtain ⟨r15, rfl, hb⟩ := hb
        obtain ⟨q16, hb⟩ := hb
        exact wp_zret rfl dX7_taken_118 q16 ⟨_, rfl, hb⟩
      · have hb := hb.2 c12
        refine wp_case 3 (fun c17 => ?_) (fun c17 => ?_)
        · have hb := hb.1 c17
          refine wp_tableIn (v := 3) (tgt := 119) dX7_taken_4 c17 (by decide) (by decide) rfl (by decide) ?_
          refine wp_aload_n 0 dX7_taken_119 rfl rfl ?_
          refine wp_bipush (v := 59) dX7_taken_120 (by decide) ?_
          refine wp_iconst (v := 0) dX7_taken_122 (by decide) ?_
          refine wp_callV (as := [.int 59, .int 0]) dX7_taken_123 cb_X7_takeSign lk_X7_109 im_X7_takeSign se_X7_takeSign rfl (Nat.le_of_ble_eq_true rfl) ⟨by decide, by decide⟩ ⟨Nat.le_refl _, Nat.le_refl _, Nat.le_refl _⟩ i1 rfl (by decide) hb (fun r0 h19 hb => ?_)
          obtain ⟨r20, rfl, hb⟩ := hb
          obtain ⟨q21, hb⟩ := hb
          exact wp_zret rfl dX7_taken_126 q21 ⟨_, rfl, hb⟩
        · have hb := hb.2 c17
          refine wp_case 4 (fun c22 => ?_) (fun c22 => ?_)
          · have hb := hb.1 c22
            refine wp_tableIn (v := 4) (tgt := 127) dX7_taken_4 c22 (by decide) (by decide) rfl (by decide) ?_
            refine wp_aload_n 0 dX7_taken_127 rfl rfl ?_
            refine wp_callV (as := []) dX7_taken_128 cb_X7_takeWindowName lk_X7_113 im_X7_takeWindowName se_X7_takeWindowName rfl (Nat.le_of_ble_eq_true rfl) ⟨by decide, by decide⟩ ⟨Nat.le_refl _, Nat.le_refl _, Nat.le_refl _⟩ i1 rfl (by decide) hb (fun r0 h24 hb => ?_)
            obtain ⟨r25, rfl, hb⟩ := hb
            obtain ⟨q26, hb⟩ := hb
            exact wp_zret rfl dX7_taken_131 q26 ⟨_, rfl, hb⟩
          · have hb := hb.2 c22
            refine wp_case 5 (fun c27 => ?_) (fun c27 => ?_)
            · have hb := hb.1 c27
              refine wp_tableIn (v := 5) (tgt := 132) dX7_taken_4 c27 (by decide) (by decide) rfl (by decide) ?_
              refine wp_aload_n 0 dX7_taken_132 rfl rfl ?_
              refine wp_bipush (v := 123) dX7_taken_133 (by decide) ?_
              refine wp_bipush (v := 6) dX7_taken_135 (by decide) ?_
              refine wp_callV (as := [.int 123, .int 6]) dX7_taken_137 cb_X7_takeSign lk_X7_109 im_X7_takeSign se_X7_takeSign rfl (Nat.le_of_ble_eq_true rfl) ⟨by decide, by decide⟩ ⟨Nat.le_refl _, Nat.le_refl _, Nat.le_refl _⟩ i1 rfl (by decide) hb (fun r0 h29 hb => ?_)
              obtain ⟨r30, rfl, hb⟩ := hb
              obtain ⟨q31, hb⟩ := hb
              exact wp_zret rfl dX7_taken_140 q31 ⟨_, rfl, hb⟩
            · have hb := hb.2 c27
              refine wp_case 6 (fun c32 => ?_) (fun c32 => ?_)
              · have hb := hb.1 c32
                refine wp_tableIn (v := 6) (tgt := 141) dX7_taken_4 c32 (by decide) (by decide) rfl (by decide) ?_
                refine wp_aload_n 0 dX7_taken_141 rfl rfl ?_
                refine wp_callV (as := []) dX7_taken_142 cb_X7_takePart lk_X7_116 im_X7_takePart se_X7_takePart rfl (Nat.le_of_ble_eq_true rfl) ⟨by decide, by decide⟩ ⟨Nat.le_refl _, Nat.le_refl _, Nat.le_refl _⟩ i1 rfl (by decide) hb (fun r0 h34 hb => ?_)
                obtain ⟨r35, rfl, hb⟩ := hb
                obtain ⟨q36, hb⟩ := hb
                exact wp_zret rfl dX7_taken_145 q36 ⟨_, rfl, hb⟩
              · have hb := hb.2 c32
                refine wp_case 7 (fun c37 => ?_) (fun c37 => ?_)
                · have hb := hb.1 c37
                  refine wp_tableIn (v := 7) (tgt := 146) dX7_taken_4 c37 (by decide) (by decide) rfl (by decide) ?_
                  refine wp_aload_n 0 dX7_taken_146 rfl rfl ?_
                  refine wp_callV (as := []) dX7_taken_147 cb_X7_takeShowName lk_X7_119 im_X7_takeShowName se_X7_takeShowName rfl (Nat.le_of_ble_eq_true rfl) ⟨by decide, by decide⟩ ⟨Nat.le_refl _, Nat.le_refl _, Nat.le_refl _⟩ i1 rfl (by decide) hb (fun r0 h39 hb => ?_)
                  obtain ⟨r40, rfl, hb⟩ := hb
                  obtain ⟨q41, hb⟩ := hb
                  exact wp_zret rfl dX7_taken_150 q41 ⟨_, rfl, hb⟩
                · have hb := hb.2 c37
                  refine wp_case 8 (fun c42 => ?_) (fun c42 => ?_)
                  · have hb := hb.1 c42
                    refine wp_tableIn (v := 8) (tgt := 151) dX7_taken_4 c42 (by decide) (by decide) rfl (by decide) ?_
                    refine wp_aload_n 0 dX7_taken_151 rfl rfl ?_
                    refine wp_bipush (v := 59) dX7_taken_152 (by decide) ?_
                    refine wp_bipush (v := 6) dX7_taken_154 (by decide) ?_
                    refine wp_callV (as := [.int 59, .int 6]) dX7_taken_156 cb_X7_takeSign lk_X7_109 im_X7_takeSign se_X7_takeSign rfl (Nat.le_of_ble_eq_true rfl) ⟨by decide, by decide⟩ ⟨Nat.le_refl _, Nat.le_refl _, Nat.le_refl _⟩ i1 rfl (by decide) hb (fun r0 h44 hb => ?_)
                    obtain ⟨r45, rfl, hb⟩ := hb
                    obtain ⟨q46, hb⟩ := hb
                    exact wp_zret rfl dX7_taken_159 q46 ⟨_, rfl, hb⟩
                  · have hb := hb.2 c42
                    refine wp_case 9 (fun c47 => ?_) (fun c47 => ?_)
                    · have hb := hb.1 c47
                      refine wp_tableIn (v := 9) (tgt := 160) dX7_taken_4 c47 (by decide) (by decide) rfl (by decide) ?_
                      refine wp_aload_n 0 dX7_taken_160 rfl rfl ?_
                      refine wp_callV (as := []) dX7_taken_161 cb_X7_takeButtonName lk_X7_122 im_X7_takeButtonName se_X7_takeButtonName rfl (Nat.le_of_ble_eq_true rfl) ⟨by decide, by decide⟩ ⟨Nat.le_refl _, Nat.le_refl _, Nat.le_refl _⟩ i1 rfl (by decide) hb (fun r0 h49 hb => ?_)
                      obtain ⟨r50, rfl, hb⟩ := hb
                      obtain ⟨q51, hb⟩ := hb
                      exact wp_zret rfl dX7_taken_164 q51 ⟨_, rfl, hb⟩
                    · have hb := hb.2 c47
                      refine wp_case 10 (fun c52 => ?_) (fun c52 => ?_)
                      · have hb := hb.1 c52
                        refine wp_tableIn (v := 10) (tgt := 165) dX7_taken_4 c52 (by decide) (by decide) rfl (by decide) ?_
                        refine wp_aload_n 0 dX7_taken_165 rfl rfl ?_
                        obtain ⟨i53, hb⟩ := hb
                        refine wp_getR dX7_taken_166 fl_X7_12 i1 (i53.ne (by decide)) ?_
                        refine wp_ldcS (q := ("WindowHouse$Reader", 125, "if", 7)) dX7_taken_169 (by decide +kernel) rfl rfl ?_
                        refine wp_callVN (as := [.ref 1007]) dX7_taken_171 cb_X8_says lk_X7_127 im_X8_says se_X8_says rfl (Nat.le_of_ble_eq_true rfl) ⟨by decide, by decide⟩ ⟨Nat.le_refl _, Nat.le_refl _, Nat.le_refl _⟩ i53 rfl (by decide) hb (fun r0 h55 hb => ?_)
                        obtain ⟨r56, rfl, hb⟩ := hb
                        refine wp_if_eq (tgt := 186) dX7_taken_174 (by decide) (fun c57 => ?_) (fun c57 => ?_)
                        · have hb := hb.1 c57
                          refine wp_aload_n 0 dX7_taken_186 rfl rfl ?_
                          refine wp_callV (as := []) dX7_taken_187 cb_X7_takeDo lk_X7_134 im_X7_takeDo se_X7_takeDo rfl (Nat.le_of_ble_eq_true rfl) ⟨by decide, by decide⟩ ⟨Nat.le_refl _, Nat.le_refl _, Nat.le_refl _⟩ i1 rfl (by decide) hb (fun r0 h59 hb => ?_)
                          obtain ⟨r60, rfl, hb⟩ := hb
                          obtain ⟨q61, hb⟩ := hb
                          exact wp_zret rfl dX7_taken_190 q61 ⟨_, rfl, hb⟩
                        · have hb := hb.2 c57
                          refine wp_aload_n 0 dX7_taken_177 rfl rfl ?_
                          refine wp_bipush (v := 11) dX7_taken_178 (by decide) ?_
                          refine wp_callV (as := [.int 11]) dX7_taken_180 cb_X7_awaits lk_X7_131 im_X7_awaits se_X7_awaits rfl (Nat.le_of_ble_eq_true rfl) ⟨by decide, by decide⟩ ⟨Nat.le_refl _, Nat.le_refl _, Nat.le_refl _⟩ i1 rfl (by decide) hb (fun r0 h63 hb => ?_)
                          obtain ⟨r64, rfl, hb⟩ := hb
                          refine wp_goto (tgt := 190) dX7_taken_183 (by decide) ?_
                          obtain ⟨q65, hb⟩ := hb
                          exact wp_zret rfl dX7_taken_190 q65 ⟨_, rfl, hb⟩
                      · have hb := hb.2 c52
                        refine wp_case 11 (fun c66 => ?_) (fun c66 => ?_)
                        · have hb := hb.1 c66
                          refine wp_tableIn (v := 11) (tgt := 191) dX7_taken_4 c66 (by decide) (by decide) rfl (by decide) ?_
                          refine wp_aload_n 0 dX7_taken_191 rfl rfl ?_
                          refine wp_callV (as := []) dX7_taken_192 cb_X7_takeCondName lk_X7_137 im_X7_takeCondName se_X7_takeCondName rfl (Nat.le_of_ble_eq_true rfl) ⟨by decide, by decide⟩ ⟨Nat.le_refl _, Nat.le_refl _, Nat.le_refl _⟩ i1 rfl (by decide) hb (fun r0 h68 hb => ?_)
                          obtain ⟨r69, rfl, hb⟩ := hb
                          obtain ⟨q70, hb⟩ := hb
                          exact wp_zret rfl dX7_taken_195 q70 ⟨_, rfl, hb⟩
                        · have hb := hb.2 c66
                          refine wp_case 12 (fun c71 => ?_) (fun c71 => ?_)
                          · have hb := hb.1 c71
                            refine wp_tableIn (v := 12) (tgt := 196) dX7_taken_4 c71 (by decide) (by decide) rfl (by decide) ?_
                            refine wp_aload_n 0 dX7_taken_196 rfl rfl ?_
                            refine wp_callV (as := []) dX7_taken_197 cb_X7_takeCondSign lk_X7_140 im_X7_takeCondSign se_X7_takeCondSign rfl (Nat.le_of_ble_eq_true rfl) ⟨by decide, by decide⟩ ⟨Nat.le_refl _, Nat.le_refl _, Nat.le_refl _⟩ i1 rfl (by decide) hb (fun r0 h73 hb => ?_)
                            obtain ⟨r74, rfl, hb⟩ := hb
                            obtain ⟨q75, hb⟩ := hb
                            exact wp_zret rfl dX7_taken_200 q75 ⟨_, rfl, hb⟩
                          · have hb := hb.2 c71
                            refine wp_case 13 (fun c76 => ?_) (fun c76 => ?_)
                            · have hb := hb.1 c76
                              refine wp_tableIn (v := 13) (tgt := 201) dX7_taken_4 c76 (by decide) (by decide) rfl (by decide) ?_
                              refine wp_aload_n 0 dX7_taken_201 rfl rfl ?_
                              refine wp_callV (as := []) dX7_taken_202 cb_X7_takeCondNumber lk_X7_143 im_X7_takeCondNumber se_X7_takeCondNumber rfl (Nat.le_of_ble_eq_true rfl) ⟨by decide, by decide⟩ ⟨Nat.le_refl _, Nat.le_refl _, Nat.le_refl _⟩ i1 rfl (by decide) hb (fun r0 h78 hb => ?_)
                              obtain ⟨r79, rfl, hb⟩ := hb
                              obtain ⟨q80, hb⟩ := hb
                              exact wp_zret rfl dX7_taken_205 q80 ⟨_, rfl, hb⟩
                            · have hb := hb.2 c76
                              refine wp_case 14 (fun c81 => ?_) (fun c81 => ?_)
                              · have hb := hb.1 c81
                                refine wp_tableIn (v := 14) (tgt := 206) dX7_taken_4 c81 (by decide) (by decide) rfl (by decide) ?_
                                refine wp_aload_n 0 dX7_taken_206 rfl rfl ?_
                                obtain ⟨i82, hb⟩ := hb
                                refine wp_getR dX7_taken_207 fl_X7_12 i1 (i82.ne (by decide)) ?_
                                refine wp_ldcS (q := ("WindowHouse$Reader", 146, "and", 2)) dX7_taken_210 (by decide +kernel) rfl rfl ?_
                                refine wp_callVN (as := [.ref 1002]) dX7_taken_212 cb_X8_says lk_X7_127 im_X8_says se_X8_says rfl (Nat.le_of_ble_eq_true rfl) ⟨by decide, by decide⟩ ⟨Nat.le_refl _, Nat.le_refl _, Nat.le_refl _⟩ i82 rfl (by decide) hb (fun r0 h84 hb => ?_)
                                obtain ⟨r85, rfl, hb⟩ := hb
                                refine wp_if_eq (tgt := 227) dX7_taken_215 (by decide) (fun c86 => ?_) (fun c86 => ?_)
                                · have hb := hb.1 c86
                                  refine wp_aload_n 0 dX7_taken_227 rfl rfl ?_
                                  refine wp_callV (as := []) dX7_taken_228 cb_X7_takeDo lk_X7_134 im_X7_takeDo se_X7_takeDo rfl (Nat.le_of_ble_eq_true rfl) ⟨by decide, by decide⟩ ⟨Nat.le_refl _, Nat.le_refl _, Nat.le_refl _⟩ i1 rfl (by decide) hb (fun r0 h88 hb => ?_)
                                  obtain ⟨r89, rfl, hb⟩ := hb
                                  obtain ⟨q90, hb⟩ := hb
                                  exact wp_zret rfl dX7_taken_231 q90 ⟨_, rfl, hb⟩
                                · have hb := hb.2 c86
                                  refine wp_aload_n 0 dX7_taken_218 rfl rfl ?_
                                  refine wp_bipush (v := 11) dX7_taken_219 (by decide) ?_
                                  refine wp_callV (as := [.int 11]) dX7_taken_221 cb_X7_awaits lk_X7_131 im_X7_awaits se_X7_awaits rfl (Nat.le_of_ble_eq_true rfl) ⟨by decide, by decide⟩ ⟨Nat.le_refl _, Nat.le_refl _, Nat.le_refl _⟩ i1 rfl (by decide) hb (fun r0 h92 hb => ?_)
                                  obtain ⟨r93, rfl, hb⟩ := hb
                                  refine wp_goto (tgt := 231) dX7_taken_224 (by decide) ?_
                                  obtain ⟨q94, hb⟩ := hb
                                  exact wp_zret rfl dX7_taken_231 q94 ⟨_, rfl, hb⟩
                              · have hb := hb.2 c81
                                refine wp_case 15 (fun c95 => ?_) (fun c95 => ?_)
                                · have hb := hb.1 c95
                                  refine wp_tableIn (v := 15) (tgt := 232) dX7_taken_4 c95 (by decide) (by decide) rfl (by decide) ?_
                                  refine wp_aload_n 0 dX7_taken_232 rfl rfl ?_
                                  refine wp_callV (as := []) dX7_taken_233 cb_X7_takeTimerTicks lk_X7_148 im_X7_takeTimerTicks se_X7_takeTimerTicks rfl (Nat.le_of_ble_eq_true rfl) ⟨by decide, by decide⟩ ⟨Nat.le_refl _, Nat.le_refl _, Nat.le_refl _⟩ i1 rfl (by decide) hb (fun r0 h97 hb => ?_)
                                  obtain ⟨r98, rfl, hb⟩ := hb
                                  obtain ⟨q99, hb⟩ := hb
                                  exact wp_zret rfl dX7_taken_236 q99 ⟨_, rfl, hb⟩
                                · have hb := hb.2 c95
                                  refine wp_case 16 (fun c100 => ?_) (fun c100 => ?_)
                                  · have hb := hb.1 c100
                                    refine wp_tableIn (v := 16) (tgt := 237) dX7_taken_4 c100 (by decide) (by decide) rfl (by decide) ?_
                                    refine wp_aload_n 0 dX7_taken_237 rfl rfl ?_
                                    refine wp_callV (as := []) dX7_taken_238 cb_X7_takeDo lk_X7_134 im_X7_takeDo se_X7_takeDo rfl (Nat.le_of_ble_eq_true rfl) ⟨by decide, by decide⟩ ⟨Nat.le_refl _, Nat.le_refl _, Nat.le_refl _⟩ i1 rfl (by decide) hb (fun r0 h102 hb => ?_)
                                    obtain ⟨r103, rfl, hb⟩ := hb
                                    obtain ⟨q104, hb⟩ := hb
                                    exact wp_zret rfl dX7_taken_241 q104 ⟨_, rfl, hb⟩
                                  · have hb := hb.2 c100
                                    refine wp_case 17 (fun c105 => ?_) (fun c105 => ?_)
                                    · have hb := hb.1 c105
                                      refine wp_tableIn (v := 17) (tgt := 242) dX7_taken_4 c105 (by decide) (by decide) rfl (by decide) ?_
                                      refine wp_aload_n 0 dX7_taken_242 rfl rfl ?_
                                      refine wp_callV (as := []) dX7_taken_243 cb_X7_takeDeed lk_X7_151 im_X7_takeDeed se_X7_takeDeed rfl (Nat.le_of_ble_eq_true rfl) ⟨by decide, by decide⟩ ⟨Nat.le_refl _, Nat.le_refl _, Nat.le_refl _⟩ i1 rfl (by decide) hb (fun r0 h107 hb => ?_)
                                      obtain ⟨r108, rfl, hb⟩ := hb
                                      obtain ⟨q109, hb⟩ := hb
                                      exact wp_zret rfl dX7_taken_246 q109 ⟨_, rfl, hb⟩
                                    · have hb := hb.2 c105
                                      refine wp_case 18 (fun c110 => ?_) (fun c110 => ?_)
                                      · have hb := hb.1 c110
                                        refine wp_tableIn (v := 18) (tgt := 247) dX7_taken_4 c110 (by decide) (by decide) rfl (by decide) ?_
                                        refine wp_aload_n 0 dX7_taken_247 rfl rfl ?_
                                        refine wp_callV (as := []) dX7_taken_248 cb_X7_takeDeedWindow lk_X7_154 im_X7_takeDeedWindow se_X7_takeDeedWindow rfl (Nat.le_of_ble_eq_true rfl) ⟨by decide, by decide⟩ ⟨Nat.le_refl _, Nat.le_refl _, Nat.le_refl _⟩ i1 rfl (by decide) hb (fun r0 h112 hb => ?_)
                                        obtain ⟨r113, rfl, hb⟩ := hb
                                        obtain ⟨q114, hb⟩ := hb
                                        exact wp_zret rfl dX7_taken_251 q114 ⟨_, rfl, hb⟩
                                      · have hb := hb.2 c110
                                        refine wp_case 19 (fun c115 => ?_) (fun c115 => ?_)
                                        · have hb := hb.1 c115
                                          refine wp_tableIn (v := 19) (tgt := 252) dX7_taken_4 c115 (by decide) (by decide) rfl (by decide) ?_
                                          refine wp_aload_n 0 dX7_taken_252 rfl rfl ?_
                                          refine wp_callV (as := []) dX7_taken_253 cb_X7_takeDeedVar lk_X7_157 im_X7_takeDeedVar se_X7_takeDeedVar rfl (Nat.le_of_ble_eq_true rfl) ⟨by decide, by decide⟩ ⟨Nat.le_refl _, Nat.le_refl _, Nat.le_refl _⟩ i1 rfl (by decide) hb (fun r0 h117 hb => ?_)
                                          obtain ⟨r118, rfl, hb⟩ := hb
                                          obtain ⟨q119, hb⟩ := hb
                                          exact wp_zret rfl dX7_taken_256 q119 ⟨_, rfl, hb⟩
                                        · have hb := hb.2 c115
                                          refine wp_case 20 (fun c120 => ?_) (fun c120 => ?_)
                                          · have hb := hb.1 c120
                                            refine wp_tableIn (v := 20) (tgt := 257) dX7_taken_4 c120 (by decide) (by decide) rfl (by decide) ?_
                                            refine wp_aload_n 0 dX7_taken_257 rfl rfl ?_
                                            refine wp_callV (as := []) dX7_taken_258 cb_X7_takeDeedNumber lk_X7_160 im_X7_takeDeedNumber se_X7_takeDeedNumber rfl (Nat.le_of_ble_eq_true rfl) ⟨by decide, by decide⟩ ⟨Nat.le_refl _, Nat.le_refl _, Nat.le_refl _⟩ i1 rfl (by decide) hb (fun r0 h122 hb => ?_)
                                            obtain ⟨r123, rfl, hb⟩ := hb
                                            obtain ⟨q124, hb⟩ := hb
                                            exact wp_zret rfl dX7_taken_261 q124 ⟨_, rfl, hb⟩
                                          · have hb := hb.2 c120
                                            refine wp_tableOut (tgt := 262) dX7_taken_4 (by have zc2 := lv_neT (k := 0) (a := 0) c2 rfl; have zc7 := lv_neT (k := 1) (a := 1) c7 rfl; have zc12 := lv_neT (k := 2) (a := 2) c12 rfl; have zc17 := lv_neT (k := 3) (a := 3) c17 rfl; have zc22 := lv_neT (k := 4) (a := 4) c22 rfl; have zc27 := lv_neT (k := 5) (a := 5) c27 rfl; have zc32 := lv_neT (k := 6) (a := 6) c32 rfl; have zc37 := lv_neT (k := 7) (a := 7) c37 rfl; have zc42 := lv_neT (k := 8) (a := 8) c42 rfl; have zc47 := lv_neT (k := 9) (a := 9) c47 rfl; have zc52 := lv_neT (k := 10) (a := 10) c52 rfl; have zc66 := lv_neT (k := 11) (a := 11) c66 rfl; have zc71 := lv_neT (k := 12) (a := 12) c71 rfl; have zc76 := lv_neT (k := 13) (a := 13) c76 rfl; have zc81 := lv_neT (k := 14) (a := 14) c81 rfl; have zc95 := lv_neT (k := 15) (a := 15) c95 rfl; have zc100 := lv_neT (k := 16) (a := 16) c100 rfl; have zc105 := lv_neT (k := 17) (a := 17) c105 rfl; have zc110 := lv_neT (k := 18) (a := 18) c110 rfl; have zc115 := lv_neT (k := 19) (a := 19) c115 rfl; have zc120 := lv_neT (k := 20) (a := 20) c120 rfl; omega) (by decide) ?_
                                            refine wp_aload_n 0 dX7_taken_262 rfl rfl ?_
                                            obtain ⟨i125, hb⟩ := hb
                                            refine wp_getR dX7_taken_263 fl_X7_12 i1 (i125.ne (by decide)) ?_
                                            refine wp_getI dX7_taken_266 fl_X7_80 i125 ?_
                                            refine wp_bipush (v := 44) dX7_taken_269 (by decide) ?_
                                            refine wp_icmp_ne (tgt := 283) dX7_taken_271 (by decide) (fun c126 => ?_) (fun c126 => ?_)
                                            · have hb := hb.1 c126
                                              refine wp_aload_n 0 dX7_taken_283 rfl rfl ?_
                                              refine wp_bipush (v := 59) dX7_taken_284 (by decide) ?_
                                              refine wp_bipush (v := 6) dX7_taken_286 (by decide) ?_
                                              refine wp_callV (as := [.int 59, .int 6]) dX7_taken_288 cb_X7_takeSign lk_X7_109 im_X7_takeSign se_X7_takeSign rfl (Nat.le_of_ble_eq_true rfl) ⟨by decide, by decide⟩ ⟨Nat.le_refl _, Nat.le_refl _, Nat.le_refl _⟩ i1 rfl (by decide) hb (fun r0 h128 hb => ?_)
                                              obtain ⟨r129, rfl, hb⟩ := hb
                                              obtain ⟨q130, hb⟩ := hb
                                              exact wp_zret rfl dX7_taken_291 q130 ⟨_, rfl, hb⟩
                                            · have hb := hb.2 c126
                                              refine wp_aload_n 0 dX7_taken_274 rfl rfl ?_
                                              refine wp_bipush (v := 17) dX7_taken_275 (by decide) ?_
                                              refine wp_callV (as := [.int 17]) dX7_taken_277 cb_X7_awaits lk_X7_131 im_X7_awaits se_X7_awaits rfl (Nat.le_of_ble_eq_true rfl) ⟨by decide, by decide⟩ ⟨Nat.le_refl _, Nat.le_refl _, Nat.le_refl _⟩ i1 rfl (by decide) hb (fun r0 h132 hb => ?_)
                                              obtain ⟨r133, rfl, hb⟩ := hb
                                              refine wp_goto (tgt := 291) dX7_taken_280 (by decide) ?_
                                              obtain ⟨q134, hb⟩ := hb
                                              exact wp_zret rfl dX7_taken_291 q134 ⟨_, rfl, hb⟩
theorem c_X7_taken {l : Launch} {g : AG} {h : AH} {x0 : Nat}  {Q : Int32 → AH → Prop} (hb : L_X7_taken_0 l g h x0  Q) : C_X7_taken l g h x0  Q := ax_met rfl (Nat.le_of_ble_eq_true rfl) hb
