def C_X4_init (l : Launch) (g : AG) (n : Nat) (h : AH) (x0 : Nat)  (Q : AH → Prop) : Prop := Ct l g mX4_init 1 20 n (n + 4) h [.ref x0] (ax_QV Q)
def L_X4_init_0 (l : Launch) (g : AG) (n : Nat) (h : AH) (x0 : Nat)  (Q : AH → Prop) : Prop := Wp l g mX4_init 1 20 n (n + 4) n 0 [(0, .ref x0)] [] h (FM g n (n + 4) (ax_QV Q))
set_option maxRecDepth 100000 in
set_option maxHeartbeats 4000000 in
theorem s_X4_init_0 {l : Launch} {g : AG} {n : Nat} {h : AH} {x0 : Nat}  {Q : AH → Prop} (hb : (Is n x0 3) ∧ ( (ax_s (n + 1) = (20, 24)) ∧ ( (Zc h (n + 1)) ∧ ( ∀ h5 : AH, h5 = ax_setR h x0 0 (n + 1) → ( (ax_s (n + 2) = (20, 72)) ∧ ( (Zc h5 (n + 2)) ∧ ( ∀ h10 : AH, h10 = ax_setR h5 x0 1 (n + 2) → ( (ax_s (n + 3) = (20, 72)) ∧ ( (Zc h10 (n + 3)) ∧ ( ∀ h15 : AH, h15 = ax_setR h10 x0 2 (n + 3) → ( (ax_s (n + 4) = (20, 72)) ∧ ( (Zc h15 (n + 4)) ∧ ( ∀ h20 : AH, h20 = ax_setR h15 x0 3 (n + 4) → ( Q h20)))))))))))))) : L_X4_init_0 l g n h x0  Q := by
  obtain ⟨i1, hb⟩ := hb
  refine wp_aload_n 0 dX4_init_0 rfl rfl ?_
  refine wp_obj dX4_init_1 lk_X4_3 (Nat.le_of_ble_eq_true rfl) (by decide) (by decide) ?_
  refine wp_aload_n 0 dX4_init_4 rfl rfl ?_
  refine wp_bipush (v := 24) dX4_init_5 (by decide) ?_
  obtain ⟨q2, hb⟩ := hb
  obtain ⟨q3, hb⟩ := hb
  refine wp_newa20 (N := 24) dX4_init_7 (by decide) (by decide) (by decide) (by omega) (by omega) q2 q3 ?_
  have i4 : Is (n + 1) (n + 1) 20 := ⟨Nat.le_refl _, by rw [q2]⟩
  refine wp_putR dX4_init_9 fl_X4_9 (Or.inr ⟨rfl, rfl⟩) (i1.mono (by omega)) (i4.ne (by decide)) ?_
  refine wp_topH (fun h5 e6 => ?_)
  have hb := hb h5 e6
  refine wp_aload_n 0 dX4_init_12 rfl rfl ?_
  refine wp_bipush (v := 72) dX4_init_13 (by decide) ?_
  obtain ⟨q7, hb⟩ := hb
  obtain ⟨q8, hb⟩ := hb
  refine wp_newa20 (N := 72) dX4_init_15 (by decide) (by decide) (by decide) (by omega) (by omega) q7 q8 ?_
  have i9 : Is (n + 2) (n + 2) 20 := ⟨Nat.le_refl _, by rw [q7]⟩
  refine wp_putR dX4_init_17 fl_X4_15 (Or.inr ⟨rfl, rfl⟩) (i1.mono (by omega)) (i9.ne (by decide)) ?_
  refine wp_topH (fun h10 e11 => ?_)
  have hb := hb h10 e11
  refine wp_aload_n 0 dX4_init_20 rfl rfl ?_
  refine wp_bipush (v := 72) dX4_init_21 (by decide) ?_
  obtain ⟨q12, hb⟩ := hb
  obtain ⟨q13, hb⟩ := hb
  refine wp_newa20 (N := 72) dX4_init_23 (by decide) (by decide) (by decide) (by omega) (by omega) q12 q13 ?_
  have i14 : Is (n + 3) (n + 3) 20 := ⟨Nat.le_refl _, by rw [q12]⟩
  refine wp_putR dX4_init_25 fl_X4_18 (Or.inr ⟨rfl, rfl⟩) (i1.mono (by omega)) (i14.ne (by decide)) ?_
  refine wp_topH (fun h15 e16 => ?_)
  have hb := hb h15 e16
  refine wp_aload_n 0 dX4_init_28 rfl rfl ?_
  refine wp_bipush (v := 72) dX4_init_29 (by decide) ?_
  obtain ⟨q17, hb⟩ := hb
  obtain ⟨q18, hb⟩ := hb
  refine wp_newa20 (N := 72) dX4_init_31 (by decide) (by decide) (by decide) (by omega) (by omega) q17 q18 ?_
  have i19 : Is (n + 4) (n + 4) 20 := ⟨Nat.le_refl _, by rw [q17]⟩
  refine wp_putR dX4_init_33 fl_X4_21 (Or.inr ⟨rfl, rfl⟩) (i1.mono (by omega)) (i19.ne (by decide)) ?_
  refine wp_topH (fun h20 e21 => ?_)
  have hb := hb h20 e21
  exact wp_vret rfl dX4_init_36 ⟨rfl, hb⟩
theorem c_X4_init {l : Launch} {g : AG} {n : Nat} {h : AH} {x0 : Nat}  {Q : AH → Prop} (hb : L_X4_init_0 l g n h x0  Q) : C_X4_init l g n h x0  Q := ax_met rfl rfl (Nat.le_of_ble_eq_true rfl) hb
def C_X5_init (l : Launch) (g : AG) (n : Nat) (h : AH) (x0 : Nat)  (Q : AH → Prop) : Prop := Ct l g mX5_init 1 20 n (n + 4) h [.ref x0] (ax_QV Q)
def L_X5_init_0 (l : Launch) (g : AG) (n : Nat) (h : AH) (x0 : Nat)  (Q : AH → Prop) : Prop := Wp l g mX5_init 1 20 n (n + 4) n 0 [(0, .ref x0)] [] h (FM g n (n + 4) (ax_QV Q))
set_option maxRecDepth 100000 in
set_option maxHeartbeats 4000000 in
theorem s_X5_init_0 {l : Launch} {g : AG} {n : Nat} {h : AH} {x0 : Nat}  {Q : AH → Prop} (hb : (Is n x0 4) ∧ ( (ax_s (n + 1) = (20, 32)) ∧ ( (Zc h (n + 1)) ∧ ( ∀ h5 : AH, h5 = ax_setR h x0 0 (n + 1) → ( (ax_s (n + 2) = (20, 128)) ∧ ( (Zc h5 (n + 2)) ∧ ( ∀ h10 : AH, h10 = ax_setR h5 x0 1 (n + 2) → ( (ax_s (n + 3) = (20, 128)) ∧ ( (Zc h10 (n + 3)) ∧ ( ∀ h15 : AH, h15 = ax_setR h10 x0 2 (n + 3) → ( (ax_s (n + 4) = (20, 128)) ∧ ( (Zc h15 (n + 4)) ∧ ( ∀ h20 : AH, h20 = ax_setR h15 x0 3 (n + 4) → ( Q h20)))))))))))))) : L_X5_init_0 l g n h x0  Q := by
  obtain ⟨i1, hb⟩ := hb
  refine wp_aload_n 0 dX5_init_0 rfl rfl ?_
  refine wp_obj dX5_init_1 lk_X5_5 (Nat.le_of_ble_eq_true rfl) (by decide) (by decide) ?_
  refine wp_aload_n 0 dX5_init_4 rfl rfl ?_
  refine wp_bipush (v := 32) dX5_init_5 (by decide) ?_
  obtain ⟨q2, hb⟩ := hb
  obtain ⟨q3, hb⟩ := hb
  refine wp_newa20 (N := 32) dX5_init_7 (by decide) (by decide) (by decide) (by omega) (by omega) q2 q3 ?_
  have i4 : Is (n + 1) (n + 1) 20 := ⟨Nat.le_refl _, by rw [q2]⟩
  refine wp_putR dX5_init_9 fl_X5_11 (Or.inr ⟨rfl, rfl⟩) (i1.mono (by omega)) (i4.ne (by decide)) ?_
  refine wp_topH (fun h5 e6 => ?_)
  have hb := hb h5 e6
  refine wp_aload_n 0 dX5_init_12 rfl rfl ?_
  refine wp_sipush (v := 128) dX5_init_13 (by decide) ?_
  obtain ⟨q7, hb⟩ := hb
  obtain ⟨q8, hb⟩ := hb
  refine wp_newa20 (N := 128) dX5_init_16 (by decide) (by decide) (by decide) (by omega) (by omega) q7 q8 ?_
  have i9 : Is (n + 2) (n + 2) 20 := ⟨Nat.le_refl _, by rw [q7]⟩
  refine wp_putR dX5_init_18 fl_X5_15 (Or.inr ⟨rfl, rfl⟩) (i1.mono (by omega)) (i9.ne (by decide)) ?_
  refine wp_topH (fun h10 e11 => ?_)
  have hb := hb h10 e11
  refine wp_aload_n 0 dX5_init_21 rfl rfl ?_
  refine wp_sipush (v := 128) dX5_init_22 (by decide) ?_
  obtain ⟨q12, hb⟩ := hb
  obtain ⟨q13, hb⟩ := hb
  refine wp_newa20 (N := 128) dX5_init_25 (by decide) (by decide) (by decide) (by omega) (by omega) q12 q13 ?_
  have i14 : Is (n + 3) (n + 3) 20 := ⟨Nat.le_refl _, by rw [q12]⟩
  refine wp_putR dX5_init_27 fl_X5_18 (Or.inr ⟨rfl, rfl⟩) (i1.mono (by omega)) (i14.ne (by decide)) ?_
  refine wp_topH (fun h15 e16 => ?_)
  have hb := hb h15 e16
  refine wp_aload_n 0 dX5_init_30 rfl rfl ?_
  refine wp_sipush (v := 128) dX5_init_31 (by decide) ?_
  obtain ⟨q17, hb⟩ := hb
  obtain ⟨q18, hb⟩ := hb
  refine wp_newa20 (N := 128) dX5_init_34 (by decide) (by decide) (by decide) (by omega) (by omega) q17 q18 ?_
  have i19 : Is (n + 4) (n + 4) 20 := ⟨Nat.le_refl _, by rw [q17]⟩
  refine wp_putR dX5_init_36 fl_X5_21 (Or.inr ⟨rfl, rfl⟩) (i1.mono (by omega)) (i19.ne (by decide)) ?_
  refine wp_topH (fun h20 e21 => ?_)
  have hb := hb h20 e21
  exact wp_vret rfl dX5_init_39 ⟨rfl, hb⟩
theorem c_X5_init {l : Launch} {g : AG} {n : Nat} {h : AH} {x0 : Nat}  {Q : AH → Prop} (hb : L_X5_init_0 l g n h x0  Q) : C_X5_init l g n h x0  Q := ax_met rfl rfl (Nat.le_of_ble_eq_true rfl) hb
def C_X0_init (l : Launch) (g : AG) (n : Nat) (h : AH) (x0 : Nat)  (Q : AH → Prop) : Prop := Ct l g mX0_init 2 40 n (n + 20) h [.ref x0] (ax_QV Q)
def L_X0_init_0 (l : Launch) (g : AG) (n : Nat) (h : AH) (x0 : Nat)  (Q : AH → Prop) : Prop := Wp l g mX0_init 2 40 n (n + 20) n 0 [(0, .ref x0)] [] h (FM g n (n + 20) (ax_QV Q))
set_option maxRecDepth 100000 in
set_option maxHeartbeats 4000000 in
theorem s_X0_init_0 {l : Launch} {g : AG} {n : Nat} {h : AH} {x0 : Nat}  {Q : AH → Prop} (hb : (Is n x0 0) ∧ ( ∀ h2 : AH, h2 = ax_setI h x0 0 0 → ( ∀ h4 : AH, h4 = ax_setI h2 x0 1 0 → ( ∀ h6 : AH, h6 = ax_setI h4 x0 2 0 → ( ∀ h8 : AH, h8 = ax_setI h6 x0 3 0 → ( ∀ h10 : AH, h10 = ax_setI h8 x0 4 0 → ( ∀ h12 : AH, h12 = ax_setI h10 x0 5 0 → ( ∀ h14 : AH, h14 = ax_setL h12 x0 6 0 → ( (ax_s (n + 1) = (21, 6)) ∧ ( (Zc h14 (n + 1)) ∧ ( ∀ h19 : AH, h19 = ax_setR h14 x0 7 (n + 1) → ( (ax_s (n + 2) = (21, 8)) ∧ ( (Zc h19 (n + 2)) ∧ ( ∀ h24 : AH, h24 = ax_setR h19 x0 8 (n + 2) → ( (ax_s (n + 3) = (21, 24)) ∧ ( (Zc h24 (n + 3)) ∧ ( ∀ h29 : AH, h29 = ax_setR h24 x0 9 (n + 3) → ( (ax_s (n + 4) = (20, 6)) ∧ ( (Zc h29 (n + 4)) ∧ ( ∀ h34 : AH, h34 = ax_setR h29 x0 10 (n + 4) → ( (ax_s (n + 5) = (20, 8)) ∧ ( (Zc h34 (n + 5)) ∧ ( ∀ h39 : AH, h39 = ax_setR h34 x0 11 (n + 5) → ( (ax_s (n + 6) = (20, 48)) ∧ ( (Zc h39 (n + 6)) ∧ ( ∀ h44 : AH, h44 = ax_setR h39 x0 12 (n + 6) → ( (ax_s (n + 7) = (20, 8)) ∧ ( (Zc h44 (n + 7)) ∧ ( ∀ h49 : AH, h49 = ax_setR h44 x0 13 (n + 7) → ( (ax_s (n + 8) = (20, 8)) ∧ ( (Zc h49 (n + 8)) ∧ ( ∀ h54 : AH, h54 = ax_setR h49 x0 14 (n + 8) → ( (ax_s (n + 9) = (20, 8)) ∧ ( (Zc h54 (n + 9)) ∧ ( ∀ h59 : AH, h59 = ax_setR h54 x0 15 (n + 9) → ( (ax_s (n + 10) = (20, 24)) ∧ ( (Zc h59 (n + 10)) ∧ ( ∀ h64 : AH, h64 = ax_setR h59 x0 16 (n + 10) → ( (ax_s (n + 11) = (3, 4)) ∧ ( (Zc h64 (n + 11)) ∧ ( C_X4_init l g (n + 11) h64 (n + 11) (fun h70 => ( ∀ h71 : AH, h71 = ax_setR h70 x0 17 (n + 11) → ( (ax_s (n + 16) = (4, 4)) ∧ ( (Zc h71 (n + 16)) ∧ ( C_X5_init l g (n + 16) h71 (n + 16) (fun h77 => ( ∀ h78 : AH, h78 = ax_setR h77 x0 18 (n + 16) → ( Q h78))))))))))))))))))))))))))))))))))))))))))))))))) : L_X0_init_0 l g n h x0  Q := by
  obtain ⟨i1, hb⟩ := hb
  refine wp_aload_n 0 dX0_init_0 rfl rfl ?_
  refine wp_obj dX0_init_1 lk_X0_3 (Nat.le_of_ble_eq_true rfl) (by decide) (by decide) ?_
  refine wp_aload_n 0 dX0_init_4 rfl rfl ?_
  refine wp_iconst (v := 0) dX0_init_5 (by decide) ?_
  refine wp_putI dX0_init_6 fl_X0_9 (Or.inl rfl) (i1.mono (by omega)) ?_
  refine wp_topH (fun h2 e3 => ?_)
  have hb := hb h2 e3
  refine wp_aload_n 0 dX0_init_9 rfl rfl ?_
  refine wp_iconst (v := 0) dX0_init_10 (by decide) ?_
  refine wp_putI dX0_init_11 fl_X0_15 (Or.inl rfl) (i1.mono (by omega)) ?_
  refine wp_topH (fun h4 e5 => ?_)
  have hb := hb h4 e5
  refine wp_aload_n 0 dX0_init_14 rfl rfl ?_
  refine wp_iconst (v := 0) dX0_init_15 (by decide) ?_
  refine wp_putI dX0_init_16 fl_X0_18 (Or.inl rfl) (i1.mono (by omega)) ?_
  refine wp_topH (fun h6 e7 => ?_)
  have hb := hb h6 e7
  refine wp_aload_n 0 dX0_init_19 rfl rfl ?_
  refine wp_iconst (v := 0) dX0_init_20 (by decide) ?_
  refine wp_putI dX0_init_21 fl_X0_21 (Or.inl rfl) (i1.mono (by omega)) ?_
  refine wp_topH (fun h8 e9 => ?_)
  have hb := hb h8 e9
  refine wp_aload_n 0 dX0_init_24 rfl rfl ?_
  refine wp_iconst (v := 0) dX0_init_25 (by decide) ?_
  refine wp_putI dX0_init_26 fl_X0_24 (Or.inl rfl) (i1.mono (by omega)) ?_
  refine wp_topH (fun h10 e11 => ?_)
  have hb := hb h10 e11
  refine wp_aload_n 0 dX0_init_29 rfl rfl ?_
  refine wp_iconst (v := 0) dX0_init_30 (by decide) ?_
  refine wp_putI dX0_init_31 fl_X0_27 (Or.inl rfl) (i1.mono (by omega)) ?_
  refine wp_topH (fun h12 e13 => ?_)
  have hb := hb h12 e13
  refine wp_aload_n 0 dX0_init_34 rfl rfl ?_
  refine wp_lconst (v := 0) dX0_init_35 (by decide) ?_
  refine wp_putL dX0_init_36 fl_X0_30 (Or.inl rfl) (i1.mono (by omega)) ?_
  refine wp_topH (fun h14 e15 => ?_)
  have hb := hb h14 e15
  refine wp_aload_n 0 dX0_init_39 rfl rfl ?_
  refine wp_bipush (v := 6) dX0_init_40 (by decide) ?_
  obtain ⟨q16, hb⟩ := hb
  obtain ⟨q17, hb⟩ := hb
  refine wp_newa21 (N := 6) dX0_init_42 (by decide) (by decide) (by decide) (by omega) (by omega) q16 q17 ?_
  have i18 : Is (n + 1) (n + 1) 21 := ⟨Nat.le_refl _, by rw [q16]⟩
  refine wp_putR dX0_init_44 fl_X0_34 (Or.inr ⟨rfl, rfl⟩) (i1.mono (by omega)) (i18.ne (by decide)) ?_
  refine wp_topH (fun h19 e20 => ?_)
  have hb := hb h19 e20
  refine wp_aload_n 0 dX0_init_47 rfl rfl ?_
  refine wp_bipush (v := 8) dX0_init_48 (by decide) ?_
  obtain ⟨q21, hb⟩ := hb
  obtain ⟨q22, hb⟩ := hb
  refine wp_newa21 (N := 8) dX0_init_50 (by decide) (by decide) (by decide) (by omega) (by omega) q21 q22 ?_
  have i23 : Is (n + 2) (n + 2) 21 := ⟨Nat.le_refl _, by rw [q21]⟩
  refine wp_putR dX0_init_52 fl_X0_38 (Or.inr ⟨rfl, rfl⟩) (i1.mono (by omega)) (i23.ne (by decide)) ?_
  refine wp_topH (fun h24 e25 => ?_)
  have hb := hb h24 e25
  refine wp_aload_n 0 dX0_init_55 rfl rfl ?_
  refine wp_bipush (v := 24) dX0_init_56 (by decide) ?_
  obtain ⟨q26, hb⟩ := hb
  obtain ⟨q27, hb⟩ := hb
  refine wp_newa21 (N := 24) dX0_init_58 (by decide) (by decide) (by decide) (by omega) (by omega) q26 q27 ?_
  have i28 : Is (n + 3) (n + 3) 21 := ⟨Nat.le_refl _, by rw [q26]⟩
  refine wp_putR dX0_init_60 fl_X0_41 (Or.inr ⟨rfl, rfl⟩) (i1.mono (by omega)) (i28.ne (by decide)) ?_
  refine wp_topH (fun h29 e30 => ?_)
  have hb := hb h29 e30
  refine wp_aload_n 0 dX0_init_63 rfl rfl ?_
  refine wp_bipush (v := 6) dX0_init_64 (by decide) ?_
  obtain ⟨q31, hb⟩ := hb
  obtain ⟨q32, hb⟩ := hb
  refine wp_newa20 (N := 6) dX0_init_66 (by decide) (by decide) (by decide) (by omega) (by omega) q31 q32 ?_
  have i33 : Is (n + 4) (n + 4) 20 := ⟨Nat.le_refl _, by rw [q31]⟩
  refine wp_putR dX0_init_68 fl_X0_44 (Or.inr ⟨rfl, rfl⟩) (i1.mono (by omega)) (i33.ne (by decide)) ?_
  refine wp_topH (fun h34 e35 => ?_)
  have hb := hb h34 e35
  refine wp_aload_n 0 dX0_init_71 rfl rfl ?_
  refine wp_bipush (v := 8) dX0_init_72 (by decide) ?_
  obtain ⟨q36, hb⟩ := hb
  obtain ⟨q37, hb⟩ := hb
  refine wp_newa20 (N := 8) dX0_init_74 (by decide) (by decide) (by decide) (by omega) (by omega) q36 q37 ?_
  have i38 : Is (n + 5) (n + 5) 20 := ⟨Nat.le_refl _, by rw [q36]⟩
  refine wp_putR dX0_init_76 fl_X0_48 (Or.inr ⟨rfl, rfl⟩) (i1.mono (by omega)) (i38.ne (by decide)) ?_
  refine wp_topH (fun h39 e40 => ?_)
  have hb := hb h39 e40
  refine wp_aload_n 0 dX0_init_79 rfl rfl ?_
  refine wp_bipush (v := 48) dX0_init_80 (by decide) ?_
  obtain ⟨q41, hb⟩ := hb
  obtain ⟨q42, hb⟩ := hb
  refine wp_newa20 (N := 48) dX0_init_82 (by decide) (by decide) (by decide) (by omega) (by omega) q41 q42 ?_
  have i43 : Is (n + 6) (n + 6) 20 := ⟨Nat.le_refl _, by rw [q41]⟩
  refine wp_putR dX0_init_84 fl_X0_51 (Or.inr ⟨rfl, rfl⟩) (i1.mono (by omega)) (i43.ne (by decide)) ?_
  refine wp_topH (fun h44 e45 => ?_)
  have hb := hb h44 e45
  refine wp_aload_n 0 dX0_init_87 rfl rfl ?_
  refine wp_bipush (v := 8) dX0_init_88 (by decide) ?_
  obtain ⟨q46, hb⟩ := hb
  obtain ⟨q47, hb⟩ := hb
  refine wp_newa20 (N := 8) dX0_init_90 (by decide) (by decide) (by decide) (by omega) (by omega) q46 q47 ?_
  have i48 : Is (n + 7) (n + 7) 20 := ⟨Nat.le_refl _, by rw [q46]⟩
  refine wp_putR dX0_init_92 fl_X0_54 (Or.inr ⟨rfl, rfl⟩) (i1.mono (by omega)) (i48.ne (by decide)) ?_
  refine wp_topH (fun h49 e50 => ?_)
  have hb := hb h49 e50
  refine wp_aload_n 0 dX0_init_95 rfl rfl ?_
  refine wp_bipush (v := 8) dX0_init_96 (by decide) ?_
  obtain ⟨q51, hb⟩ := hb
  obtain ⟨q52, hb⟩ := hb
  refine wp_newa20 (N := 8) dX0_init_98 (by decide) (by decide) (by decide) (by omega) (by omega) q51 q52 ?_
  have i53 : Is (n + 8) (n + 8) 20 := ⟨Nat.le_refl _, by rw [q51]⟩
  refine wp_putR dX0_init_100 fl_X0_57 (Or.inr ⟨rfl, rfl⟩) (i1.mono (by omega)) (i53.ne (by decide)) ?_
  refine wp_topH (fun h54 e55 => ?_)
  have hb := hb h54 e55
  refine wp_aload_n 0 dX0_init_103 rfl rfl ?_
  refine wp_bipush (v := 8) dX0_init_104 (by decide) ?_
  obtain ⟨q56, hb⟩ := hb
  obtain ⟨q57, hb⟩ := hb
  refine wp_newa20 (N := 8) dX0_init_106 (by decide) (by decide) (by decide) (by omega) (by omega) q56 q57 ?_
  have i58 : Is (n + 9) (n + 9) 20 := ⟨Nat.le_refl _, by rw [q56]⟩
  refine wp_putR dX0_init_108 fl_X0_60 (Or.inr ⟨rfl, rfl⟩) (i1.mono (by omega)) (i58.ne (by decide)) ?_
  refine wp_topH (fun h59 e60 => ?_)
  have hb := hb h59 e60
  refine wp_aload_n 0 dX0_init_111 rfl rfl ?_
  refine wp_bipush (v := 24) dX0_init_112 (by decide) ?_
  obtain ⟨q61, hb⟩ := hb
  obtain ⟨q62, hb⟩ := hb
  refine wp_newa20 (N := 24) dX0_init_114 (by decide) (by decide) (by decide) (by omega) (by omega) q61 q62 ?_
  have i63 : Is (n + 10) (n + 10) 20 := ⟨Nat.le_refl _, by rw [q61]⟩
  refine wp_putR dX0_init_116 fl_X0_63 (Or.inr ⟨rfl, rfl⟩) (i1.mono (by omega)) (i63.ne (by decide)) ?_
  refine wp_topH (fun h64 e65 => ?_)
  have hb := hb h64 e65
  refine wp_aload_n 0 dX0_init_119 rfl rfl ?_
  obtain ⟨q66, hb⟩ := hb
  obtain ⟨q67, hb⟩ := hb
  refine wp_new (N := 4) dX0_init_120 lk_X0_66 inst_X4 inic_X4 fc_X4 (fun j hj => ax_df_X4 j hj) (by omega) (by omega) q66 q67 ?_
  have i68 : Is (n + 11) (n + 11) 3 := ⟨Nat.le_refl _, by rw [q66]⟩
  refine wp_dup dX0_init_123 rfl ?_
  refine wp_callIN (as := []) (n1 := n + 15) dX0_init_124 cb_X4_init lk_X0_68 rfl im_X4_init rfl rfl (Nat.le_of_ble_eq_true rfl) ⟨by decide, by decide⟩ ⟨by omega, by omega, by omega⟩ hb (fun r0 h70 hb => ?_)
  obtain ⟨rfl, hb⟩ := hb
  refine wp_putR dX0_init_127 fl_X0_69 (Or.inr ⟨rfl, rfl⟩) (i1.mono (by omega)) (i68.ne (by decide)) ?_
  refine wp_topH (fun h71 e72 => ?_)
  have hb := hb h71 e72
  refine wp_aload_n 0 dX0_init_130 rfl rfl ?_
  obtain ⟨q73, hb⟩ := hb
  obtain ⟨q74, hb⟩ := hb
  refine wp_new (N := 4) dX0_init_131 lk_X0_73 inst_X5 inic_X5 fc_X5 (fun j hj => ax_df_X5 j hj) (by omega) (by omega) q73 q74 ?_
  have i75 : Is (n + 16) (n + 16) 4 := ⟨Nat.le_refl _, by rw [q73]⟩
  refine wp_dup dX0_init_134 rfl ?_
  refine wp_callIN (as := []) (n1 := n + 20) dX0_init_135 cb_X5_init lk_X0_75 rfl im_X5_init rfl rfl (Nat.le_of_ble_eq_true rfl) ⟨by decide, by decide⟩ ⟨by omega, by omega, by omega⟩ hb (fun r0 h77 hb => ?_)
  obtain ⟨rfl, hb⟩ := hb
  refine wp_putR dX0_init_138 fl_X0_76 (Or.inr ⟨rfl, rfl⟩) (i1.mono (by omega)) (i75.ne (by decide)) ?_
  refine wp_topH (fun h78 e79 => ?_)
  have hb := hb h78 e79
  exact wp_vret rfl dX0_init_141 ⟨rfl, hb⟩
theorem c_X0_init {l : Launch} {g : AG} {n : Nat} {h : AH} {x0 : Nat}  {Q : AH → Prop} (hb : L_X0_init_0 l g n h x0  Q) : C_X0_init l g n h x0  Q := ax_met rfl rfl (Nat.le_of_ble_eq_true rfl) hb
def C_X8_init (l : Launch) (g : AG) (n : Nat) (h : AH) (x0 : Nat)  (Q : AH → Prop) : Prop := Ct l g mX8_init 1 20 n (n + 1) h [.ref x0] (ax_QV Q)
def L_X8_init_0 (l : Launch) (g : AG) (n : Nat) (h : AH) (x0 : Nat)  (Q : AH → Prop) : Prop := Wp l g mX8_init 1 20 n (n + 1) n 0 [(0, .ref x0)] [] h (FM g n (n + 1) (ax_QV Q))
set_option maxRecDepth 100000 in
set_option maxHeartbeats 4000000 in
theorem s_X8_init_0 {l : Launch} {g : AG} {n : Nat} {h : AH} {x0 : Nat}  {Q : AH → Prop} (hb : (Is n x0 7) ∧ ( (ax_s (n + 1) = (20, 0)) ∧ ( (Zc h (n + 1)) ∧ ( ∀ h5 : AH, h5 = ax_setR h x0 0 (n + 1) → ( ∀ h7 : AH, h7 = ax_setI h5 x0 1 0 → ( ∀ h9 : AH, h9 = ax_setI h7 x0 2 0 → ( ∀ h11 : AH, h11 = ax_setI h9 x0 3 0 → ( ∀ h13 : AH, h13 = ax_setI h11 x0 4 0 → ( ∀ h15 : AH, h15 = ax_setL h13 x0 5 0 → ( ∀ h17 : AH, h17 = ax_setI h15 x0 6 0 → ( Q h17))))))))))) : L_X8_init_0 l g n h x0  Q := by
  obtain ⟨i1, hb⟩ := hb
  refine wp_aload_n 0 dX8_init_0 rfl rfl ?_
  refine wp_obj dX8_init_1 lk_X8_3 (Nat.le_of_ble_eq_true rfl) (by decide) (by decide) ?_
  refine wp_aload_n 0 dX8_init_4 rfl rfl ?_
  refine wp_iconst (v := 0) dX8_init_5 (by decide) ?_
  obtain ⟨q2, hb⟩ := hb
  obtain ⟨q3, hb⟩ := hb
  refine wp_newa20 (N := 0) dX8_init_6 (by decide) (by decide) (by decide) (by omega) (by omega) q2 q3 ?_
  have i4 : Is (n + 1) (n + 1) 20 := ⟨Nat.le_refl _, by rw [q2]⟩
  refine wp_putR dX8_init_8 fl_X8_9 (Or.inl rfl) (i1.mono (by omega)) (i4.ne (by decide)) ?_
  refine wp_topH (fun h5 e6 => ?_)
  have hb := hb h5 e6
  refine wp_aload_n 0 dX8_init_11 rfl rfl ?_
  refine wp_iconst (v := 0) dX8_init_12 (by decide) ?_
  refine wp_putI dX8_init_13 fl_X8_15 (Or.inl rfl) (i1.mono (by omega)) ?_
  refine wp_topH (fun h7 e8 => ?_)
  have hb := hb h7 e8
  refine wp_aload_n 0 dX8_init_16 rfl rfl ?_
  refine wp_iconst (v := 0) dX8_init_17 (by decide) ?_
  refine wp_putI dX8_init_18 fl_X8_19 (Or.inl rfl) (i1.mono (by omega)) ?_
  refine wp_topH (fun h9 e10 => ?_)
  have hb := hb h9 e10
  refine wp_aload_n 0 dX8_init_21 rfl rfl ?_
  refine wp_iconst (v := 0) dX8_init_22 (by decide) ?_
  refine wp_putI dX8_init_23 fl_X8_22 (Or.inl rfl) (i1.mono (by omega)) ?_
  refine wp_topH (fun h11 e12 => ?_)
  have hb := hb h11 e12
  refine wp_aload_n 0 dX8_init_26 rfl rfl ?_
  refine wp_iconst (v := 0) dX8_init_27 (by decide) ?_
  refine wp_putI dX8_init_28 fl_X8_25 (Or.inl rfl) (i1.mono (by omega)) ?_
  refine wp_topH (fun h13 e14 => ?_)
  have hb := hb h13 e14
  refine wp_aload_n 0 dX8_init_31 rfl rfl ?_
  refine wp_lconst (v := 0) dX8_init_32 (by decide) ?_
  refine wp_putL dX8_init_33 fl_X8_28 (Or.inl rfl) (i1.mono (by omega)) ?_
  refine wp_topH (fun h15 e16 => ?_)
  have hb := hb h15 e16
  refine wp_aload_n 0 dX8_init_36 rfl rfl ?_
  refine wp_iconst (v := 0) dX8_init_37 (by decide) ?_
  refine wp_putI dX8_init_38 fl_X8_32 (Or.inl rfl) (i1.mono (by omega)) ?_
  refine wp_topH (fun h17 e18 => ?_)
  have hb := hb h17 e18
  exact wp_vret rfl dX8_init_41 ⟨rfl, hb⟩
theorem c_X8_init {l : Launch} {g : AG} {n : Nat} {h : AH} {x0 : Nat}  {Q : AH → Prop} (hb : L_X8_init_0 l g n h x0  Q) : C_X8_init l g n h x0  Q := ax_met rfl rfl (Nat.le_of_ble_eq_true rfl) hb
def C_X7_init (l : Launch) (g : AG) (n : Nat) (h : AH) (x0 : Nat) (x1 : Nat)  (Q : AH → Prop) : Prop := Ct l g mX7_init 2 40 n (n + 5) h [.ref x0, .ref x1] (ax_QV Q)
def L_X7_init_0 (l : Launch) (g : AG) (n : Nat) (h : AH) (x0 : Nat) (x1 : Nat)  (Q : AH → Prop) : Prop := Wp l g mX7_init 2 40 n (n + 5) n 0 [(0, .ref x0), (1, .ref x1)] [] h (FM g n (n + 5) (ax_QV Q))
set_option maxRecDepth 100000 in
set_option maxHeartbeats 4000000 in
theorem s_X7_init_0 {l : Launch} {g : AG} {n : Nat} {h : AH} {x0 : Nat} {x1 : Nat}  {Q : AH → Prop} (hb : (Is n x0 6) ∧ ( (ax_s (n + 1) = (7, 7)) ∧ ( (Zc h (n + 1)) ∧ ( C_X8_init l g (n + 1) h (n + 1) (fun h6 => ( ∀ h7 : AH, h7 = ax_setR h6 x0 0 (n + 1) → ( ∀ h9 : AH, h9 = ax_setI h7 x0 2 0 → ( ∀ h11 : AH, h11 = ax_setI h9 x0 3 0 → ( ∀ h13 : AH, h13 = ax_setI h11 x0 4 0 → ( ∀ h15 : AH, h15 = ax_setL h13 x0 5 0 → ( ∀ h17 : AH, h17 = ax_setI h15 x0 6 0 → ( ∀ h19 : AH, h19 = ax_setI h17 x0 7 0 → ( ∀ h21 : AH, h21 = ax_setI h19 x0 8 0 → ( ∀ h23 : AH, h23 = ax_setI h21 x0 9 0 → ( ∀ h25 : AH, h25 = ax_setI h23 x0 10 0 → ( ∀ h27 : AH, h27 = ax_setI h25 x0 11 0 → ( (ax_s (n + 3) = (20, 128)) ∧ ( (Zc h27 (n + 3)) ∧ ( ∀ h32 : AH, h32 = ax_setR h27 x0 12 (n + 3) → ( (ax_s (n + 4) = (21, 128)) ∧ ( (Zc h32 (n + 4)) ∧ ( ∀ h37 : AH, h37 = ax_setR h32 x0 13 (n + 4) → ( (ax_s (n + 5) = (20, 128)) ∧ ( (Zc h37 (n + 5)) ∧ ( ∀ h42 : AH, h42 = ax_setR h37 x0 14 (n + 5) → ( (Is (n + 5) x1 0) ∧ ( ∀ h45 : AH, h45 = ax_setR h42 x0 1 x1 → ( Q h45)))))))))))))))))))))))))))) : L_X7_init_0 l g n h x0 x1  Q := by
  obtain ⟨i1, hb⟩ := hb
  refine wp_aload_n 0 dX7_init_0 rfl rfl ?_
  refine wp_obj dX7_init_1 lk_X7_3 (Nat.le_of_ble_eq_true rfl) (by decide) (by decide) ?_
  refine wp_aload_n 0 dX7_init_4 rfl rfl ?_
  obtain ⟨q2, hb⟩ := hb
  obtain ⟨q3, hb⟩ := hb
  refine wp_new (N := 7) dX7_init_5 lk_X7_9 inst_X8 inic_X8 fc_X8 (fun j hj => ax_df_X8 j hj) (by omega) (by omega) q2 q3 ?_
  have i4 : Is (n + 1) (n + 1) 7 := ⟨Nat.le_refl _, by rw [q2]⟩
  refine wp_dup dX7_init_8 rfl ?_
  refine wp_callIN (as := []) (n1 := n + 2) dX7_init_9 cb_X8_init lk_X7_11 rfl im_X8_init rfl rfl (Nat.le_of_ble_eq_true rfl) ⟨by decide, by decide⟩ ⟨by omega, by omega, by omega⟩ hb (fun r0 h6 hb => ?_)
  obtain ⟨rfl, hb⟩ := hb
  refine wp_putR dX7_init_12 fl_X7_12 (Or.inr ⟨rfl, rfl⟩) (i1.mono (by omega)) (i4.ne (by decide)) ?_
  refine wp_topH (fun h7 e8 => ?_)
  have hb := hb h7 e8
  refine wp_aload_n 0 dX7_init_15 rfl rfl ?_
  refine wp_iconst (v := 0) dX7_init_16 (by decide) ?_
  refine wp_putI dX7_init_17 fl_X7_18 (Or.inl rfl) (i1.mono (by omega)) ?_
  refine wp_topH (fun h9 e10 => ?_)
  have hb := hb h9 e10
  refine wp_aload_n 0 dX7_init_20 rfl rfl ?_
  refine wp_iconst (v := 0) dX7_init_21 (by decide) ?_
  refine wp_putI dX7_init_22 fl_X7_22 (Or.inl rfl) (i1.mono (by omega)) ?_
  refine wp_topH (fun h11 e12 => ?_)
  have hb := hb h11 e12
  refine wp_aload_n 0 dX7_init_25 rfl rfl ?_
  refine wp_iconst (v := 0) dX7_init_26 (by decide) ?_
  refine wp_putI dX7_init_27 fl_X7_25 (Or.inl rfl) (i1.mono (by omega)) ?_
  refine wp_topH (fun h13 e14 => ?_)
  have hb := hb h13 e14
  refine wp_aload_n 0 dX7_init_30 rfl rfl ?_
  refine wp_lconst (v := 0) dX7_init_31 (by decide) ?_
  refine wp_putL dX7_init_32 fl_X7_28 (Or.inl rfl) (i1.mono (by omega)) ?_
  refine wp_topH (fun h15 e16 => ?_)
  have hb := hb h15 e16
  refine wp_aload_n 0 dX7_init_35 rfl rfl ?_
  refine wp_iconst (v := 0) dX7_init_36 (by decide) ?_
  refine wp_putZ dX7_init_37 fl_X7_32 (Or.inl rfl) (i1.mono (by omega)) (Or.inl rfl) ?_
  refine wp_topH (fun h17 e18 => ?_)
  have hb := hb h17 e18
  refine wp_aload_n 0 dX7_init_40 rfl rfl ?_
  refine wp_iconst (v := 0) dX7_init_41 (by decide) ?_
  refine wp_putI dX7_init_42 fl_X7_36 (Or.inl rfl) (i1.mono (by omega)) ?_
  refine wp_topH (fun h19 e20 => ?_)
  have hb := hb h19 e20
  refine wp_aload_n 0 dX7_init_45 rfl rfl ?_
  refine wp_iconst (v := 0) dX7_init_46 (by decide) ?_
  refine wp_putI dX7_init_47 fl_X7_39 (Or.inl rfl) (i1.mono (by omega)) ?_
  refine wp_topH (fun h21 e22 => ?_)
  have hb := hb h21 e22
  refine wp_aload_n 0 dX7_init_50 rfl rfl ?_
  refine wp_iconst (v := 0) dX7_init_51 (by decide) ?_
  refine wp_putI dX7_init_52 fl_X7_42 (Or.inl rfl) (i1.mono (by omega)) ?_
  refine wp_topH (fun h23 e24 => ?_)
  have hb := hb h23 e24
  refine wp_aload_n 0 dX7_init_55 rfl rfl ?_
  refine wp_iconst (v := 0) dX7_init_56 (by decide) ?_
  refine wp_putI dX7_init_57 fl_X7_45 (Or.inl rfl) (i1.mono (by omega)) ?_
  refine wp_topH (fun h25 e26 => ?_)
  have hb := hb h25 e26
  refine wp_aload_n 0 dX7_init_60 rfl rfl ?_
  refine wp_iconst (v := 0) dX7_init_61 (by decide) ?_
  refine wp_putI dX7_init_62 fl_X7_48 (Or.inl rfl) (i1.mono (by omega)) ?_
  refine wp_topH (fun h27 e28 => ?_)
  have hb := hb h27 e28
  refine wp_aload_n 0 dX7_init_65 rfl rfl ?_
  refine wp_sipush (v := 128) dX7_init_66 (by decide) ?_
  obtain ⟨q29, hb⟩ := hb
  obtain ⟨q30, hb⟩ := hb
  refine wp_newa20 (N := 128) dX7_init_69 (by decide) (by decide) (by decide) (by omega) (by omega) q29 q30 ?_
  have i31 : Is (n + 3) (n + 3) 20 := ⟨Nat.le_refl _, by rw [q29]⟩
  refine wp_putR dX7_init_71 fl_X7_53 (Or.inr ⟨rfl, rfl⟩) (i1.mono (by omega)) (i31.ne (by decide)) ?_
  refine wp_topH (fun h32 e33 => ?_)
  have hb := hb h32 e33
  refine wp_aload_n 0 dX7_init_74 rfl rfl ?_
  refine wp_sipush (v := 128) dX7_init_75 (by decide) ?_
  obtain ⟨q34, hb⟩ := hb
  obtain ⟨q35, hb⟩ := hb
  refine wp_newa21 (N := 128) dX7_init_78 (by decide) (by decide) (by decide) (by omega) (by omega) q34 q35 ?_
  have i36 : Is (n + 4) (n + 4) 21 := ⟨Nat.le_refl _, by rw [q34]⟩
  refine wp_putR dX7_init_80 fl_X7_57 (Or.inr ⟨rfl, rfl⟩) (i1.mono (by omega)) (i36.ne (by decide)) ?_
  refine wp_topH (fun h37 e38 => ?_)
  have hb := hb h37 e38
  refine wp_aload_n 0 dX7_init_83 rfl rfl ?_
  refine wp_sipush (v := 128) dX7_init_84 (by decide) ?_
  obtain ⟨q39, hb⟩ := hb
  obtain ⟨q40, hb⟩ := hb
  refine wp_newa20 (N := 128) dX7_init_87 (by decide) (by decide) (by decide) (by omega) (by omega) q39 q40 ?_
  have i41 : Is (n + 5) (n + 5) 20 := ⟨Nat.le_refl _, by rw [q39]⟩
  refine wp_putR dX7_init_89 fl_X7_61 (Or.inr ⟨rfl, rfl⟩) (i1.mono (by omega)) (i41.ne (by decide)) ?_
  refine wp_topH (fun h42 e43 => ?_)
  have hb := hb h42 e43
  refine wp_aload_n 0 dX7_init_92 rfl rfl ?_
  obtain ⟨i44, hb⟩ := hb
  refine wp_aload_n 1 dX7_init_93 rfl rfl ?_
  refine wp_putR dX7_init_94 fl_X7_64 (Or.inl rfl) (i1.mono (by omega)) (i44.ne (by decide)) ?_
  refine wp_topH (fun h45 e46 => ?_)
  have hb := hb h45 e46
  exact wp_vret rfl dX7_init_97 ⟨rfl, hb⟩
theorem c_X7_init {l : Launch} {g : AG} {n : Nat} {h : AH} {x0 : Nat} {x1 : Nat}  {Q : AH → Prop} (hb : L_X7_init_0 l g n h x0 x1  Q) : C_X7_init l g n h x0 x1  Q := ax_met rfl rfl (Nat.le_of_ble_eq_true rfl) hb
def C_X6_init (l : Launch) (g : AG) (n : Nat) (h : AH) (x0 : Nat)  (Q : AH → Prop) : Prop := Ct l g mX6_init 1 20 n (n + 6) h [.ref x0] (ax_QV Q)
def L_X6_init_0 (l : Launch) (g : AG) (n : Nat) (h : AH) (x0 : Nat)  (Q : AH → Prop) : Prop := Wp l g mX6_init 1 20 n (n + 6) n 0 [(0, .ref x0)] [] h (FM g n (n + 6) (ax_QV Q))
set_option maxRecDepth 100000 in
set_option maxHeartbeats 4000000 in
theorem s_X6_init_0 {l : Launch} {g : AG} {n : Nat} {h : AH} {x0 : Nat}  {Q : AH → Prop} (hb : (Is n x0 5) ∧ ( ∀ h2 : AH, h2 = ax_setI h x0 0 0 → ( (ax_s (n + 1) = (21, 400)) ∧ ( (Zc h2 (n + 1)) ∧ ( ∀ h7 : AH, h7 = ax_setR h2 x0 1 (n + 1) → ( (ax_s (n + 2) = (21, 400)) ∧ ( (Zc h7 (n + 2)) ∧ ( ∀ h12 : AH, h12 = ax_setR h7 x0 2 (n + 2) → ( (ax_s (n + 3) = (20, 400)) ∧ ( (Zc h12 (n + 3)) ∧ ( ∀ h17 : AH, h17 = ax_setR h12 x0 3 (n + 3) → ( (ax_s (n + 4) = (20, 400)) ∧ ( (Zc h17 (n + 4)) ∧ ( ∀ h22 : AH, h22 = ax_setR h17 x0 4 (n + 4) → ( (ax_s (n + 5) = (20, 400)) ∧ ( (Zc h22 (n + 5)) ∧ ( ∀ h27 : AH, h27 = ax_setR h22 x0 5 (n + 5) → ( (ax_s (n + 6) = (20, 1024)) ∧ ( (Zc h27 (n + 6)) ∧ ( ∀ h32 : AH, h32 = ax_setR h27 x0 6 (n + 6) → ( Q h32))))))))))))))))))))) : L_X6_init_0 l g n h x0  Q := by
  obtain ⟨i1, hb⟩ := hb
  refine wp_aload_n 0 dX6_init_0 rfl rfl ?_
  refine wp_obj dX6_init_1 lk_X6_3 (Nat.le_of_ble_eq_true rfl) (by decide) (by decide) ?_
  refine wp_aload_n 0 dX6_init_4 rfl rfl ?_
  refine wp_iconst (v := 0) dX6_init_5 (by decide) ?_
  refine wp_putI dX6_init_6 fl_X6_9 (Or.inl rfl) (i1.mono (by omega)) ?_
  refine wp_topH (fun h2 e3 => ?_)
  have hb := hb h2 e3
  refine wp_aload_n 0 dX6_init_9 rfl rfl ?_
  refine wp_sipush (v := 400) dX6_init_10 (by decide) ?_
  obtain ⟨q4, hb⟩ := hb
  obtain ⟨q5, hb⟩ := hb
  refine wp_newa21 (N := 400) dX6_init_13 (by decide) (by decide) (by decide) (by omega) (by omega) q4 q5 ?_
  have i6 : Is (n + 1) (n + 1) 21 := ⟨Nat.le_refl _, by rw [q4]⟩
  refine wp_putR dX6_init_15 fl_X6_15 (Or.inr ⟨rfl, rfl⟩) (i1.mono (by omega)) (i6.ne (by decide)) ?_
  refine wp_topH (fun h7 e8 => ?_)
  have hb := hb h7 e8
  refine wp_aload_n 0 dX6_init_18 rfl rfl ?_
  refine wp_sipush (v := 400) dX6_init_19 (by decide) ?_
  obtain ⟨q9, hb⟩ := hb
  obtain ⟨q10, hb⟩ := hb
  refine wp_newa21 (N := 400) dX6_init_22 (by decide) (by decide) (by decide) (by omega) (by omega) q9 q10 ?_
  have i11 : Is (n + 2) (n + 2) 21 := ⟨Nat.le_refl _, by rw [q9]⟩
  refine wp_putR dX6_init_24 fl_X6_19 (Or.inr ⟨rfl, rfl⟩) (i1.mono (by omega)) (i11.ne (by decide)) ?_
  refine wp_topH (fun h12 e13 => ?_)
  have hb := hb h12 e13
  refine wp_aload_n 0 dX6_init_27 rfl rfl ?_
  refine wp_sipush (v := 400) dX6_init_28 (by decide) ?_
  obtain ⟨q14, hb⟩ := hb
  obtain ⟨q15, hb⟩ := hb
  refine wp_newa20 (N := 400) dX6_init_31 (by decide) (by decide) (by decide) (by omega) (by omega) q14 q15 ?_
  have i16 : Is (n + 3) (n + 3) 20 := ⟨Nat.le_refl _, by rw [q14]⟩
  refine wp_putR dX6_init_33 fl_X6_22 (Or.inr ⟨rfl, rfl⟩) (i1.mono (by omega)) (i16.ne (by decide)) ?_
  refine wp_topH (fun h17 e18 => ?_)
  have hb := hb h17 e18
  refine wp_aload_n 0 dX6_init_36 rfl rfl ?_
  refine wp_sipush (v := 400) dX6_init_37 (by decide) ?_
  obtain ⟨q19, hb⟩ := hb
  obtain ⟨q20, hb⟩ := hb
  refine wp_newa20 (N := 400) dX6_init_40 (by decide) (by decide) (by decide) (by omega) (by omega) q19 q20 ?_
  have i21 : Is (n + 4) (n + 4) 20 := ⟨Nat.le_refl _, by rw [q19]⟩
  refine wp_putR dX6_init_42 fl_X6_26 (Or.inr ⟨rfl, rfl⟩) (i1.mono (by omega)) (i21.ne (by decide)) ?_
  refine wp_topH (fun h22 e23 => ?_)
  have hb := hb h22 e23
  refine wp_aload_n 0 dX6_init_45 rfl rfl ?_
  refine wp_sipush (v := 400) dX6_init_46 (by decide) ?_
  obtain ⟨q24, hb⟩ := hb
  obtain ⟨q25, hb⟩ := hb
  refine wp_newa20 (N := 400) dX6_init_49 (by decide) (by decide) (by decide) (by omega) (by omega) q24 q25 ?_
  have i26 : Is (n + 5) (n + 5) 20 := ⟨Nat.le_refl _, by rw [q24]⟩
  refine wp_putR dX6_init_51 fl_X6_29 (Or.inr ⟨rfl, rfl⟩) (i1.mono (by omega)) (i26.ne (by decide)) ?_
  refine wp_topH (fun h27 e28 => ?_)
  have hb := hb h27 e28
  refine wp_aload_n 0 dX6_init_54 rfl rfl ?_
  refine wp_sipush (v := 1024) dX6_init_55 (by decide) ?_
  obtain ⟨q29, hb⟩ := hb
  obtain ⟨q30, hb⟩ := hb
  refine wp_newa20 (N := 1024) dX6_init_58 (by decide) (by decide) (by decide) (by omega) (by omega) q29 q30 ?_
  have i31 : Is (n + 6) (n + 6) 20 := ⟨Nat.le_refl _, by rw [q29]⟩
  refine wp_putR dX6_init_60 fl_X6_32 (Or.inr ⟨rfl, rfl⟩) (i1.mono (by omega)) (i31.ne (by decide)) ?_
  refine wp_topH (fun h32 e33 => ?_)
  have hb := hb h32 e33
  exact wp_vret rfl dX6_init_63 ⟨rfl, hb⟩
theorem c_X6_init {l : Launch} {g : AG} {n : Nat} {h : AH} {x0 : Nat}  {Q : AH → Prop} (hb : L_X6_init_0 l g n h x0  Q) : C_X6_init l g n h x0  Q := ax_met rfl rfl (Nat.le_of_ble_eq_true rfl) hb
def C_X1_init (l : Launch) (g : AG) (n : Nat) (h : AH) (x0 : Nat) (x1 : Nat)  (Q : AH → Prop) : Prop := Ct l g mX1_init 2 40 n (n + 18) h [.ref x0, .ref x1] (ax_QV Q)
def L_X1_init_0 (l : Launch) (g : AG) (n : Nat) (h : AH) (x0 : Nat) (x1 : Nat)  (Q : AH → Prop) : Prop := Wp l g mX1_init 2 40 n (n + 18) n 0 [(0, .ref x0), (1, .ref x1)] [] h (FM g n (n + 18) (ax_QV Q))
set_option maxRecDepth 100000 in
set_option maxHeartbeats 4000000 in
theorem s_X1_init_0 {l : Launch} {g : AG} {n : Nat} {h : AH} {x0 : Nat} {x1 : Nat}  {Q : AH → Prop} (hb : (Is n x0 1) ∧ ( ∀ h2 : AH, h2 = ax_setI h x0 0 (-1) → ( (ax_s (n + 1) = (5, 7)) ∧ ( (Zc h2 (n + 1)) ∧ ( C_X6_init l g (n + 1) h2 (n + 1) (fun h8 => ( ∀ h9 : AH, h9 = ax_setR h8 x0 2 (n + 1) → ( (ax_s (n + 8) = (20, 10800)) ∧ ( (Zc h9 (n + 8)) ∧ ( ∀ h14 : AH, h14 = ax_setR h9 x0 3 (n + 8) → ( (ax_s (n + 9) = (5, 7)) ∧ ( (Zc h14 (n + 9)) ∧ ( C_X6_init l g (n + 9) h14 (n + 9) (fun h20 => ( ∀ h21 : AH, h21 = ax_setR h20 x0 4 (n + 9) → ( ∀ h23 : AH, h23 = ax_setI h21 x0 5 0 → ( (ax_s (n + 16) = (20, 400)) ∧ ( (Zc h23 (n + 16)) ∧ ( ∀ h28 : AH, h28 = ax_setR h23 x0 6 (n + 16) → ( (ax_s (n + 17) = (20, 400)) ∧ ( (Zc h28 (n + 17)) ∧ ( ∀ h33 : AH, h33 = ax_setR h28 x0 7 (n + 17) → ( (ax_s (n + 18) = (23, 400)) ∧ ( (Zc h33 (n + 18)) ∧ ( ∀ h38 : AH, h38 = ax_setR h33 x0 8 (n + 18) → ( (Is (n + 18) x1 0) ∧ ( ∀ h41 : AH, h41 = ax_setR h38 x0 1 x1 → ( Q h41)))))))))))))))))))))))))))) : L_X1_init_0 l g n h x0 x1  Q := by
  obtain ⟨i1, hb⟩ := hb
  refine wp_aload_n 0 dX1_init_0 rfl rfl ?_
  refine wp_obj dX1_init_1 lk_X1_3 (Nat.le_of_ble_eq_true rfl) (by decide) (by decide) ?_
  refine wp_aload_n 0 dX1_init_4 rfl rfl ?_
  refine wp_iconst (v := (-1)) dX1_init_5 (by decide) ?_
  refine wp_putI dX1_init_6 fl_X1_9 (Or.inl rfl) (i1.mono (by omega)) ?_
  refine wp_topH (fun h2 e3 => ?_)
  have hb := hb h2 e3
  refine wp_aload_n 0 dX1_init_9 rfl rfl ?_
  obtain ⟨q4, hb⟩ := hb
  obtain ⟨q5, hb⟩ := hb
  refine wp_new (N := 7) dX1_init_10 lk_X1_15 inst_X6 inic_X6 fc_X6 (fun j hj => ax_df_X6 j hj) (by omega) (by omega) q4 q5 ?_
  have i6 : Is (n + 1) (n + 1) 5 := ⟨Nat.le_refl _, by rw [q4]⟩
  refine wp_dup dX1_init_13 rfl ?_
  refine wp_callIN (as := []) (n1 := n + 7) dX1_init_14 cb_X6_init lk_X1_17 rfl im_X6_init rfl rfl (Nat.le_of_ble_eq_true rfl) ⟨by decide, by decide⟩ ⟨by omega, by omega, by omega⟩ hb (fun r0 h8 hb => ?_)
  obtain ⟨rfl, hb⟩ := hb
  refine wp_putR dX1_init_17 fl_X1_18 (Or.inr ⟨rfl, rfl⟩) (i1.mono (by omega)) (i6.ne (by decide)) ?_
  refine wp_topH (fun h9 e10 => ?_)
  have hb := hb h9 e10
  refine wp_aload_n 0 dX1_init_20 rfl rfl ?_
  refine wp_sipush (v := 10800) dX1_init_21 (by decide) ?_
  obtain ⟨q11, hb⟩ := hb
  obtain ⟨q12, hb⟩ := hb
  refine wp_newa20 (N := 10800) dX1_init_24 (by decide) (by decide) (by decide) (by omega) (by omega) q11 q12 ?_
  have i13 : Is (n + 8) (n + 8) 20 := ⟨Nat.le_refl _, by rw [q11]⟩
  refine wp_putR dX1_init_26 fl_X1_22 (Or.inr ⟨rfl, rfl⟩) (i1.mono (by omega)) (i13.ne (by decide)) ?_
  refine wp_topH (fun h14 e15 => ?_)
  have hb := hb h14 e15
  refine wp_aload_n 0 dX1_init_29 rfl rfl ?_
  obtain ⟨q16, hb⟩ := hb
  obtain ⟨q17, hb⟩ := hb
  refine wp_new (N := 7) dX1_init_30 lk_X1_15 inst_X6 inic_X6 fc_X6 (fun j hj => ax_df_X6 j hj) (by omega) (by omega) q16 q17 ?_
  have i18 : Is (n + 9) (n + 9) 5 := ⟨Nat.le_refl _, by rw [q16]⟩
  refine wp_dup dX1_init_33 rfl ?_
  refine wp_callIN (as := []) (n1 := n + 15) dX1_init_34 cb_X6_init lk_X1_17 rfl im_X6_init rfl rfl (Nat.le_of_ble_eq_true rfl) ⟨by decide, by decide⟩ ⟨by omega, by omega, by omega⟩ hb (fun r0 h20 hb => ?_)
  obtain ⟨rfl, hb⟩ := hb
  refine wp_putR dX1_init_37 fl_X1_26 (Or.inr ⟨rfl, rfl⟩) (i1.mono (by omega)) (i18.ne (by decide)) ?_
  refine wp_topH (fun h21 e22 => ?_)
  have hb := hb h21 e22
  refine wp_aload_n 0 dX1_init_40 rfl rfl ?_
  refine wp_iconst (v := 0) dX1_init_41 (by decide) ?_
  refine wp_putI dX1_init_42 fl_X1_29 (Or.inl rfl) (i1.mono (by omega)) ?_
  refine wp_topH (fun h23 e24 => ?_)
  have hb := hb h23 e24
  refine wp_aload_n 0 dX1_init_45 rfl rfl ?_
  refine wp_sipush (v := 400) dX1_init_46 (by decide) ?_
  obtain ⟨q25, hb⟩ := hb
  obtain ⟨q26, hb⟩ := hb
  refine wp_newa20 (N := 400) dX1_init_49 (by decide) (by decide) (by decide) (by omega) (by omega) q25 q26 ?_
  have i27 : Is (n + 16) (n + 16) 20 := ⟨Nat.le_refl _, by rw [q25]⟩
  refine wp_putR dX1_init_51 fl_X1_32 (Or.inr ⟨rfl, rfl⟩) (i1.mono (by omega)) (i27.ne (by decide)) ?_
  refine wp_topH (fun h28 e29 => ?_)
  have hb := hb h28 e29
  refine wp_aload_n 0 dX1_init_54 rfl rfl ?_
  refine wp_sipush (v := 400) dX1_init_55 (by decide) ?_
  obtain ⟨q30, hb⟩ := hb
  obtain ⟨q31, hb⟩ := hb
  refine wp_newa20 (N := 400) dX1_init_58 (by decide) (by decide) (by decide) (by omega) (by omega) q30 q31 ?_
  have i32 : Is (n + 17) (n + 17) 20 := ⟨Nat.le_refl _, by rw [q30]⟩
  refine wp_putR dX1_init_60 fl_X1_35 (Or.inr ⟨rfl, rfl⟩) (i1.mono (by omega)) (i32.ne (by decide)) ?_
  refine wp_topH (fun h33 e34 => ?_)
  have hb := hb h33 e34
  refine wp_aload_n 0 dX1_init_63 rfl rfl ?_
  refine wp_sipush (v := 400) dX1_init_64 (by decide) ?_
  obtain ⟨q35, hb⟩ := hb
  obtain ⟨q36, hb⟩ := hb
  refine wp_newa23 (N := 400) dX1_init_67 (by decide) (by decide) (by decide) (by omega) (by omega) q35 q36 ?_
  have i37 : Is (n + 18) (n + 18) 23 := ⟨Nat.le_refl _, by rw [q35]⟩
  refine wp_putR dX1_init_69 fl_X1_38 (Or.inr ⟨rfl, rfl⟩) (i1.mono (by omega)) (i37.ne (by decide)) ?_
  refine wp_topH (fun h38 e39 => ?_)
  have hb := hb h38 e39
  refine wp_aload_n 0 dX1_init_72 rfl rfl ?_
  obtain ⟨i40, hb⟩ := hb
  refine wp_aload_n 1 dX1_init_73 rfl rfl ?_
  refine wp_putR dX1_init_74 fl_X1_42 (Or.inl rfl) (i1.mono (by omega)) (i40.ne (by decide)) ?_
  refine wp_topH (fun h41 e42 => ?_)
  have hb := hb h41 e42
  exact wp_vret rfl dX1_init_77 ⟨rfl, hb⟩
theorem c_X1_init {l : Launch} {g : AG} {n : Nat} {h : AH} {x0 : Nat} {x1 : Nat}  {Q : AH → Prop} (hb : L_X1_init_0 l g n h x0 x1  Q) : C_X1_init l g n h x0 x1  Q := ax_met rfl rfl (Nat.le_of_ble_eq_true rfl) hb
def C_X2_init (l : Launch) (g : AG) (n : Nat) (h : AH) (x0 : Nat) (x1 : Nat) (x2 : Nat)  (Q : AH → Prop) : Prop := Ct l g mX2_init 2 40 n (n + 7) h [.ref x0, .ref x1, .ref x2] (ax_QV Q)
def L_X2_init_0 (l : Launch) (g : AG) (n : Nat) (h : AH) (x0 : Nat) (x1 : Nat) (x2 : Nat)  (Q : AH → Prop) : Prop := Wp l g mX2_init 2 40 n (n + 7) n 0 [(0, .ref x0), (1, .ref x1), (2, .ref x2)] [] h (FM g n (n + 7) (ax_QV Q))
set_option maxRecDepth 100000 in
set_option maxHeartbeats 4000000 in
theorem s_X2_init_0 {l : Launch} {g : AG} {n : Nat} {h : AH} {x0 : Nat} {x1 : Nat} {x2 : Nat}  {Q : AH → Prop} (hb : (Is n x0 2) ∧ ( (ax_s (n + 1) = (5, 7)) ∧ ( (Zc h (n + 1)) ∧ ( C_X6_init l g (n + 1) h (n + 1) (fun h6 => ( ∀ h7 : AH, h7 = ax_setR h6 x0 2 (n + 1) → ( ∀ h9 : AH, h9 = ax_setI h7 x0 3 0 → ( ∀ h11 : AH, h11 = ax_setI h9 x0 4 (-1) → ( ∀ h13 : AH, h13 = ax_setI h11 x0 5 (-1) → ( (Is (n + 7) x1 0) ∧ ( ∀ h16 : AH, h16 = ax_setR h13 x0 0 x1 → ( (Is (n + 7) x2 0) ∧ ( ∀ h19 : AH, h19 = ax_setR h16 x0 1 x2 → ( Q h19)))))))))))))) : L_X2_init_0 l g n h x0 x1 x2  Q := by
  obtain ⟨i1, hb⟩ := hb
  refine wp_aload_n 0 dX2_init_0 rfl rfl ?_
  refine wp_obj dX2_init_1 lk_X2_3 (Nat.le_of_ble_eq_true rfl) (by decide) (by decide) ?_
  refine wp_aload_n 0 dX2_init_4 rfl rfl ?_
  obtain ⟨q2, hb⟩ := hb
  obtain ⟨q3, hb⟩ := hb
  refine wp_new (N := 7) dX2_init_5 lk_X2_9 inst_X6 inic_X6 fc_X6 (fun j hj => ax_df_X6 j hj) (by omega) (by omega) q2 q3 ?_
  have i4 : Is (n + 1) (n + 1) 5 := ⟨Nat.le_refl _, by rw [q2]⟩
  refine wp_dup dX2_init_8 rfl ?_
  refine wp_callIN (as := []) (n1 := n + 7) dX2_init_9 cb_X6_init lk_X2_11 rfl im_X6_init rfl rfl (Nat.le_of_ble_eq_true rfl) ⟨by decide, by decide⟩ ⟨by omega, by omega, by omega⟩ hb (fun r0 h6 hb => ?_)
  obtain ⟨rfl, hb⟩ := hb
  refine wp_putR dX2_init_12 fl_X2_12 (Or.inr ⟨rfl, rfl⟩) (i1.mono (by omega)) (i4.ne (by decide)) ?_
  refine wp_topH (fun h7 e8 => ?_)
  have hb := hb h7 e8
  refine wp_aload_n 0 dX2_init_15 rfl rfl ?_
  refine wp_iconst (v := 0) dX2_init_16 (by decide) ?_
  refine wp_putZ dX2_init_17 fl_X2_18 (Or.inl rfl) (i1.mono (by omega)) (Or.inl rfl) ?_
  refine wp_topH (fun h9 e10 => ?_)
  have hb := hb h9 e10
  refine wp_aload_n 0 dX2_init_20 rfl rfl ?_
  refine wp_iconst (v := (-1)) dX2_init_21 (by decide) ?_
  refine wp_putI dX2_init_22 fl_X2_22 (Or.inl rfl) (i1.mono (by omega)) ?_
  refine wp_topH (fun h11 e12 => ?_)
  have hb := hb h11 e12
  refine wp_aload_n 0 dX2_init_25 rfl rfl ?_
  refine wp_iconst (v := (-1)) dX2_init_26 (by decide) ?_
  refine wp_putI dX2_init_27 fl_X2_26 (Or.inl rfl) (i1.mono (by omega)) ?_
  refine wp_topH (fun h13 e14 => ?_)
  have hb := hb h13 e14
  refine wp_aload_n 0 dX2_init_30 rfl rfl ?_
  obtain ⟨i15, hb⟩ := hb
  refine wp_aload_n 1 dX2_init_31 rfl rfl ?_
  refine wp_putR dX2_init_32 fl_X2_29 (Or.inl rfl) (i1.mono (by omega)) (i15.ne (by decide)) ?_
  refine wp_topH (fun h16 e17 => ?_)
  have hb := hb h16 e17
  refine wp_aload_n 0 dX2_init_35 rfl rfl ?_
  obtain ⟨i18, hb⟩ := hb
  refine wp_aload_n 2 dX2_init_36 rfl rfl ?_
  refine wp_putR dX2_init_37 fl_X2_33 (Or.inl rfl) (i1.mono (by omega)) (i18.ne (by decide)) ?_
  refine wp_topH (fun h19 e20 => ?_)
  have hb := hb h19 e20
  exact wp_vret rfl dX2_init_40 ⟨rfl, hb⟩
theorem c_X2_init {l : Launch} {g : AG} {n : Nat} {h : AH} {x0 : Nat} {x1 : Nat} {x2 : Nat}  {Q : AH → Prop} (hb : L_X2_init_0 l g n h x0 x1 x2  Q) : C_X2_init l g n h x0 x1 x2  Q := ax_met rfl rfl (Nat.le_of_ble_eq_true rfl) hb
def C_X9_init (l : Launch) (g : AG) (n : Nat) (h : AH) (x0 : Nat)  (Q : AH → Prop) : Prop := Ct l g mX9_init 3 62 n (n + 101) h [.ref x0] (ax_QV Q)
def L_X9_init_0 (l : Launch) (g : AG) (n : Nat) (h : AH) (x0 : Nat)  (Q : AH → Prop) : Prop := Wp l g mX9_init 3 62 n (n + 101) n 0 [(0, .ref x0)] [] h (FM g n (n + 101) (ax_QV Q))
set_option maxRecDepth 100000 in
set_option maxHeartbeats 4000000 in
theorem s_X9_init_0 {l : Launch} {g : AG} {n : Nat} {h : AH} {x0 : Nat}  {Q : AH → Prop} (hb : (Is n x0 8) ∧ ( (ax_s (n + 1) = (20, 800)) ∧ ( (Zc h (n + 1)) ∧ ( ∀ h5 : AH, h5 = ax_setR h x0 0 (n + 1) → ( ∀ h7 : AH, h7 = ax_setI h5 x0 1 0 → ( (ax_s (n + 2) = (24, 2)) ∧ ( (Zc h7 (n + 2)) ∧ ( (ax_s (n + 3) = (0, 19)) ∧ ( (Zc h7 (n + 3)) ∧ ( C_X0_init l g (n + 3) h7 (n + 3) (fun h16 => ( (vp_in 0 (ax_s (n + 2)).2) ∧ ( ∀ h18 : AH, h18 = ax_setR h16 (n + 2) (0 : Int32).toNatClampNeg (n + 3) → ( (ax_s (n + 24) = (0, 19)) ∧ ( (Zc h18 (n + 24)) ∧ ( C_X0_init l g (n + 24) h18 (n + 24) (fun h24 => ( (vp_in 1 (ax_s (n + 2)).2) ∧ ( ∀ h26 : AH, h26 = ax_setR h24 (n + 2) (1 : Int32).toNatClampNeg (n + 24) → ( ∀ h28 : AH, h28 = ax_setR h26 x0 2 (n + 2) → ( (ax_s (n + 45) = (0, 19)) ∧ ( (Zc h28 (n + 45)) ∧ ( C_X0_init l g (n + 45) h28 (n + 45) (fun h34 => ( ∀ h35 : AH, h35 = ax_setR h34 x0 3 (n + 45) → ( (ax_s (n + 66) = (6, 15)) ∧ ( (Zc h35 (n + 66)) ∧ ( (Is (n + 66) (h35.2.2 x0 3) 0) ∧ ( C_X7_init l g (n + 66) h35 (n + 66) (h35.2.2 x0 3) (fun h42 => ( ∀ h43 : AH, h43 = ax_setR h42 x0 4 (n + 66) → ( (ax_s (n + 72) = (21, 2)) ∧ ( (Zc h43 (n + 72)) ∧ ( ∀ h48 : AH, h48 = ax_setR h43 x0 5 (n + 72) → ( (ax_s (n + 73) = (1, 9)) ∧ ( (Zc h48 (n + 73)) ∧ ( (Is (n + 73) (h48.2.2 x0 3) 0) ∧ ( C_X1_init l g (n + 73) h48 (n + 73) (h48.2.2 x0 3) (fun h55 => ( ∀ h56 : AH, h56 = ax_setR h55 x0 6 (n + 73) → ( (ax_s (n + 92) = (2, 6)) ∧ ( (Zc h56 (n + 92)) ∧ ( (Is (n + 92) (h56.2.2 x0 3) 0) ∧ ( (Is (n + 92) (h56.2.2 x0 3) 0) ∧ ( C_X2_init l g (n + 92) h56 (n + 92) (h56.2.2 x0 3) (h56.2.2 x0 3) (fun h64 => ( ∀ h65 : AH, h65 = ax_setR h64 x0 7 (n + 92) → ( (ax_s (n + 100) = (20, 400)) ∧ ( (Zc h65 (n + 100)) ∧ ( ∀ h70 : AH, h70 = ax_setR h65 x0 8 (n + 100) → ( ∀ h72 : AH, h72 = ax_setI h70 x0 9 0 → ( (ax_s (n + 101) = (21, 401)) ∧ ( (Zc h72 (n + 101)) ∧ ( ∀ h77 : AH, h77 = ax_setR h72 x0 10 (n + 101) → ( ∀ h79 : AH, h79 = ax_setI h77 x0 11 (-1) → ( ∀ h81 : AH, h81 = ax_setI h79 x0 12 0 → ( Q h81))))))))))))))))))))))))))))))))))))))))))))))))))))))))) : L_X9_init_0 l g n h x0  Q := by
  obtain ⟨i1, hb⟩ := hb
  refine wp_aload_n 0 dX9_init_0 rfl rfl ?_
  refine wp_obj dX9_init_1 lk_X9_1 (Nat.le_of_ble_eq_true rfl) (by decide) (by decide) ?_
  refine wp_aload_n 0 dX9_init_4 rfl rfl ?_
  refine wp_sipush (v := 800) dX9_init_5 (by decide) ?_
  obtain ⟨q2, hb⟩ := hb
  obtain ⟨q3, hb⟩ := hb
  refine wp_newa20 (N := 800) dX9_init_8 (by decide) (by decide) (by decide) (by omega) (by omega) q2 q3 ?_
  have i4 : Is (n + 1) (n + 1) 20 := ⟨Nat.le_refl _, by rw [q2]⟩
  refine wp_putR dX9_init_10 fl_X9_9 (Or.inr ⟨rfl, rfl⟩) (i1.mono (by omega)) (i4.ne (by decide)) ?_
  refine wp_topH (fun h5 e6 => ?_)
  have hb := hb h5 e6
  refine wp_aload_n 0 dX9_init_13 rfl rfl ?_
  refine wp_iconst (v := 0) dX9_init_14 (by decide) ?_
  refine wp_putI dX9_init_15 fl_X9_13 (Or.inl rfl) (i1.mono (by omega)) ?_
  refine wp_topH (fun h7 e8 => ?_)
  have hb := hb h7 e8
  refine wp_aload_n 0 dX9_init_18 rfl rfl ?_
  refine wp_iconst (v := 2) dX9_init_19 (by decide) ?_
  obtain ⟨q9, hb⟩ := hb
  obtain ⟨q10, hb⟩ := hb
  refine wp_anewa24 (N := 2) dX9_init_20 lk_X9_17 (by decide) (by decide) (by decide) (by omega) (by omega) q9 q10 ?_
  have i11 : Is (n + 2) (n + 2) 24 := ⟨Nat.le_refl _, by rw [q9]⟩
  refine wp_dup dX9_init_23 rfl ?_
  refine wp_iconst (v := 0) dX9_init_24 (by decide) ?_
  obtain ⟨q12, hb⟩ := hb
  obtain ⟨q13, hb⟩ := hb
  refine wp_new (N := 19) dX9_init_25 lk_X9_17 inst_X0 inic_X0 fc_X0 (fun j hj => ax_df_X0 j hj) (by omega) (by omega) q12 q13 ?_
  have i14 : Is (n + 3) (n + 3) 0 := ⟨Nat.le_refl _, by rw [q12]⟩
  refine wp_dup dX9_init_28 rfl ?_
  refine wp_callIN (as := []) (n1 := n + 23) dX9_init_29 cb_X0_init lk_X9_19 rfl im_X0_init rfl rfl (Nat.le_of_ble_eq_true rfl) ⟨by decide, by decide⟩ ⟨by omega, by omega, by omega⟩ hb (fun r0 h16 hb => ?_)
  obtain ⟨rfl, hb⟩ := hb
  obtain ⟨b17, hb⟩ := hb
  refine wp_aastore24 dX9_init_32 (i11.mono (by omega)) (i14.mono (by omega)) b17 ?_
  refine wp_topH (fun h18 e19 => ?_)
  have hb := hb h18 e19
  refine wp_dup dX9_init_33 rfl ?_
  refine wp_iconst (v := 1) dX9_init_34 (by decide) ?_
  obtain ⟨q20, hb⟩ := hb
  obtain ⟨q21, hb⟩ := hb
  refine wp_new (N := 19) dX9_init_35 lk_X9_17 inst_X0 inic_X0 fc_X0 (fun j hj => ax_df_X0 j hj) (by omega) (by omega) q20 q21 ?_
  have i22 : Is (n + 24) (n + 24) 0 := ⟨Nat.le_refl _, by rw [q20]⟩
  refine wp_dup dX9_init_38 rfl ?_
  refine wp_callIN (as := []) (n1 := n + 44) dX9_init_39 cb_X0_init lk_X9_19 rfl im_X0_init rfl rfl (Nat.le_of_ble_eq_true rfl) ⟨by decide, by decide⟩ ⟨by omega, by omega, by omega⟩ hb (fun r0 h24 hb => ?_)
  obtain ⟨rfl, hb⟩ := hb
  obtain ⟨b25, hb⟩ := hb
  refine wp_aastore24 dX9_init_42 (i11.mono (by omega)) (i22.mono (by omega)) b25 ?_
  refine wp_topH (fun h26 e27 => ?_)
  have hb := hb h26 e27
  refine wp_putR dX9_init_43 fl_X9_20 (Or.inr ⟨rfl, rfl⟩) (i1.mono (by omega)) (i11.ne (by decide)) ?_
  refine wp_topH (fun h28 e29 => ?_)
  have hb := hb h28 e29
  refine wp_aload_n 0 dX9_init_46 rfl rfl ?_
  obtain ⟨q30, hb⟩ := hb
  obtain ⟨q31, hb⟩ := hb
  refine wp_new (N := 19) dX9_init_47 lk_X9_17 inst_X0 inic_X0 fc_X0 (fun j hj => ax_df_X0 j hj) (by omega) (by omega) q30 q31 ?_
  have i32 : Is (n + 45) (n + 45) 0 := ⟨Nat.le_refl _, by rw [q30]⟩
  refine wp_dup dX9_init_50 rfl ?_
  refine wp_callIN (as := []) (n1 := n + 65) dX9_init_51 cb_X0_init lk_X9_19 rfl im_X0_init rfl rfl (Nat.le_of_ble_eq_true rfl) ⟨by decide, by decide⟩ ⟨by omega, by omega, by omega⟩ hb (fun r0 h34 hb => ?_)
  obtain ⟨rfl, hb⟩ := hb
  refine wp_putR dX9_init_54 fl_X9_24 (Or.inl rfl) (i1.mono (by omega)) (i32.ne (by decide)) ?_
  refine wp_topH (fun h35 e36 => ?_)
  have hb := hb h35 e36
  refine wp_aload_n 0 dX9_init_57 rfl rfl ?_
  obtain ⟨q37, hb⟩ := hb
  obtain ⟨q38, hb⟩ := hb
  refine wp_new (N := 15) dX9_init_58 lk_X9_28 inst_X7 inic_X7 fc_X7 (fun j hj => ax_df_X7 j hj) (by omega) (by omega) q37 q38 ?_
  have i39 : Is (n + 66) (n + 66) 6 := ⟨Nat.le_refl _, by rw [q37]⟩
  refine wp_dup dX9_init_61 rfl ?_
  refine wp_aload_n 0 dX9_init_62 rfl rfl ?_
  obtain ⟨i40, hb⟩ := hb
  refine wp_getR dX9_init_63 fl_X9_24 (i1.mono (by omega)) (i40.ne (by decide)) ?_
  refine wp_callIN (as := [.ref (h35.2.2 x0 3)]) (n1 := n + 71) dX9_init_66 cb_X7_init lk_X9_30 rfl im_X7_init rfl rfl (Nat.le_of_ble_eq_true rfl) ⟨by decide, by decide⟩ ⟨by omega, by omega, by omega⟩ hb (fun r0 h42 hb => ?_)
  obtain ⟨rfl, hb⟩ := hb
  refine wp_putR dX9_init_69 fl_X9_33 (Or.inr ⟨rfl, rfl⟩) (i1.mono (by omega)) (i39.ne (by decide)) ?_
  refine wp_topH (fun h43 e44 => ?_)
  have hb := hb h43 e44
  refine wp_aload_n 0 dX9_init_72 rfl rfl ?_
  refine wp_iconst (v := 2) dX9_init_73 (by decide) ?_
  obtain ⟨q45, hb⟩ := hb
  obtain ⟨q46, hb⟩ := hb
  refine wp_newa21 (N := 2) dX9_init_74 (by decide) (by decide) (by decide) (by omega) (by omega) q45 q46 ?_
  have i47 : Is (n + 72) (n + 72) 21 := ⟨Nat.le_refl _, by rw [q45]⟩
  refine wp_putR dX9_init_76 fl_X9_37 (Or.inr ⟨rfl, rfl⟩) (i1.mono (by omega)) (i47.ne (by decide)) ?_
  refine wp_topH (fun h48 e49 => ?_)
  have hb := hb h48 e49
  refine wp_aload_n 0 dX9_init_79 rfl rfl ?_
  obtain ⟨q50, hb⟩ := hb
  obtain ⟨q51, hb⟩ := hb
  refine wp_new (N := 9) dX9_init_80 lk_X9_41 inst_X1 inic_X1 fc_X1 (fun j hj => ax_df_X1 j hj) (by omega) (by omega) q50 q51 ?_
  have i52 : Is (n + 73) (n + 73) 1 := ⟨Nat.le_refl _, by rw [q50]⟩
  refine wp_dup dX9_init_83 rfl ?_
  refine wp_aload_n 0 dX9_init_84 rfl rfl ?_
  obtain ⟨i53, hb⟩ := hb
  refine wp_getR dX9_init_85 fl_X9_24 (i1.mono (by omega)) (i53.ne (by decide)) ?_
  refine wp_callIN (as := [.ref (h48.2.2 x0 3)]) (n1 := n + 91) dX9_init_88 cb_X1_init lk_X9_43 rfl im_X1_init rfl rfl (Nat.le_of_ble_eq_true rfl) ⟨by decide, by decide⟩ ⟨by omega, by omega, by omega⟩ hb (fun r0 h55 hb => ?_)
  obtain ⟨rfl, hb⟩ := hb
  refine wp_putR dX9_init_91 fl_X9_44 (Or.inr ⟨rfl, rfl⟩) (i1.mono (by omega)) (i52.ne (by decide)) ?_
  refine wp_topH (fun h56 e57 => ?_)
  have hb := hb h56 e57
  refine wp_aload_n 0 dX9_init_94 rfl rfl ?_
  obtain ⟨q58, hb⟩ := hb
  obtain ⟨q59, hb⟩ := hb
  refine wp_new (N := 6) dX9_init_95 lk_X9_48 inst_X2 inic_X2 fc_X2 (fun j hj => ax_df_X2 j hj) (by omega) (by omega) q58 q59 ?_
  have i60 : Is (n + 92) (n + 92) 2 := ⟨Nat.le_refl _, by rw [q58]⟩
  refine wp_dup dX9_init_98 rfl ?_
  refine wp_aload_n 0 dX9_init_99 rfl rfl ?_
  obtain ⟨i61, hb⟩ := hb
  refine wp_getR dX9_init_100 fl_X9_24 (i1.mono (by omega)) (i61.ne (by decide)) ?_
  refine wp_aload_n 0 dX9_init_103 rfl rfl ?_
  obtain ⟨i62, hb⟩ := hb
  refine wp_getR dX9_init_104 fl_X9_24 (i1.mono (by omega)) (i62.ne (by decide)) ?_
  refine wp_callIN (as := [.ref (h56.2.2 x0 3), .ref (h56.2.2 x0 3)]) (n1 := n + 99) dX9_init_107 cb_X2_init lk_X9_50 rfl im_X2_init rfl rfl (Nat.le_of_ble_eq_true rfl) ⟨by decide, by decide⟩ ⟨by omega, by omega, by omega⟩ hb (fun r0 h64 hb => ?_)
  obtain ⟨rfl, hb⟩ := hb
  refine wp_putR dX9_init_110 fl_X9_53 (Or.inr ⟨rfl, rfl⟩) (i1.mono (by omega)) (i60.ne (by decide)) ?_
  refine wp_topH (fun h65 e66 => ?_)
  have hb := hb h65 e66
  refine wp_aload_n 0 dX9_init_113 rfl rfl ?_
  refine wp_sipush (v := 400) dX9_init_114 (by decide) ?_
  obtain ⟨q67, hb⟩ := hb
  obtain ⟨q68, hb⟩ := hb
  refine wp_newa20 (N := 400) dX9_init_117 (by decide) (by decide) (by decide) (by omega) (by omega) q67 q68 ?_
  have i69 : Is (n + 100) (n + 100) 20 := ⟨Nat.le_refl _, by rw [q67]⟩
  refine wp_putR dX9_init_119 fl_X9_57 (Or.inr ⟨rfl, rfl⟩) (i1.mono (by omega)) (i69.ne (by decide)) ?_
  refine wp_topH (fun h70 e71 => ?_)
  have hb := hb h70 e71
  refine wp_aload_n 0 dX9_init_122 rfl rfl ?_
  refine wp_iconst (v := 0) dX9_init_123 (by decide) ?_
  refine wp_putI dX9_init_124 fl_X9_60 (Or.inl rfl) (i1.mono (by omega)) ?_
  refine wp_topH (fun h72 e73 => ?_)
  have hb := hb h72 e73
  refine wp_aload_n 0 dX9_init_127 rfl rfl ?_
  refine wp_sipush (v := 401) dX9_init_128 (by decide) ?_
  obtain ⟨q74, hb⟩ := hb
  obtain ⟨q75, hb⟩ := hb
  refine wp_newa21 (N := 401) dX9_init_131 (by decide) (by decide) (by decide) (by omega) (by omega) q74 q75 ?_
  have i76 : Is (n + 101) (n + 101) 21 := ⟨Nat.le_refl _, by rw [q74]⟩
  refine wp_putR dX9_init_133 fl_X9_63 (Or.inr ⟨rfl, rfl⟩) (i1.mono (by omega)) (i76.ne (by decide)) ?_
  refine wp_topH (fun h77 e78 => ?_)
  have hb := hb h77 e78
  refine wp_aload_n 0 dX9_init_136 rfl rfl ?_
  refine wp_iconst (v := (-1)) dX9_init_137 (by decide) ?_
  refine wp_putI dX9_init_138 fl_X9_66 (Or.inl rfl) (i1.mono (by omega)) ?_
  refine wp_topH (fun h79 e80 => ?_)
  have hb := hb h79 e80
  refine wp_aload_n 0 dX9_init_141 rfl rfl ?_
  refine wp_iconst (v := 0) dX9_init_142 (by decide) ?_
  refine wp_putI dX9_init_143 fl_X9_69 (Or.inl rfl) (i1.mono (by omega)) ?_
  refine wp_topH (fun h81 e82 => ?_)
  have hb := hb h81 e82
  exact wp_vret rfl dX9_init_146 ⟨rfl, hb⟩
theorem c_X9_init {l : Launch} {g : AG} {n : Nat} {h : AH} {x0 : Nat}  {Q : AH → Prop} (hb : L_X9_init_0 l g n h x0  Q) : C_X9_init l g n h x0  Q := ax_met rfl rfl (Nat.le_of_ble_eq_true rfl) hb
def C_X10_init (l : Launch) (g : AG) (n : Nat) (h : AH) (x0 : Nat)  (Q : AH → Prop) : Prop := Ct l g mX10_init 1 20 n (n + 19) h [.ref x0] (ax_QV Q)
def L_X10_init_0 (l : Launch) (g : AG) (n : Nat) (h : AH) (x0 : Nat)  (Q : AH → Prop) : Prop := Wp l g mX10_init 1 20 n (n + 19) n 0 [(0, .ref x0)] [] h (FM g n (n + 19) (ax_QV Q))
set_option maxRecDepth 100000 in
set_option maxHeartbeats 4000000 in
theorem s_X10_init_0 {l : Launch} {g : AG} {n : Nat} {h : AH} {x0 : Nat}  {Q : AH → Prop} (hb : (Is n x0 9) ∧ ( (ax_s (n + 1) = (21, 8)) ∧ ( (Zc h (n + 1)) ∧ ( ∀ h5 : AH, h5 = ax_setR h x0 3 (n + 1) → ( (ax_s (n + 2) = (21, 24)) ∧ ( (Zc h5 (n + 2)) ∧ ( ∀ h10 : AH, h10 = ax_setR h5 x0 4 (n + 2) → ( (ax_s (n + 3) = (21, 6)) ∧ ( (Zc h10 (n + 3)) ∧ ( ∀ h15 : AH, h15 = ax_setR h10 x0 5 (n + 3) → ( (ax_s (n + 4) = (20, 6)) ∧ ( (Zc h15 (n + 4)) ∧ ( ∀ h20 : AH, h20 = ax_setR h15 x0 6 (n + 4) → ( (ax_s (n + 5) = (20, 8)) ∧ ( (Zc h20 (n + 5)) ∧ ( ∀ h25 : AH, h25 = ax_setR h20 x0 7 (n + 5) → ( (ax_s (n + 6) = (20, 48)) ∧ ( (Zc h25 (n + 6)) ∧ ( ∀ h30 : AH, h30 = ax_setR h25 x0 8 (n + 6) → ( (ax_s (n + 7) = (20, 8)) ∧ ( (Zc h30 (n + 7)) ∧ ( ∀ h35 : AH, h35 = ax_setR h30 x0 9 (n + 7) → ( (ax_s (n + 8) = (23, 6)) ∧ ( (Zc h35 (n + 8)) ∧ ( ∀ h40 : AH, h40 = ax_setR h35 x0 10 (n + 8) → ( (ax_s (n + 9) = (20, 32)) ∧ ( (Zc h40 (n + 9)) ∧ ( ∀ h45 : AH, h45 = ax_setR h40 x0 11 (n + 9) → ( (ax_s (n + 10) = (20, 128)) ∧ ( (Zc h45 (n + 10)) ∧ ( ∀ h50 : AH, h50 = ax_setR h45 x0 12 (n + 10) → ( (ax_s (n + 11) = (20, 128)) ∧ ( (Zc h50 (n + 11)) ∧ ( ∀ h55 : AH, h55 = ax_setR h50 x0 13 (n + 11) → ( (ax_s (n + 12) = (20, 128)) ∧ ( (Zc h55 (n + 12)) ∧ ( ∀ h60 : AH, h60 = ax_setR h55 x0 14 (n + 12) → ( (ax_s (n + 13) = (21, 128)) ∧ ( (Zc h60 (n + 13)) ∧ ( ∀ h65 : AH, h65 = ax_setR h60 x0 15 (n + 13) → ( (ax_s (n + 14) = (20, 128)) ∧ ( (Zc h65 (n + 14)) ∧ ( ∀ h70 : AH, h70 = ax_setR h65 x0 16 (n + 14) → ( (ax_s (n + 15) = (20, 24)) ∧ ( (Zc h70 (n + 15)) ∧ ( ∀ h75 : AH, h75 = ax_setR h70 x0 17 (n + 15) → ( (ax_s (n + 16) = (20, 24)) ∧ ( (Zc h75 (n + 16)) ∧ ( ∀ h80 : AH, h80 = ax_setR h75 x0 18 (n + 16) → ( (ax_s (n + 17) = (20, 72)) ∧ ( (Zc h80 (n + 17)) ∧ ( ∀ h85 : AH, h85 = ax_setR h80 x0 19 (n + 17) → ( (ax_s (n + 18) = (20, 72)) ∧ ( (Zc h85 (n + 18)) ∧ ( ∀ h90 : AH, h90 = ax_setR h85 x0 20 (n + 18) → ( (ax_s (n + 19) = (20, 72)) ∧ ( (Zc h90 (n + 19)) ∧ ( ∀ h95 : AH, h95 = ax_setR h90 x0 21 (n + 19) → ( Q h95))))))))))))))))))))))))))))))))))))))))))))))))))))))))))) : L_X10_init_0 l g n h x0  Q := by
  obtain ⟨i1, hb⟩ := hb
  refine wp_aload_n 0 dX10_init_0 rfl rfl ?_
  refine wp_obj dX10_init_1 lk_X10_3 (Nat.le_of_ble_eq_true rfl) (by decide) (by decide) ?_
  refine wp_aload_n 0 dX10_init_4 rfl rfl ?_
  refine wp_bipush (v := 8) dX10_init_5 (by decide) ?_
  obtain ⟨q2, hb⟩ := hb
  obtain ⟨q3, hb⟩ := hb
  refine wp_newa21 (N := 8) dX10_init_7 (by decide) (by decide) (by decide) (by omega) (by omega) q2 q3 ?_
  have i4 : Is (n + 1) (n + 1) 21 := ⟨Nat.le_refl _, by rw [q2]⟩
  refine wp_putR dX10_init_9 fl_X10_9 (Or.inr ⟨rfl, rfl⟩) (i1.mono (by omega)) (i4.ne (by decide)) ?_
  refine wp_topH (fun h5 e6 => ?_)
  have hb := hb h5 e6
  refine wp_aload_n 0 dX10_init_12 rfl rfl ?_
  refine wp_bipush (v := 24) dX10_init_13 (by decide) ?_
  obtain ⟨q7, hb⟩ := hb
  obtain ⟨q8, hb⟩ := hb
  refine wp_newa21 (N := 24) dX10_init_15 (by decide) (by decide) (by decide) (by omega) (by omega) q7 q8 ?_
  have i9 : Is (n + 2) (n + 2) 21 := ⟨Nat.le_refl _, by rw [q7]⟩
  refine wp_putR dX10_init_17 fl_X10_15 (Or.inr ⟨rfl, rfl⟩) (i1.mono (by omega)) (i9.ne (by decide)) ?_
  refine wp_topH (fun h10 e11 => ?_)
  have hb := hb h10 e11
  refine wp_aload_n 0 dX10_init_20 rfl rfl ?_
  refine wp_bipush (v := 6) dX10_init_21 (by decide) ?_
  obtain ⟨q12, hb⟩ := hb
  obtain ⟨q13, hb⟩ := hb
  refine wp_newa21 (N := 6) dX10_init_23 (by decide) (by decide) (by decide) (by omega) (by omega) q12 q13 ?_
  have i14 : Is (n + 3) (n + 3) 21 := ⟨Nat.le_refl _, by rw [q12]⟩
  refine wp_putR dX10_init_25 fl_X10_18 (Or.inr ⟨rfl, rfl⟩) (i1.mono (by omega)) (i14.ne (by decide)) ?_
  refine wp_topH (fun h15 e16 => ?_)
  have hb := hb h15 e16
  refine wp_aload_n 0 dX10_init_28 rfl rfl ?_
  refine wp_bipush (v := 6) dX10_init_29 (by decide) ?_
  obtain ⟨q17, hb⟩ := hb
  obtain ⟨q18, hb⟩ := hb
  refine wp_newa20 (N := 6) dX10_init_31 (by decide) (by decide) (by decide) (by omega) (by omega) q17 q18 ?_
  have i19 : Is (n + 4) (n + 4) 20 := ⟨Nat.le_refl _, by rw [q17]⟩
  refine wp_putR dX10_init_33 fl_X10_21 (Or.inr ⟨rfl, rfl⟩) (i1.mono (by omega)) (i19.ne (by decide)) ?_
  refine wp_topH (fun h20 e21 => ?_)
  have hb := hb h20 e21
  refine wp_aload_n 0 dX10_init_36 rfl rfl ?_
  refine wp_bipush (v := 8) dX10_init_37 (by decide) ?_
  obtain ⟨q22, hb⟩ := hb
  obtain ⟨q23, hb⟩ := hb
  refine wp_newa20 (N := 8) dX10_init_39 (by decide) (by decide) (by decide) (by omega) (by omega) q22 q23 ?_
  have i24 : Is (n + 5) (n + 5) 20 := ⟨Nat.le_refl _, by rw [q22]⟩
  refine wp_putR dX10_init_41 fl_X10_25 (Or.inr ⟨rfl, rfl⟩) (i1.mono (by omega)) (i24.ne (by decide)) ?_
  refine wp_topH (fun h25 e26 => ?_)
  have hb := hb h25 e26
  refine wp_aload_n 0 dX10_init_44 rfl rfl ?_
  refine wp_bipush (v := 48) dX10_init_45 (by decide) ?_
  obtain ⟨q27, hb⟩ := hb
  obtain ⟨q28, hb⟩ := hb
  refine wp_newa20 (N := 48) dX10_init_47 (by decide) (by decide) (by decide) (by omega) (by omega) q27 q28 ?_
  have i29 : Is (n + 6) (n + 6) 20 := ⟨Nat.le_refl _, by rw [q27]⟩
  refine wp_putR dX10_init_49 fl_X10_28 (Or.inr ⟨rfl, rfl⟩) (i1.mono (by omega)) (i29.ne (by decide)) ?_
  refine wp_topH (fun h30 e31 => ?_)
  have hb := hb h30 e31
  refine wp_aload_n 0 dX10_init_52 rfl rfl ?_
  refine wp_bipush (v := 8) dX10_init_53 (by decide) ?_
  obtain ⟨q32, hb⟩ := hb
  obtain ⟨q33, hb⟩ := hb
  refine wp_newa20 (N := 8) dX10_init_55 (by decide) (by decide) (by decide) (by omega) (by omega) q32 q33 ?_
  have i34 : Is (n + 7) (n + 7) 20 := ⟨Nat.le_refl _, by rw [q32]⟩
  refine wp_putR dX10_init_57 fl_X10_31 (Or.inr ⟨rfl, rfl⟩) (i1.mono (by omega)) (i34.ne (by decide)) ?_
  refine wp_topH (fun h35 e36 => ?_)
  have hb := hb h35 e36
  refine wp_aload_n 0 dX10_init_60 rfl rfl ?_
  refine wp_bipush (v := 6) dX10_init_61 (by decide) ?_
  obtain ⟨q37, hb⟩ := hb
  obtain ⟨q38, hb⟩ := hb
  refine wp_newa23 (N := 6) dX10_init_63 (by decide) (by decide) (by decide) (by omega) (by omega) q37 q38 ?_
  have i39 : Is (n + 8) (n + 8) 23 := ⟨Nat.le_refl _, by rw [q37]⟩
  refine wp_putR dX10_init_65 fl_X10_34 (Or.inr ⟨rfl, rfl⟩) (i1.mono (by omega)) (i39.ne (by decide)) ?_
  refine wp_topH (fun h40 e41 => ?_)
  have hb := hb h40 e41
  refine wp_aload_n 0 dX10_init_68 rfl rfl ?_
  refine wp_bipush (v := 32) dX10_init_69 (by decide) ?_
  obtain ⟨q42, hb⟩ := hb
  obtain ⟨q43, hb⟩ := hb
  refine wp_newa20 (N := 32) dX10_init_71 (by decide) (by decide) (by decide) (by omega) (by omega) q42 q43 ?_
  have i44 : Is (n + 9) (n + 9) 20 := ⟨Nat.le_refl _, by rw [q42]⟩
  refine wp_putR dX10_init_73 fl_X10_38 (Or.inr ⟨rfl, rfl⟩) (i1.mono (by omega)) (i44.ne (by decide)) ?_
  refine wp_topH (fun h45 e46 => ?_)
  have hb := hb h45 e46
  refine wp_aload_n 0 dX10_init_76 rfl rfl ?_
  refine wp_sipush (v := 128) dX10_init_77 (by decide) ?_
  obtain ⟨q47, hb⟩ := hb
  obtain ⟨q48, hb⟩ := hb
  refine wp_newa20 (N := 128) dX10_init_80 (by decide) (by decide) (by decide) (by omega) (by omega) q47 q48 ?_
  have i49 : Is (n + 10) (n + 10) 20 := ⟨Nat.le_refl _, by rw [q47]⟩
  refine wp_putR dX10_init_82 fl_X10_41 (Or.inr ⟨rfl, rfl⟩) (i1.mono (by omega)) (i49.ne (by decide)) ?_
  refine wp_topH (fun h50 e51 => ?_)
  have hb := hb h50 e51
  refine wp_aload_n 0 dX10_init_85 rfl rfl ?_
  refine wp_sipush (v := 128) dX10_init_86 (by decide) ?_
  obtain ⟨q52, hb⟩ := hb
  obtain ⟨q53, hb⟩ := hb
  refine wp_newa20 (N := 128) dX10_init_89 (by decide) (by decide) (by decide) (by omega) (by omega) q52 q53 ?_
  have i54 : Is (n + 11) (n + 11) 20 := ⟨Nat.le_refl _, by rw [q52]⟩
  refine wp_putR dX10_init_91 fl_X10_44 (Or.inr ⟨rfl, rfl⟩) (i1.mono (by omega)) (i54.ne (by decide)) ?_
  refine wp_topH (fun h55 e56 => ?_)
  have hb := hb h55 e56
  refine wp_aload_n 0 dX10_init_94 rfl rfl ?_
  refine wp_sipush (v := 128) dX10_init_95 (by decide) ?_
  obtain ⟨q57, hb⟩ := hb
  obtain ⟨q58, hb⟩ := hb
  refine wp_newa20 (N := 128) dX10_init_98 (by decide) (by decide) (by decide) (by omega) (by omega) q57 q58 ?_
  have i59 : Is (n + 12) (n + 12) 20 := ⟨Nat.le_refl _, by rw [q57]⟩
  refine wp_putR dX10_init_100 fl_X10_47 (Or.inr ⟨rfl, rfl⟩) (i1.mono (by omega)) (i59.ne (by decide)) ?_
  refine wp_topH (fun h60 e61 => ?_)
  have hb := hb h60 e61
  refine wp_aload_n 0 dX10_init_103 rfl rfl ?_
  refine wp_sipush (v := 128) dX10_init_104 (by decide) ?_
  obtain ⟨q62, hb⟩ := hb
  obtain ⟨q63, hb⟩ := hb
  refine wp_newa21 (N := 128) dX10_init_107 (by decide) (by decide) (by decide) (by omega) (by omega) q62 q63 ?_
  have i64 : Is (n + 13) (n + 13) 21 := ⟨Nat.le_refl _, by rw [q62]⟩
  refine wp_putR dX10_init_109 fl_X10_50 (Or.inr ⟨rfl, rfl⟩) (i1.mono (by omega)) (i64.ne (by decide)) ?_
  refine wp_topH (fun h65 e66 => ?_)
  have hb := hb h65 e66
  refine wp_aload_n 0 dX10_init_112 rfl rfl ?_
  refine wp_sipush (v := 128) dX10_init_113 (by decide) ?_
  obtain ⟨q67, hb⟩ := hb
  obtain ⟨q68, hb⟩ := hb
  refine wp_newa20 (N := 128) dX10_init_116 (by decide) (by decide) (by decide) (by omega) (by omega) q67 q68 ?_
  have i69 : Is (n + 14) (n + 14) 20 := ⟨Nat.le_refl _, by rw [q67]⟩
  refine wp_putR dX10_init_118 fl_X10_53 (Or.inr ⟨rfl, rfl⟩) (i1.mono (by omega)) (i69.ne (by decide)) ?_
  refine wp_topH (fun h70 e71 => ?_)
  have hb := hb h70 e71
  refine wp_aload_n 0 dX10_init_121 rfl rfl ?_
  refine wp_bipush (v := 24) dX10_init_122 (by decide) ?_
  obtain ⟨q72, hb⟩ := hb
  obtain ⟨q73, hb⟩ := hb
  refine wp_newa20 (N := 24) dX10_init_124 (by decide) (by decide) (by decide) (by omega) (by omega) q72 q73 ?_
  have i74 : Is (n + 15) (n + 15) 20 := ⟨Nat.le_refl _, by rw [q72]⟩
  refine wp_putR dX10_init_126 fl_X10_56 (Or.inr ⟨rfl, rfl⟩) (i1.mono (by omega)) (i74.ne (by decide)) ?_
  refine wp_topH (fun h75 e76 => ?_)
  have hb := hb h75 e76
  refine wp_aload_n 0 dX10_init_129 rfl rfl ?_
  refine wp_bipush (v := 24) dX10_init_130 (by decide) ?_
  obtain ⟨q77, hb⟩ := hb
  obtain ⟨q78, hb⟩ := hb
  refine wp_newa20 (N := 24) dX10_init_132 (by decide) (by decide) (by decide) (by omega) (by omega) q77 q78 ?_
  have i79 : Is (n + 16) (n + 16) 20 := ⟨Nat.le_refl _, by rw [q77]⟩
  refine wp_putR dX10_init_134 fl_X10_59 (Or.inr ⟨rfl, rfl⟩) (i1.mono (by omega)) (i79.ne (by decide)) ?_
  refine wp_topH (fun h80 e81 => ?_)
  have hb := hb h80 e81
  refine wp_aload_n 0 dX10_init_137 rfl rfl ?_
  refine wp_bipush (v := 72) dX10_init_138 (by decide) ?_
  obtain ⟨q82, hb⟩ := hb
  obtain ⟨q83, hb⟩ := hb
  refine wp_newa20 (N := 72) dX10_init_140 (by decide) (by decide) (by decide) (by omega) (by omega) q82 q83 ?_
  have i84 : Is (n + 17) (n + 17) 20 := ⟨Nat.le_refl _, by rw [q82]⟩
  refine wp_putR dX10_init_142 fl_X10_62 (Or.inr ⟨rfl, rfl⟩) (i1.mono (by omega)) (i84.ne (by decide)) ?_
  refine wp_topH (fun h85 e86 => ?_)
  have hb := hb h85 e86
  refine wp_aload_n 0 dX10_init_145 rfl rfl ?_
  refine wp_bipush (v := 72) dX10_init_146 (by decide) ?_
  obtain ⟨q87, hb⟩ := hb
  obtain ⟨q88, hb⟩ := hb
  refine wp_newa20 (N := 72) dX10_init_148 (by decide) (by decide) (by decide) (by omega) (by omega) q87 q88 ?_
  have i89 : Is (n + 18) (n + 18) 20 := ⟨Nat.le_refl _, by rw [q87]⟩
  refine wp_putR dX10_init_150 fl_X10_65 (Or.inr ⟨rfl, rfl⟩) (i1.mono (by omega)) (i89.ne (by decide)) ?_
  refine wp_topH (fun h90 e91 => ?_)
  have hb := hb h90 e91
  refine wp_aload_n 0 dX10_init_153 rfl rfl ?_
  refine wp_bipush (v := 72) dX10_init_154 (by decide) ?_
  obtain ⟨q92, hb⟩ := hb
  obtain ⟨q93, hb⟩ := hb
  refine wp_newa20 (N := 72) dX10_init_156 (by decide) (by decide) (by decide) (by omega) (by omega) q92 q93 ?_
  have i94 : Is (n + 19) (n + 19) 20 := ⟨Nat.le_refl _, by rw [q92]⟩
  refine wp_putR dX10_init_158 fl_X10_68 (Or.inr ⟨rfl, rfl⟩) (i1.mono (by omega)) (i94.ne (by decide)) ?_
  refine wp_topH (fun h95 e96 => ?_)
  have hb := hb h95 e96
  exact wp_vret rfl dX10_init_161 ⟨rfl, hb⟩
theorem c_X10_init {l : Launch} {g : AG} {n : Nat} {h : AH} {x0 : Nat}  {Q : AH → Prop} (hb : L_X10_init_0 l g n h x0  Q) : C_X10_init l g n h x0  Q := ax_met rfl rfl (Nat.le_of_ble_eq_true rfl) hb
def C_X12_init (l : Launch) (g : AG) (n : Nat) (h : AH) (x0 : Nat)  (Q : AH → Prop) : Prop := Ct l g mX12_init 5 140 n (n + 90) h [.ref x0] (ax_QV Q)
def L_X12_init_0 (l : Launch) (g : AG) (n : Nat) (h : AH) (x0 : Nat)  (Q : AH → Prop) : Prop := Wp l g mX12_init 5 140 n (n + 90) n 0 [(0, .ref x0)] [] h (FM g n (n + 90) (ax_QV Q))
set_option maxRecDepth 100000 in
set_option maxHeartbeats 4000000 in
theorem s_X12_init_0 {l : Launch} {g : AG} {n : Nat} {h : AH} {x0 : Nat}  {Q : AH → Prop} (hb : (Is n x0 11) ∧ ( ∀ h2 : AH, h2 = ax_setI h x0 2 (-1) → ( (ax_s (n + 1) = (25, 2)) ∧ ( (Zc h2 (n + 1)) ∧ ( ∀ h7 : AH, h7 = ax_setR h2 x0 4 (n + 1) → ( (ax_s (n + 2) = (9, 22)) ∧ ( (Zc h7 (n + 2)) ∧ ( C_X10_init l g (n + 2) h7 (n + 2) (fun h13 => ( ∀ h14 : AH, h14 = ax_setR h13 x0 5 (n + 2) → ( (ax_s (n + 22) = (23, 2)) ∧ ( (Zc h14 (n + 22)) ∧ ( ∀ h19 : AH, h19 = ax_setR h14 x0 6 (n + 22) → ( (ax_s (n + 23) = (21, 2)) ∧ ( (Zc h19 (n + 23)) ∧ ( ∀ h24 : AH, h24 = ax_setR h19 x0 7 (n + 23) → ( (ax_s (n + 24) = (21, 2)) ∧ ( (Zc h24 (n + 24)) ∧ ( ∀ h29 : AH, h29 = ax_setR h24 x0 8 (n + 24) → ( (ax_s (n + 25) = (10, 8)) ∧ ( (Zc h29 (n + 25)) ∧ ( C_X11_init l g (n + 25) h29 (n + 25) (fun h35 => ( ∀ h36 : AH, h36 = ax_setR h35 x0 9 (n + 25) → ( (ax_s (n + 26) = (22, 800)) ∧ ( (Zc h36 (n + 26)) ∧ ( ∀ h41 : AH, h41 = ax_setR h36 x0 10 (n + 26) → ( (ax_s (n + 27) = (20, 5)) ∧ ( (Zc h41 (n + 27)) ∧ ( ∀ h46 : AH, h46 = ax_setR h41 x0 21 (n + 27) → ( (ax_s (n + 28) = (20, 5)) ∧ ( (Zc h46 (n + 28)) ∧ ( ∀ h51 : AH, h51 = ax_setR h46 x0 22 (n + 28) → ( (ax_s (n + 29) = (20, 6)) ∧ ( (Zc h51 (n + 29)) ∧ ( ∀ h56 : AH, h56 = ax_setR h51 x0 23 (n + 29) → ( ∀ h58 : AH, h58 = ax_setI h56 x0 24 (-1) → ( (ax_s (n + 30) = (21, 400)) ∧ ( (Zc h58 (n + 30)) ∧ ( ∀ h63 : AH, h63 = ax_setR h58 x0 26 (n + 30) → ( (ax_s (n + 31) = (21, 400)) ∧ ( (Zc h63 (n + 31)) ∧ ( ∀ h68 : AH, h68 = ax_setR h63 x0 27 (n + 31) → ( (ax_s (n + 32) = (20, 400)) ∧ ( (Zc h68 (n + 32)) ∧ ( ∀ h73 : AH, h73 = ax_setR h68 x0 28 (n + 32) → ( (ax_s (n + 33) = (20, 400)) ∧ ( (Zc h73 (n + 33)) ∧ ( ∀ h78 : AH, h78 = ax_setR h73 x0 29 (n + 33) → ( (ax_s (n + 34) = (20, 400)) ∧ ( (Zc h78 (n + 34)) ∧ ( ∀ h83 : AH, h83 = ax_setR h78 x0 30 (n + 34) → ( (ax_s (n + 35) = (20, 400)) ∧ ( (Zc h83 (n + 35)) ∧ ( ∀ h88 : AH, h88 = ax_setR h83 x0 31 (n + 35) → ( (ax_s (n + 36) = (20, 400)) ∧ ( (Zc h88 (n + 36)) ∧ ( ∀ h93 : AH, h93 = ax_setR h88 x0 32 (n + 36) → ( (ax_s (n + 37) = (20, 400)) ∧ ( (Zc h93 (n + 37)) ∧ ( ∀ h98 : AH, h98 = ax_setR h93 x0 33 (n + 37) → ( (ax_s (n + 38) = (20, 400)) ∧ ( (Zc h98 (n + 38)) ∧ ( ∀ h103 : AH, h103 = ax_setR h98 x0 34 (n + 38) → ( (ax_s (n + 39) = (20, 10800)) ∧ ( (Zc h103 (n + 39)) ∧ ( ∀ h108 : AH, h108 = ax_setR h103 x0 35 (n + 39) → ( (ax_s (n + 40) = (21, 400)) ∧ ( (Zc h108 (n + 40)) ∧ ( ∀ h113 : AH, h113 = ax_setR h108 x0 37 (n + 40) → ( (ax_s (n + 41) = (23, 400)) ∧ ( (Zc h113 (n + 41)) ∧ ( ∀ h118 : AH, h118 = ax_setR h113 x0 38 (n + 41) → ( (ax_s (n + 42) = (20, 400)) ∧ ( (Zc h118 (n + 42)) ∧ ( ∀ h123 : AH, h123 = ax_setR h118 x0 39 (n + 42) → ( ∀ h125 : AH, h125 = ax_setI h123 x0 41 (-1) → ( (ax_s (n + 43) = (21, 400)) ∧ ( (Zc h125 (n + 43)) ∧ ( ∀ h130 : AH, h130 = ax_setR h125 x0 44 (n + 43) → ( (ax_s (n + 44) = (21, 400)) ∧ ( (Zc h130 (n + 44)) ∧ ( ∀ h135 : AH, h135 = ax_setR h130 x0 45 (n + 44) → ( (ax_s (n + 45) = (21, 400)) ∧ ( (Zc h135 (n + 45)) ∧ ( ∀ h140 : AH, h140 = ax_setR h135 x0 46 (n + 45) → ( (ax_s (n + 46) = (21, 400)) ∧ ( (Zc h140 (n + 46)) ∧ ( ∀ h145 : AH, h145 = ax_setR h140 x0 47 (n + 46) → ( (ax_s (n + 47) = (20, 400)) ∧ ( (Zc h145 (n + 47)) ∧ ( ∀ h150 : AH, h150 = ax_setR h145 x0 48 (n + 47) → ( (ax_s (n + 48) = (20, 400)) ∧ ( (Zc h150 (n + 48)) ∧ ( ∀ h155 : AH, h155 = ax_setR h150 x0 49 (n + 48) → ( (ax_s (n + 49) = (20, 6)) ∧ ( (Zc h155 (n + 49)) ∧ ( ∀ h160 : AH, h160 = ax_setR h155 x0 54 (n + 49) → ( (ax_s (n + 50) = (21, 24)) ∧ ( (Zc h160 (n + 50)) ∧ ( ∀ h165 : AH, h165 = ax_setR h160 x0 55 (n + 50) → ( (Is (n + 50) (h165.2.2 x0 4) 25) ∧ ( (ax_s (n + 51) = (9, 22)) ∧ ( (Zc h165 (n + 51)) ∧ ( C_X10_init l g (n + 51) h165 (n + 51) (fun h172 => ( (vp_in 0 (ax_s (h165.2.2 x0 4)).2) ∧ ( ∀ h174 : AH, h174 = ax_setR h172 (h165.2.2 x0 4) (0 : Int32).toNatClampNeg (n + 51) → ( (Is (n + 70) (h174.2.2 x0 4) 25) ∧ ( (ax_s (n + 71) = (9, 22)) ∧ ( (Zc h174 (n + 71)) ∧ ( C_X10_init l g (n + 71) h174 (n + 71) (fun h181 => ( (vp_in 1 (ax_s (h174.2.2 x0 4)).2) ∧ ( ∀ h183 : AH, h183 = ax_setR h181 (h174.2.2 x0 4) (1 : Int32).toNatClampNeg (n + 71) → ( Q h183)))))))))))))))))))))))))))))))))))))))))))))))))))))))))))))))))))))))))))))))))))))))))))))))))))))))))))))))))))) : L_X12_init_0 l g n h x0  Q := by
  obtain ⟨i1, hb⟩ := hb
  refine wp_aload_n 0 dX12_init_0 rfl rfl ?_
  refine wp_obj dX12_init_1 lk_X12_13 (Nat.le_of_ble_eq_true rfl) (by decide) (by decide) ?_
  refine wp_aload_n 0 dX12_init_4 rfl rfl ?_
  refine wp_iconst (v := (-1)) dX12_init_5 (by decide) ?_
  refine wp_putI dX12_init_6 fl_X12_10 (Or.inl rfl) (i1.mono (by omega)) ?_
  refine wp_topH (fun h2 e3 => ?_)
  have hb := hb h2 e3
  refine wp_aload_n 0 dX12_init_9 rfl rfl ?_
  refine wp_iconst (v := 2) dX12_init_10 (by decide) ?_
  obtain ⟨q4, hb⟩ := hb
  obtain ⟨q5, hb⟩ := hb
  refine wp_anewa25 (N := 2) dX12_init_11 lk_X12_19 (by decide) (by decide) (by decide) (by omega) (by omega) q4 q5 ?_
  have i6 : Is (n + 1) (n + 1) 25 := ⟨Nat.le_refl _, by rw [q4]⟩
  refine wp_putR dX12_init_14 fl_X12_21 (Or.inr ⟨rfl, rfl⟩) (i1.mono (by omega)) (i6.ne (by decide)) ?_
  refine wp_topH (fun h7 e8 => ?_)
  have hb := hb h7 e8
  refine wp_aload_n 0 dX12_init_17 rfl rfl ?_
  obtain ⟨q9, hb⟩ := hb
  obtain ⟨q10, hb⟩ := hb
  refine wp_new (N := 22) dX12_init_18 lk_X12_19 inst_X10 inic_X10 fc_X10 (fun j hj => ax_df_X10 j hj) (by omega) (by omega) q9 q10 ?_
  have i11 : Is (n + 2) (n + 2) 9 := ⟨Nat.le_refl _, by rw [q9]⟩
  refine wp_dup dX12_init_21 rfl ?_
  refine wp_callIN (as := []) (n1 := n + 21) dX12_init_22 cb_X10_init lk_X12_25 rfl im_X10_init rfl rfl (Nat.le_of_ble_eq_true rfl) ⟨by decide, by decide⟩ ⟨by omega, by omega, by omega⟩ hb (fun r0 h13 hb => ?_)
  obtain ⟨rfl, hb⟩ := hb
  refine wp_putR dX12_init_25 fl_X12_26 (Or.inl rfl) (i1.mono (by omega)) (i11.ne (by decide)) ?_
  refine wp_topH (fun h14 e15 => ?_)
  have hb := hb h14 e15
  refine wp_aload_n 0 dX12_init_28 rfl rfl ?_
  refine wp_iconst (v := 2) dX12_init_29 (by decide) ?_
  obtain ⟨q16, hb⟩ := hb
  obtain ⟨q17, hb⟩ := hb
  refine wp_newa23 (N := 2) dX12_init_30 (by decide) (by decide) (by decide) (by omega) (by omega) q16 q17 ?_
  have i18 : Is (n + 22) (n + 22) 23 := ⟨Nat.le_refl _, by rw [q16]⟩
  refine wp_putR dX12_init_32 fl_X12_30 (Or.inr ⟨rfl, rfl⟩) (i1.mono (by omega)) (i18.ne (by decide)) ?_
  refine wp_topH (fun h19 e20 => ?_)
  have hb := hb h19 e20
  refine wp_aload_n 0 dX12_init_35 rfl rfl ?_
  refine wp_iconst (v := 2) dX12_init_36 (by decide) ?_
  obtain ⟨q21, hb⟩ := hb
  obtain ⟨q22, hb⟩ := hb
  refine wp_newa21 (N := 2) dX12_init_37 (by decide) (by decide) (by decide) (by omega) (by omega) q21 q22 ?_
  have i23 : Is (n + 23) (n + 23) 21 := ⟨Nat.le_refl _, by rw [q21]⟩
  refine wp_putR dX12_init_39 fl_X12_34 (Or.inr ⟨rfl, rfl⟩) (i1.mono (by omega)) (i23.ne (by decide)) ?_
  refine wp_topH (fun h24 e25 => ?_)
  have hb := hb h24 e25
  refine wp_aload_n 0 dX12_init_42 rfl rfl ?_
  refine wp_iconst (v := 2) dX12_init_43 (by decide) ?_
  obtain ⟨q26, hb⟩ := hb
  obtain ⟨q27, hb⟩ := hb
  refine wp_newa21 (N := 2) dX12_init_44 (by decide) (by decide) (by decide) (by omega) (by omega) q26 q27 ?_
  have i28 : Is (n + 24) (n + 24) 21 := ⟨Nat.le_refl _, by rw [q26]⟩
  refine wp_putR dX12_init_46 fl_X12_38 (Or.inr ⟨rfl, rfl⟩) (i1.mono (by omega)) (i28.ne (by decide)) ?_
  refine wp_topH (fun h29 e30 => ?_)
  have hb := hb h29 e30
  refine wp_aload_n 0 dX12_init_49 rfl rfl ?_
  obtain ⟨q31, hb⟩ := hb
  obtain ⟨q32, hb⟩ := hb
  refine wp_new (N := 8) dX12_init_50 lk_X12_41 inst_X11 inic_X11 fc_X11 (fun j hj => ax_df_X11 j hj) (by omega) (by omega) q31 q32 ?_
  have i33 : Is (n + 25) (n + 25) 10 := ⟨Nat.le_refl _, by rw [q31]⟩
  refine wp_dup dX12_init_53 rfl ?_
  refine wp_callI (as := []) (n1 := n + 25) dX12_init_54 cb_X11_init lk_X12_43 rfl im_X11_init rfl rfl (Nat.le_of_ble_eq_true rfl) ⟨by decide, by decide⟩ ⟨by omega, by omega, by omega⟩ hb (fun r0 h35 hb => ?_)
  obtain ⟨rfl, hb⟩ := hb
  refine wp_putR dX12_init_57 fl_X12_44 (Or.inr ⟨rfl, rfl⟩) (i1.mono (by omega)) (i33.ne (by decide)) ?_
  refine wp_topH (fun h36 e37 => ?_)
  have hb := hb h36 e37
  refine wp_aload_n 0 dX12_init_60 rfl rfl ?_
  refine wp_sipush (v := 800) dX12_init_61 (by decide) ?_
  obtain ⟨q38, hb⟩ := hb
  obtain ⟨q39, hb⟩ := hb
  refine wp_newa22 (N := 800) dX12_init_64 (by decide) (by decide) (by decide) (by omega) (by omega) q38 q39 ?_
  have i40 : Is (n + 26) (n + 26) 22 := ⟨Nat.le_refl _, by rw [q38]⟩
  refine wp_putR dX12_init_66 fl_X12_48 (Or.inr ⟨rfl, rfl⟩) (i1.mono (by omega)) (i40.ne (by decide)) ?_
  refine wp_topH (fun h41 e42 => ?_)
  have hb := hb h41 e42
  refine wp_aload_n 0 dX12_init_69 rfl rfl ?_
  refine wp_iconst (v := 5) dX12_init_70 (by decide) ?_
  obtain ⟨q43, hb⟩ := hb
  obtain ⟨q44, hb⟩ := hb
  refine wp_newa20 (N := 5) dX12_init_71 (by decide) (by decide) (by decide) (by omega) (by omega) q43 q44 ?_
  have i45 : Is (n + 27) (n + 27) 20 := ⟨Nat.le_refl _, by rw [q43]⟩
  refine wp_putR dX12_init_73 fl_X12_52 (Or.inr ⟨rfl, rfl⟩) (i1.mono (by omega)) (i45.ne (by decide)) ?_
  refine wp_topH (fun h46 e47 => ?_)
  have hb := hb h46 e47
  refine wp_aload_n 0 dX12_init_76 rfl rfl ?_
  refine wp_iconst (v := 5) dX12_init_77 (by decide) ?_
  obtain ⟨q48, hb⟩ := hb
  obtain ⟨q49, hb⟩ := hb
  refine wp_newa20 (N := 5) dX12_init_78 (by decide) (by decide) (by decide) (by omega) (by omega) q48 q49 ?_
  have i50 : Is (n + 28) (n + 28) 20 := ⟨Nat.le_refl _, by rw [q48]⟩
  refine wp_putR dX12_init_80 fl_X12_56 (Or.inr ⟨rfl, rfl⟩) (i1.mono (by omega)) (i50.ne (by decide)) ?_
  refine wp_topH (fun h51 e52 => ?_)
  have hb := hb h51 e52
  refine wp_aload_n 0 dX12_init_83 rfl rfl ?_
  refine wp_bipush (v := 6) dX12_init_84 (by decide) ?_
  obtain ⟨q53, hb⟩ := hb
  obtain ⟨q54, hb⟩ := hb
  refine wp_newa20 (N := 6) dX12_init_86 (by decide) (by decide) (by decide) (by omega) (by omega) q53 q54 ?_
  have i55 : Is (n + 29) (n + 29) 20 := ⟨Nat.le_refl _, by rw [q53]⟩
  refine wp_putR dX12_init_88 fl_X12_59 (Or.inr ⟨rfl, rfl⟩) (i1.mono (by omega)) (i55.ne (by decide)) ?_
  refine wp_topH (fun h56 e57 => ?_)
  have hb := hb h56 e57
  refine wp_aload_n 0 dX12_init_91 rfl rfl ?_
  refine wp_iconst (v := (-1)) dX12_init_92 (by decide) ?_
  refine wp_putI dX12_init_93 fl_X12_62 (Or.inl rfl) (i1.mono (by omega)) ?_
  refine wp_topH (fun h58 e59 => ?_)
  have hb := hb h58 e59
  refine wp_aload_n 0 dX12_init_96 rfl rfl ?_
  refine wp_sipush (v := 400) dX12_init_97 (by decide) ?_
  obtain ⟨q60, hb⟩ := hb
  obtain ⟨q61, hb⟩ := hb
  refine wp_newa21 (N := 400) dX12_init_100 (by decide) (by decide) (by decide) (by omega) (by omega) q60 q61 ?_
  have i62 : Is (n + 30) (n + 30) 21 := ⟨Nat.le_refl _, by rw [q60]⟩
  refine wp_putR dX12_init_102 fl_X12_65 (Or.inr ⟨rfl, rfl⟩) (i1.mono (by omega)) (i62.ne (by decide)) ?_
  refine wp_topH (fun h63 e64 => ?_)
  have hb := hb h63 e64
  refine wp_aload_n 0 dX12_init_105 rfl rfl ?_
  refine wp_sipush (v := 400) dX12_init_106 (by decide) ?_
  obtain ⟨q65, hb⟩ := hb
  obtain ⟨q66, hb⟩ := hb
  refine wp_newa21 (N := 400) dX12_init_109 (by decide) (by decide) (by decide) (by omega) (by omega) q65 q66 ?_
  have i67 : Is (n + 31) (n + 31) 21 := ⟨Nat.le_refl _, by rw [q65]⟩
  refine wp_putR dX12_init_111 fl_X12_68 (Or.inr ⟨rfl, rfl⟩) (i1.mono (by omega)) (i67.ne (by decide)) ?_
  refine wp_topH (fun h68 e69 => ?_)
  have hb := hb h68 e69
  refine wp_aload_n 0 dX12_init_114 rfl rfl ?_
  refine wp_sipush (v := 400) dX12_init_115 (by decide) ?_
  obtain ⟨q70, hb⟩ := hb
  obtain ⟨q71, hb⟩ := hb
  refine wp_newa20 (N := 400) dX12_init_118 (by decide) (by decide) (by decide) (by omega) (by omega) q70 q71 ?_
  have i72 : Is (n + 32) (n + 32) 20 := ⟨Nat.le_refl _, by rw [q70]⟩
  refine wp_putR dX12_init_120 fl_X12_71 (Or.inr ⟨rfl, rfl⟩) (i1.mono (by omega)) (i72.ne (by decide)) ?_
  refine wp_topH (fun h73 e74 => ?_)
  have hb := hb h73 e74
  refine wp_aload_n 0 dX12_init_123 rfl rfl ?_
  refine wp_sipush (v := 400) dX12_init_124 (by decide) ?_
  obtain ⟨q75, hb⟩ := hb
  obtain ⟨q76, hb⟩ := hb
  refine wp_newa20 (N := 400) dX12_init_127 (by decide) (by decide) (by decide) (by omega) (by omega) q75 q76 ?_
  have i77 : Is (n + 33) (n + 33) 20 := ⟨Nat.le_refl _, by rw [q75]⟩
  refine wp_putR dX12_init_129 fl_X12_74 (Or.inr ⟨rfl, rfl⟩) (i1.mono (by omega)) (i77.ne (by decide)) ?_
  refine wp_topH (fun h78 e79 => ?_)
  have hb := hb h78 e79
  refine wp_aload_n 0 dX12_init_132 rfl rfl ?_
  refine wp_sipush (v := 400) dX12_init_133 (by decide) ?_
  obtain ⟨q80, hb⟩ := hb
  obtain ⟨q81, hb⟩ := hb
  refine wp_newa20 (N := 400) dX12_init_136 (by decide) (by decide) (by decide) (by omega) (by omega) q80 q81 ?_
  have i82 : Is (n + 34) (n + 34) 20 := ⟨Nat.le_refl _, by rw [q80]⟩
  refine wp_putR dX12_init_138 fl_X12_77 (Or.inr ⟨rfl, rfl⟩) (i1.mono (by omega)) (i82.ne (by decide)) ?_
  refine wp_topH (fun h83 e84 => ?_)
  have hb := hb h83 e84
  refine wp_aload_n 0 dX12_init_141 rfl rfl ?_
  refine wp_sipush (v := 400) dX12_init_142 (by decide) ?_
  obtain ⟨q85, hb⟩ := hb
  obtain ⟨q86, hb⟩ := hb
  refine wp_newa20 (N := 400) dX12_init_145 (by decide) (by decide) (by decide) (by omega) (by omega) q85 q86 ?_
  have i87 : Is (n + 35) (n + 35) 20 := ⟨Nat.le_refl _, by rw [q85]⟩
  refine wp_putR dX12_init_147 fl_X12_80 (Or.inr ⟨rfl, rfl⟩) (i1.mono (by omega)) (i87.ne (by decide)) ?_
  refine wp_topH (fun h88 e89 => ?_)
  have hb := hb h88 e89
  refine wp_aload_n 0 dX12_init_150 rfl rfl ?_
  refine wp_sipush (v := 400) dX12_init_151 (by decide) ?_
  obtain ⟨q90, hb⟩ := hb
  obtain ⟨q91, hb⟩ := hb
  refine wp_newa20 (N := 400) dX12_init_154 (by decide) (by decide) (by decide) (by omega) (by omega) q90 q91 ?_
  have i92 : Is (n + 36) (n + 36) 20 := ⟨Nat.le_refl _, by rw [q90]⟩
  refine wp_putR dX12_init_156 fl_X12_83 (Or.inr ⟨rfl, rfl⟩) (i1.mono (by omega)) (i92.ne (by decide)) ?_
  refine wp_topH (fun h93 e94 => ?_)
  have hb := hb h93 e94
  refine wp_aload_n 0 dX12_init_159 rfl rfl ?_
  refine wp_sipush (v := 400) dX12_init_160 (by decide) ?_
  obtain ⟨q95, hb⟩ := hb
  obtain ⟨q96, hb⟩ := hb
  refine wp_newa20 (N := 400) dX12_init_163 (by decide) (by decide) (by decide) (by omega) (by omega) q95 q96 ?_
  have i97 : Is (n + 37) (n + 37) 20 := ⟨Nat.le_refl _, by rw [q95]⟩
  refine wp_putR dX12_init_165 fl_X12_86 (Or.inr ⟨rfl, rfl⟩) (i1.mono (by omega)) (i97.ne (by decide)) ?_
  refine wp_topH (fun h98 e99 => ?_)
  have hb := hb h98 e99
  refine wp_aload_n 0 dX12_init_168 rfl rfl ?_
  refine wp_sipush (v := 400) dX12_init_169 (by decide) ?_
  obtain ⟨q100, hb⟩ := hb
  obtain ⟨q101, hb⟩ := hb
  refine wp_newa20 (N := 400) dX12_init_172 (by decide) (by decide) (by decide) (by omega) (by omega) q100 q101 ?_
  have i102 : Is (n + 38) (n + 38) 20 := ⟨Nat.le_refl _, by rw [q100]⟩
  refine wp_putR dX12_init_174 fl_X12_89 (Or.inr ⟨rfl, rfl⟩) (i1.mono (by omega)) (i102.ne (by decide)) ?_
  refine wp_topH (fun h103 e104 => ?_)
  have hb := hb h103 e104
  refine wp_aload_n 0 dX12_init_177 rfl rfl ?_
  refine wp_sipush (v := 10800) dX12_init_178 (by decide) ?_
  obtain ⟨q105, hb⟩ := hb
  obtain ⟨q106, hb⟩ := hb
  refine wp_newa20 (N := 10800) dX12_init_181 (by decide) (by decide) (by decide) (by omega) (by omega) q105 q106 ?_
  have i107 : Is (n + 39) (n + 39) 20 := ⟨Nat.le_refl _, by rw [q105]⟩
  refine wp_putR dX12_init_183 fl_X12_92 (Or.inr ⟨rfl, rfl⟩) (i1.mono (by omega)) (i107.ne (by decide)) ?_
  refine wp_topH (fun h108 e109 => ?_)
  have hb := hb h108 e109
  refine wp_aload_n 0 dX12_init_186 rfl rfl ?_
  refine wp_sipush (v := 400) dX12_init_187 (by decide) ?_
  obtain ⟨q110, hb⟩ := hb
  obtain ⟨q111, hb⟩ := hb
  refine wp_newa21 (N := 400) dX12_init_190 (by decide) (by decide) (by decide) (by omega) (by omega) q110 q111 ?_
  have i112 : Is (n + 40) (n + 40) 21 := ⟨Nat.le_refl _, by rw [q110]⟩
  refine wp_putR dX12_init_192 fl_X12_95 (Or.inr ⟨rfl, rfl⟩) (i1.mono (by omega)) (i112.ne (by decide)) ?_
  refine wp_topH (fun h113 e114 => ?_)
  have hb := hb h113 e114
  refine wp_aload_n 0 dX12_init_195 rfl rfl ?_
  refine wp_sipush (v := 400) dX12_init_196 (by decide) ?_
  obtain ⟨q115, hb⟩ := hb
  obtain ⟨q116, hb⟩ := hb
  refine wp_newa23 (N := 400) dX12_init_199 (by decide) (by decide) (by decide) (by omega) (by omega) q115 q116 ?_
  have i117 : Is (n + 41) (n + 41) 23 := ⟨Nat.le_refl _, by rw [q115]⟩
  refine wp_putR dX12_init_201 fl_X12_98 (Or.inr ⟨rfl, rfl⟩) (i1.mono (by omega)) (i117.ne (by decide)) ?_
  refine wp_topH (fun h118 e119 => ?_)
  have hb := hb h118 e119
  refine wp_aload_n 0 dX12_init_204 rfl rfl ?_
  refine wp_sipush (v := 400) dX12_init_205 (by decide) ?_
  obtain ⟨q120, hb⟩ := hb
  obtain ⟨q121, hb⟩ := hb
  refine wp_newa20 (N := 400) dX12_init_208 (by decide) (by decide) (by decide) (by omega) (by omega) q120 q121 ?_
  have i122 : Is (n + 42) (n + 42) 20 := ⟨Nat.le_refl _, by rw [q120]⟩
  refine wp_putR dX12_init_210 fl_X12_101 (Or.inr ⟨rfl, rfl⟩) (i1.mono (by omega)) (i122.ne (by decide)) ?_
  refine wp_topH (fun h123 e124 => ?_)
  have hb := hb h123 e124
  refine wp_aload_n 0 dX12_init_213 rfl rfl ?_
  refine wp_iconst (v := (-1)) dX12_init_214 (by decide) ?_
  refine wp_putI dX12_init_215 fl_X12_104 (Or.inl rfl) (i1.mono (by omega)) ?_
  refine wp_topH (fun h125 e126 => ?_)
  have hb := hb h125 e126
  refine wp_aload_n 0 dX12_init_218 rfl rfl ?_
  refine wp_sipush (v := 400) dX12_init_219 (by decide) ?_
  obtain ⟨q127, hb⟩ := hb
  obtain ⟨q128, hb⟩ := hb
  refine wp_newa21 (N := 400) dX12_init_222 (by decide) (by decide) (by decide) (by omega) (by omega) q127 q128 ?_
  have i129 : Is (n + 43) (n + 43) 21 := ⟨Nat.le_refl _, by rw [q127]⟩
  refine wp_putR dX12_init_224 fl_X12_107 (Or.inr ⟨rfl, rfl⟩) (i1.mono (by omega)) (i129.ne (by decide)) ?_
  refine wp_topH (fun h130 e131 => ?_)
  have hb := hb h130 e131
  refine wp_aload_n 0 dX12_init_227 rfl rfl ?_
  refine wp_sipush (v := 400) dX12_init_228 (by decide) ?_
  obtain ⟨q132, hb⟩ := hb
  obtain ⟨q133, hb⟩ := hb
  refine wp_newa21 (N := 400) dX12_init_231 (by decide) (by decide) (by decide) (by omega) (by omega) q132 q133 ?_
  have i134 : Is (n + 44) (n + 44) 21 := ⟨Nat.le_refl _, by rw [q132]⟩
  refine wp_putR dX12_init_233 fl_X12_110 (Or.inr ⟨rfl, rfl⟩) (i1.mono (by omega)) (i134.ne (by decide)) ?_
  refine wp_topH (fun h135 e136 => ?_)
  have hb := hb h135 e136
  refine wp_aload_n 0 dX12_init_236 rfl rfl ?_
  refine wp_sipush (v := 400) dX12_init_237 (by decide) ?_
  obtain ⟨q137, hb⟩ := hb
  obtain ⟨q138, hb⟩ := hb
  refine wp_newa21 (N := 400) dX12_init_240 (by decide) (by decide) (by decide) (by omega) (by omega) q137 q138 ?_
  have i139 : Is (n + 45) (n + 45) 21 := ⟨Nat.le_refl _, by rw [q137]⟩
  refine wp_putR dX12_init_242 fl_X12_113 (Or.inr ⟨rfl, rfl⟩) (i1.mono (by omega)) (i139.ne (by decide)) ?_
  refine wp_topH (fun h140 e141 => ?_)
  have hb := hb h140 e141
  refine wp_aload_n 0 dX12_init_245 rfl rfl ?_
  refine wp_sipush (v := 400) dX12_init_246 (by decide) ?_
  obtain ⟨q142, hb⟩ := hb
  obtain ⟨q143, hb⟩ := hb
  refine wp_newa21 (N := 400) dX12_init_249 (by decide) (by decide) (by decide) (by omega) (by omega) q142 q143 ?_
  have i144 : Is (n + 46) (n + 46) 21 := ⟨Nat.le_refl _, by rw [q142]⟩
  refine wp_putR dX12_init_251 fl_X12_116 (Or.inr ⟨rfl, rfl⟩) (i1.mono (by omega)) (i144.ne (by decide)) ?_
  refine wp_topH (fun h145 e146 => ?_)
  have hb := hb h145 e146
  refine wp_aload_n 0 dX12_init_254 rfl rfl ?_
  refine wp_sipush (v := 400) dX12_init_255 (by decide) ?_
  obtain ⟨q147, hb⟩ := hb
  obtain ⟨q148, hb⟩ := hb
  refine wp_newa20 (N := 400) dX12_init_258 (by decide) (by decide) (by decide) (by omega) (by omega) q147 q148 ?_
  have i149 : Is (n + 47) (n + 47) 20 := ⟨Nat.le_refl _, by rw [q147]⟩
  refine wp_putR dX12_init_260 fl_X12_119 (Or.inr ⟨rfl, rfl⟩) (i1.mono (by omega)) (i149.ne (by decide)) ?_
  refine wp_topH (fun h150 e151 => ?_)
  have hb := hb h150 e151
  refine wp_aload_n 0 dX12_init_263 rfl rfl ?_
  refine wp_sipush (v := 400) dX12_init_264 (by decide) ?_
  obtain ⟨q152, hb⟩ := hb
  obtain ⟨q153, hb⟩ := hb
  refine wp_newa20 (N := 400) dX12_init_267 (by decide) (by decide) (by decide) (by omega) (by omega) q152 q153 ?_
  have i154 : Is (n + 48) (n + 48) 20 := ⟨Nat.le_refl _, by rw [q152]⟩
  refine wp_putR dX12_init_269 fl_X12_122 (Or.inr ⟨rfl, rfl⟩) (i1.mono (by omega)) (i154.ne (by decide)) ?_
  refine wp_topH (fun h155 e156 => ?_)
  have hb := hb h155 e156
  refine wp_aload_n 0 dX12_init_272 rfl rfl ?_
  refine wp_bipush (v := 6) dX12_init_273 (by decide) ?_
  obtain ⟨q157, hb⟩ := hb
  obtain ⟨q158, hb⟩ := hb
  refine wp_newa20 (N := 6) dX12_init_275 (by decide) (by decide) (by decide) (by omega) (by omega) q157 q158 ?_
  have i159 : Is (n + 49) (n + 49) 20 := ⟨Nat.le_refl _, by rw [q157]⟩
  refine wp_putR dX12_init_277 fl_X12_125 (Or.inr ⟨rfl, rfl⟩) (i1.mono (by omega)) (i159.ne (by decide)) ?_
  refine wp_topH (fun h160 e161 => ?_)
  have hb := hb h160 e161
  refine wp_aload_n 0 dX12_init_280 rfl rfl ?_
  refine wp_bipush (v := 24) dX12_init_281 (by decide) ?_
  obtain ⟨q162, hb⟩ := hb
  obtain ⟨q163, hb⟩ := hb
  refine wp_newa21 (N := 24) dX12_init_283 (by decide) (by decide) (by decide) (by omega) (by omega) q162 q163 ?_
  have i164 : Is (n + 50) (n + 50) 21 := ⟨Nat.le_refl _, by rw [q162]⟩
  refine wp_putR dX12_init_285 fl_X12_128 (Or.inr ⟨rfl, rfl⟩) (i1.mono (by omega)) (i164.ne (by decide)) ?_
  refine wp_topH (fun h165 e166 => ?_)
  have hb := hb h165 e166
  refine wp_aload_n 0 dX12_init_288 rfl rfl ?_
  obtain ⟨i167, hb⟩ := hb
  refine wp_getR dX12_init_289 fl_X12_21 (i1.mono (by omega)) (i167.ne (by decide)) ?_
  refine wp_iconst (v := 0) dX12_init_292 (by decide) ?_
  obtain ⟨q168, hb⟩ := hb
  obtain ⟨q169, hb⟩ := hb
  refine wp_new (N := 22) dX12_init_293 lk_X12_19 inst_X10 inic_X10 fc_X10 (fun j hj => ax_df_X10 j hj) (by omega) (by omega) q168 q169 ?_
  have i170 : Is (n + 51) (n + 51) 9 := ⟨Nat.le_refl _, by rw [q168]⟩
  refine wp_dup dX12_init_296 rfl ?_
  refine wp_callIN (as := []) (n1 := n + 70) dX12_init_297 cb_X10_init lk_X12_25 rfl im_X10_init rfl rfl (Nat.le_of_ble_eq_true rfl) ⟨by decide, by decide⟩ ⟨by omega, by omega, by omega⟩ hb (fun r0 h172 hb => ?_)
  obtain ⟨rfl, hb⟩ := hb
  obtain ⟨b173, hb⟩ := hb
  refine wp_aastore25 dX12_init_300 (i167.mono (by omega)) (i170.mono (by omega)) b173 ?_
  refine wp_topH (fun h174 e175 => ?_)
  have hb := hb h174 e175
  refine wp_aload_n 0 dX12_init_301 rfl rfl ?_
  obtain ⟨i176, hb⟩ := hb
  refine wp_getR dX12_init_302 fl_X12_21 (i1.mono (by omega)) (i176.ne (by decide)) ?_
  refine wp_iconst (v := 1) dX12_init_305 (by decide) ?_
  obtain ⟨q177, hb⟩ := hb
  obtain ⟨q178, hb⟩ := hb
  refine wp_new (N := 22) dX12_init_306 lk_X12_19 inst_X10 inic_X10 fc_X10 (fun j hj => ax_df_X10 j hj) (by omega) (by omega) q177 q178 ?_
  have i179 : Is (n + 71) (n + 71) 9 := ⟨Nat.le_refl _, by rw [q177]⟩
  refine wp_dup dX12_init_309 rfl ?_
  refine wp_callIN (as := []) (n1 := n + 90) dX12_init_310 cb_X10_init lk_X12_25 rfl im_X10_init rfl rfl (Nat.le_of_ble_eq_true rfl) ⟨by decide, by decide⟩ ⟨by omega, by omega, by omega⟩ hb (fun r0 h181 hb => ?_)
  obtain ⟨rfl, hb⟩ := hb
  obtain ⟨b182, hb⟩ := hb
  refine wp_aastore25 dX12_init_313 (i176.mono (by omega)) (i179.mono (by omega)) b182 ?_
  refine wp_topH (fun h183 e184 => ?_)
  have hb := hb h183 e184
  exact wp_vret rfl dX12_init_314 ⟨rfl, hb⟩
theorem c_X12_init {l : Launch} {g : AG} {n : Nat} {h : AH} {x0 : Nat}  {Q : AH → Prop} (hb : L_X12_init_0 l g n h x0  Q) : C_X12_init l g n h x0  Q := ax_met rfl rfl (Nat.le_of_ble_eq_true rfl) hb
