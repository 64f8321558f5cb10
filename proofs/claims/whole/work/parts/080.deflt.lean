def ax_dv (t : Nat) : Value := if t = 1 then .long 0 else if t = 2 then .null else .int 0
theorem ax_fs0 (g : AG) (c : Nat) : ax_fs g (fun _ => 0) (fun _ => 0) (fun _ => 0) c = (ax_ft c).map ax_dv := by
  apply List.ext_getElem?
  intro j
  simp only [ax_fs, List.getElem?_mapIdx, List.getElem?_map]
  cases (ax_ft c)[j]? with
  | none => rfl
  | some t => simp [ax_fv, ax_dv, ax_ro, va_rf]
theorem ax_d0_X0 : ∀ j, j < 19 → defaultValue (tyX0 j) = vp_V ((ax_ft 0).map ax_dv) j := by decide +kernel
theorem ax_df_X0 {g : AG} (j : Nat) (hj : j < 19) : defaultValue (tyX0 j) = vp_V (ax_fs g (fun _ => 0) (fun _ => 0) (fun _ => 0) 0) j := by rw [ax_fs0]; exact ax_d0_X0 j hj
theorem ax_d0_X1 : ∀ j, j < 9 → defaultValue (tyX1 j) = vp_V ((ax_ft 1).map ax_dv) j := by decide +kernel
theorem ax_df_X1 {g : AG} (j : Nat) (hj : j < 9) : defaultValue (tyX1 j) = vp_V (ax_fs g (fun _ => 0) (fun _ => 0) (fun _ => 0) 1) j := by rw [ax_fs0]; exact ax_d0_X1 j hj
theorem ax_d0_X2 : ∀ j, j < 6 → defaultValue (tyX2 j) = vp_V ((ax_ft 2).map ax_dv) j := by decide +kernel
theorem ax_df_X2 {g : AG} (j : Nat) (hj : j < 6) : defaultValue (tyX2 j) = vp_V (ax_fs g (fun _ => 0) (fun _ => 0) (fun _ => 0) 2) j := by rw [ax_fs0]; exact ax_d0_X2 j hj
theorem ax_d0_X4 : ∀ j, j < 4 → defaultValue (tyX4 j) = vp_V ((ax_ft 3).map ax_dv) j := by decide +kernel
theorem ax_df_X4 {g : AG} (j : Nat) (hj : j < 4) : defaultValue (tyX4 j) = vp_V (ax_fs g (fun _ => 0) (fun _ => 0) (fun _ => 0) 3) j := by rw [ax_fs0]; exact ax_d0_X4 j hj
theorem ax_d0_X5 : ∀ j, j < 4 → defaultValue (tyX5 j) = vp_V ((ax_ft 4).map ax_dv) j := by decide +kernel
theorem ax_df_X5 {g : AG} (j : Nat) (hj : j < 4) : defaultValue (tyX5 j) = vp_V (ax_fs g (fun _ => 0) (fun _ => 0) (fun _ => 0) 4) j := by rw [ax_fs0]; exact ax_d0_X5 j hj
theorem ax_d0_X6 : ∀ j, j < 7 → defaultValue (tyX6 j) = vp_V ((ax_ft 5).map ax_dv) j := by decide +kernel
theorem ax_df_X6 {g : AG} (j : Nat) (hj : j < 7) : defaultValue (tyX6 j) = vp_V (ax_fs g (fun _ => 0) (fun _ => 0) (fun _ => 0) 5) j := by rw [ax_fs0]; exact ax_d0_X6 j hj
theorem ax_d0_X7 : ∀ j, j < 15 → defaultValue (tyX7 j) = vp_V ((ax_ft 6).map ax_dv) j := by decide +kernel
theorem ax_df_X7 {g : AG} (j : Nat) (hj : j < 15) : defaultValue (tyX7 j) = vp_V (ax_fs g (fun _ => 0) (fun _ => 0) (fun _ => 0) 6) j := by rw [ax_fs0]; exact ax_d0_X7 j hj
theorem ax_d0_X8 : ∀ j, j < 7 → defaultValue (tyX8 j) = vp_V ((ax_ft 7).map ax_dv) j := by decide +kernel
theorem ax_df_X8 {g : AG} (j : Nat) (hj : j < 7) : defaultValue (tyX8 j) = vp_V (ax_fs g (fun _ => 0) (fun _ => 0) (fun _ => 0) 7) j := by rw [ax_fs0]; exact ax_d0_X8 j hj
theorem ax_d0_X9 : ∀ j, j < 13 → defaultValue (tyX9 j) = vp_V ((ax_ft 8).map ax_dv) j := by decide +kernel
theorem ax_df_X9 {g : AG} (j : Nat) (hj : j < 13) : defaultValue (tyX9 j) = vp_V (ax_fs g (fun _ => 0) (fun _ => 0) (fun _ => 0) 8) j := by rw [ax_fs0]; exact ax_d0_X9 j hj
theorem ax_d0_X10 : ∀ j, j < 22 → defaultValue (tyX10 j) = vp_V ((ax_ft 9).map ax_dv) j := by decide +kernel
theorem ax_df_X10 {g : AG} (j : Nat) (hj : j < 22) : defaultValue (tyX10 j) = vp_V (ax_fs g (fun _ => 0) (fun _ => 0) (fun _ => 0) 9) j := by rw [ax_fs0]; exact ax_d0_X10 j hj
theorem ax_d0_X11 : ∀ j, j < 8 → defaultValue (tyX11 j) = vp_V ((ax_ft 10).map ax_dv) j := by decide +kernel
theorem ax_df_X11 {g : AG} (j : Nat) (hj : j < 8) : defaultValue (tyX11 j) = vp_V (ax_fs g (fun _ => 0) (fun _ => 0) (fun _ => 0) 10) j := by rw [ax_fs0]; exact ax_d0_X11 j hj
theorem ax_d0_X12 : ∀ j, j < 56 → defaultValue (tyX12 j) = vp_V ((ax_ft 11).map ax_dv) j := by decide +kernel
theorem ax_df_X12 {g : AG} (j : Nat) (hj : j < 56) : defaultValue (tyX12 j) = vp_V (ax_fs g (fun _ => 0) (fun _ => 0) (fun _ => 0) 11) j := by rw [ax_fs0]; exact ax_d0_X12 j hj
