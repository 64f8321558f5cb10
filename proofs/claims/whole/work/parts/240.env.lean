def ax_ir : List Nat := [277, 203, 146, 205, 273, 163, 278, 125, 177, 271, 275, 216, 178, 175]
def ax_im : List Nat := [306, 289, 278, 262, 302, 280, 308, 273, 212, 300, 304, 255, 211, 227]
def ax_tm (i : Nat) : Term := .string "WindowHouse$Reader" (ax_ir.getD i 0)
def ax_tn (i : Nat) : Term := .string "WindowHouseModel" (ax_im.getD i 0)
def ax_fl : List Cond := flatC (Jvm.Cond.and given_1 narrow_1)
theorem fm_ex : ∀ i, i < 14 → Cond.exactly (ax_tm i) "java/lang/String" ∈ ax_fl := by decide +kernel
theorem fm_co : ∀ i, i < 14 → Cond.eq (.field (ax_tm i) "java/lang/String" "coder" "B") (.int 0) ∈ ax_fl := by decide +kernel
theorem fm_ar : ∀ i, i < 14 → Cond.arrayOf (.field (ax_tm i) "java/lang/String" "value" "[B") .byte ∈ ax_fl := by decide +kernel
theorem fm_le : ∀ i, i < 14 → Cond.eq (.length (.field (ax_tm i) "java/lang/String" "value" "[B")) (.int (Int32.ofNat (ax_sl.getD i 0))) ∈ ax_fl := by decide +kernel
theorem fm_el : ∀ i, i < 14 → ∀ j, j < ax_sl.getD i 0 → Cond.eq (.elem (.field (ax_tm i) "java/lang/String" "value" "[B") (.int (Int32.ofNat j))) (.int ((ax_sb.getD i []).getD j 0)) ∈ ax_fl := by decide +kernel
theorem fm_eq : ∀ i, i < 14 → Cond.eq (ax_tm i) (ax_tn i) ∈ ax_fl := by decide +kernel
theorem fm_cs : Cond.eq (.static "java/lang/String" "COMPACT_STRINGS" "Z") (.int 1) ∈ ax_fl := by decide +kernel
theorem fm_f0 : Cond.isRef (.static "jdk/internal/util/Preconditions" "SIOOBE_FORMATTER" "Ljava/util/function/BiFunction;") ∈ ax_fl := by decide +kernel
theorem fm_f1 : Cond.isRef (.static "java/lang/Throwable" "UNASSIGNED_STACK" "[Ljava/lang/StackTraceElement;") ∈ ax_fl := by decide +kernel
theorem fm_f2 : Cond.isRef (.static "java/lang/Throwable" "SUPPRESSED_SENTINEL" "Ljava/util/List;") ∈ ax_fl := by decide +kernel
theorem st_one : ∀ i, i < 14 → ∀ j, j < 14 → ax_sl.getD i 0 = ax_sl.getD j 0 → (∀ t, t < ax_sl.getD i 0 → (ax_sb.getD i []).getD t 0 = (ax_sb.getD j []).getD t 0) → i = j := by decide +kernel
theorem eq_refs {args : Array Value} {s : State} {t u : Term} {a : Nat} (h : (Cond.eq t u).before args s = true) (ht : t.eval args s none [] s = some (.ref a)) : u.eval args s none [] s = some (.ref a) := by
  cases hv : u.eval args s none [] s with
  | none => simp [Cond.before, Cond.holds, Cond.value, hv, ht] at h
  | some w =>
    simp only [Cond.before, Cond.holds, Cond.value, hv, ht] at h
    cases w <;> simp_all
theorem env_str {args : Array Value} {s : State} {A : Nat → Prop} (hg : ∀ c ∈ ax_fl, c.before args s = true) (hA : ∀ a : Nat, a < s.heap.size → ¬ A a) : ∃ adK adV : Nat → Nat, vk_S 14 ax_sl ax_sb adK adV A s s.heap ∧ ∀ i : Nat, i < 14 → (ax_tm i).eval args s none [] s = some (.ref (adK i)) := by
  have h0 : ∀ i : Nat, ∃ q : Nat × Nat, i < 14 → (ax_tm i).eval args s none [] s = some (.ref q.1) ∧ va_O "java/lang/String" q.1 A s s.heap ∧ va_OF "java/lang/String" "coder" "B" (.int 0) q.1 A s s.heap ∧ va_OF "java/lang/String" "value" "[B" (.ref q.2) q.1 A s s.heap ∧ va_T .byte q.2 (ax_sl.getD i 0) (fun j => .int ((ax_sb.getD i []).getD j 0)) A s s.heap := by
    intro i
    by_cases hi : i < 14
    · obtain ⟨a, c, cA, kA, q1, q2, q3, q4, q5, q6, -⟩ := Cond.exactly_spec (args := args) (first := s) (o := none) (s := s) (idx := []) (t := ax_tm i) (cls := "java/lang/String") (hg _ (fm_ex i hi))
      obtain ⟨t, ht, hT⟩ := va_Tof (f := fun j => .int ((ax_sb.getD i []).getD j 0)) (A := A) (Nat.lt_trans (ax_sl_ok i hi) (by decide)) (hg _ (fm_ar i hi)) (va_eqt (hg _ (fm_le i hi))) (fun j hj => va_eqt (hg _ (fm_el i hi j hj))) hA
      exact ⟨(a, t), fun _ => ⟨q1, ⟨cA, q3, q5, by rw [q6]; exact q2, hA a (Array.getElem?_eq_some_iff.mp q3).1⟩, vk_OFof q1 (va_eqt (hg _ (fm_co i hi))) hA, vk_OFof q1 ht hA, hT⟩⟩
    · exact ⟨(0, 0), fun h => absurd h hi⟩
  obtain ⟨ad, had⟩ := Classical.axiomOfChoice h0
  refine ⟨fun i => (ad i).1, fun i => (ad i).2, ⟨fun i hi => (had i hi).2, fun i j hi hj e => ?_⟩, fun i hi => (had i hi).1⟩
  have e1 : (ad i).1 = (ad j).1 := e
  obtain ⟨-, -, -, ⟨cf, k, fi, f, cell, a1, a2, a3, a4, a5, a6⟩, hTi⟩ := had i hi
  obtain ⟨-, -, -, ⟨cf2, k2, fi2, f2, cell2, b1, b2, b3, b4, b5, b6⟩, hTj⟩ := had j hj
  cases Option.some.inj (a1.symm.trans b1)
  rw [e1] at a3
  cases Option.some.inj (a3.symm.trans b3)
  have e2 : (ad i).2 = (ad j).2 := Value.ref.inj (Option.some.inj (a5.symm.trans b5))
  obtain ⟨ci, x1, x2, x3, x4, x5, x6, -⟩ := hTi
  obtain ⟨cj, y1, y2, y3, y4, y5, y6, -⟩ := hTj
  rw [e2] at x1
  cases Option.some.inj (x1.symm.trans y1)
  have n1 := ax_sl_ok i hi
  have n2 := ax_sl_ok j hj
  have e3 : ax_sl.getD i 0 = ax_sl.getD j 0 := (nI_eq (by omega) (by omega)).mp (show nI _ = nI _ from x5.symm.trans y5)
  refine st_one i hi j hj e3 (fun t ht => ?_)
  exact Value.int.inj (Option.some.inj ((x6 t ht).symm.trans (y6 t (by rw [← e3]; exact ht))))
theorem ao_0 : (Cond.arrayOver (.object RX0) : Cond) ∈ lw_tbl := tw_c1 (List.mem_of_getElem? (i := 34) rfl)
theorem ao_1 : (Cond.arrayOver (.object RX10) : Cond) ∈ lw_tbl := tw_c5 (List.mem_of_getElem? (i := 199) rfl)
theorem ls_cs : (Cond.laysStatic "java/lang/String" "COMPACT_STRINGS" "Z" : Cond) ∈ lw_tbl := tw_c3 (List.mem_of_getElem? (i := 18) rfl)
theorem li_cs : (Cond.initialized "java/lang/String" : Cond) ∈ lw_tbl := tw_c1 (List.mem_of_getElem? (i := 17) rfl)
theorem ls_f0 : (Cond.laysStatic "jdk/internal/util/Preconditions" "SIOOBE_FORMATTER" "Ljava/util/function/BiFunction;" : Cond) ∈ lw_tbl := tw_c3 (List.mem_of_getElem? (i := 34) rfl)
theorem li_f0 : (Cond.initialized "jdk/internal/util/Preconditions" : Cond) ∈ lw_tbl := tw_c1 (List.mem_of_getElem? (i := 19) rfl)
theorem ls_f1 : (Cond.laysStatic "java/lang/Throwable" "UNASSIGNED_STACK" "[Ljava/lang/StackTraceElement;" : Cond) ∈ lw_tbl := tw_c5 (List.mem_of_getElem? (i := 152) rfl)
theorem li_f1 : (Cond.initialized "java/lang/Throwable" : Cond) ∈ lw_tbl := tw_c1 (List.mem_of_getElem? (i := 12) rfl)
theorem ls_f2 : (Cond.laysStatic "java/lang/Throwable" "SUPPRESSED_SENTINEL" "Ljava/util/List;" : Cond) ∈ lw_tbl := tw_c5 (List.mem_of_getElem? (i := 154) rfl)
theorem li_f2 : (Cond.initialized "java/lang/Throwable" : Cond) ∈ lw_tbl := tw_c1 (List.mem_of_getElem? (i := 12) rfl)
theorem sr_X12_211 : (Cond.stringRef "WindowHouseModel" 211 "var" : Cond) ∈ lw_tbl := tw_c7 (List.mem_of_getElem? (i := 40) rfl)
theorem sr_X12_212 : (Cond.stringRef "WindowHouseModel" 212 "kept" : Cond) ∈ lw_tbl := tw_c7 (List.mem_of_getElem? (i := 50) rfl)
theorem sr_X12_227 : (Cond.stringRef "WindowHouseModel" 227 "window" : Cond) ∈ lw_tbl := tw_c7 (List.mem_of_getElem? (i := 70) rfl)
theorem sr_X12_255 : (Cond.stringRef "WindowHouseModel" 255 "show" : Cond) ∈ lw_tbl := tw_c7 (List.mem_of_getElem? (i := 75) rfl)
theorem sr_X12_262 : (Cond.stringRef "WindowHouseModel" 262 "button" : Cond) ∈ lw_tbl := tw_c7 (List.mem_of_getElem? (i := 80) rfl)
theorem sr_X12_273 : (Cond.stringRef "WindowHouseModel" 273 "if" : Cond) ∈ lw_tbl := tw_c7 (List.mem_of_getElem? (i := 81) rfl)
theorem sr_X12_278 : (Cond.stringRef "WindowHouseModel" 278 "and" : Cond) ∈ lw_tbl := tw_c7 (List.mem_of_getElem? (i := 86) rfl)
theorem sr_X12_280 : (Cond.stringRef "WindowHouseModel" 280 "do" : Cond) ∈ lw_tbl := tw_c7 (List.mem_of_getElem? (i := 87) rfl)
theorem sr_X12_289 : (Cond.stringRef "WindowHouseModel" 289 "after" : Cond) ∈ lw_tbl := tw_c7 (List.mem_of_getElem? (i := 101) rfl)
theorem sr_X12_300 : (Cond.stringRef "WindowHouseModel" 300 "open" : Cond) ∈ lw_tbl := tw_c7 (List.mem_of_getElem? (i := 96) rfl)
theorem sr_X12_302 : (Cond.stringRef "WindowHouseModel" 302 "close" : Cond) ∈ lw_tbl := tw_c7 (List.mem_of_getElem? (i := 97) rfl)
theorem sr_X12_304 : (Cond.stringRef "WindowHouseModel" 304 "set" : Cond) ∈ lw_tbl := tw_c7 (List.mem_of_getElem? (i := 98) rfl)
theorem sr_X12_306 : (Cond.stringRef "WindowHouseModel" 306 "add" : Cond) ∈ lw_tbl := tw_c7 (List.mem_of_getElem? (i := 99) rfl)
theorem sr_X12_308 : (Cond.stringRef "WindowHouseModel" 308 "fault" : Cond) ∈ lw_tbl := tw_c7 (List.mem_of_getElem? (i := 100) rfl)
theorem sr_X7_125 : (Cond.stringRef "WindowHouse$Reader" 125 "if" : Cond) ∈ lw_tbl := tw_c3 (List.mem_of_getElem? (i := 138) rfl)
theorem sr_X7_146 : (Cond.stringRef "WindowHouse$Reader" 146 "and" : Cond) ∈ lw_tbl := tw_c3 (List.mem_of_getElem? (i := 161) rfl)
theorem sr_X7_163 : (Cond.stringRef "WindowHouse$Reader" 163 "do" : Cond) ∈ lw_tbl := tw_c3 (List.mem_of_getElem? (i := 143) rfl)
theorem sr_X7_175 : (Cond.stringRef "WindowHouse$Reader" 175 "window" : Cond) ∈ lw_tbl := tw_c3 (List.mem_of_getElem? (i := 4) rfl)
theorem sr_X7_177 : (Cond.stringRef "WindowHouse$Reader" 177 "kept" : Cond) ∈ lw_tbl := tw_c3 (List.mem_of_getElem? (i := 61) rfl)
theorem sr_X7_178 : (Cond.stringRef "WindowHouse$Reader" 178 "var" : Cond) ∈ lw_tbl := tw_c3 (List.mem_of_getElem? (i := 62) rfl)
theorem sr_X7_203 : (Cond.stringRef "WindowHouse$Reader" 203 "after" : Cond) ∈ lw_tbl := tw_c3 (List.mem_of_getElem? (i := 111) rfl)
theorem sr_X7_205 : (Cond.stringRef "WindowHouse$Reader" 205 "button" : Cond) ∈ lw_tbl := tw_c3 (List.mem_of_getElem? (i := 112) rfl)
theorem sr_X7_216 : (Cond.stringRef "WindowHouse$Reader" 216 "show" : Cond) ∈ lw_tbl := tw_c3 (List.mem_of_getElem? (i := 113) rfl)
theorem sr_X7_271 : (Cond.stringRef "WindowHouse$Reader" 271 "open" : Cond) ∈ lw_tbl := tw_c3 (List.mem_of_getElem? (i := 179) rfl)
theorem sr_X7_273 : (Cond.stringRef "WindowHouse$Reader" 273 "close" : Cond) ∈ lw_tbl := tw_c3 (List.mem_of_getElem? (i := 180) rfl)
theorem sr_X7_275 : (Cond.stringRef "WindowHouse$Reader" 275 "set" : Cond) ∈ lw_tbl := tw_c3 (List.mem_of_getElem? (i := 181) rfl)
theorem sr_X7_277 : (Cond.stringRef "WindowHouse$Reader" 277 "add" : Cond) ∈ lw_tbl := tw_c3 (List.mem_of_getElem? (i := 182) rfl)
theorem sr_X7_278 : (Cond.stringRef "WindowHouse$Reader" 278 "fault" : Cond) ∈ lw_tbl := tw_c3 (List.mem_of_getElem? (i := 183) rfl)
theorem vk_R_of2 {own tx : String} {k a : Nat} {args : Array Value} {U : State} (h1 : (Cond.stringRef own k tx).before args U = true) (h2 : (Term.string own k).eval args U none [] U = some (.ref a)) : vk_R own k tx a U := vk_R.of h1 h2
theorem env_st {args : Array Value} {s : State} {C n d : String} {A : Nat → Prop} (hl : (Cond.laysStatic C n d).before args s = true) (hini : (Cond.initialized C).before args s = true) (h : (Cond.isRef (.static C n d)).before args s = true) (hA : ∀ a : Nat, a < s.heap.size → ¬ A a) : ∃ (b : Bool) (t : Nat), va_Z C n d (if b then .ref t else .null) A s s.heap := by
  rcases va_Zqof hl hini h hA with h | ⟨t, h⟩
  · exact ⟨false, 0, h⟩
  · exact ⟨true, t, h⟩
theorem env_arr {args : Array Value} {s : State} {ty : FieldType} (h : (Cond.arrayClass ty).before args s = true) : ∃ cA : ClassId, ArrOfT s cA ty ∧ s.vm.findClass ("[" ++ ty.toString) = some cA := by
  obtain ⟨c, k, comp, h1, h2, h3⟩ := Cond.arrayClass_spec h
  exact ⟨c, fun n z => ⟨fun k h => (by cases h), k, h2, comp, h3⟩, h1⟩
theorem env_ao {args : Array Value} {s : State} {C : String} (h : (Cond.arrayOver (.object C)).before args s = true) : ∃ cA : ClassId, ArrOfT s cA (.object C) ∧ va_RA s cA (.object C) := by
  obtain ⟨comp, c, k, h1, h2, h3, h4, h5⟩ := Cond.arrayOver_spec h
  exact ⟨c, fun n z => ⟨fun k h => (by cases h), k, h3, comp, h4⟩, k, comp, h3, h4, h1, h5⟩
set_option maxHeartbeats 4000000 in
set_option maxRecDepth 100000 in
/-- from the law's entry: the words of the Statement as ax_E -/
theorem env_all {args : Array Value} {s : State} (hts : ∀ w ∈ lw_tbl, w.before args s = true) (hg : ∀ c ∈ ax_fl, c.before args s = true) (hsz : 0 < s.heap.size) (b : Nat) : ∃ g : AG, ax_E g s ∧ g.2.2.1 + 0 + 1 = s.heap.size ∧ ax_a g 4000 = b := by
  have htg : ∀ w ∈ ax_G, w.before args s = true := fun w h => hts w (List.mem_filter.mp h).1
  obtain ⟨c0, iS0, hKn0⟩ := u_known (C := RX0) (T := TX0) (N := 19) (n := 19) hts in_X0 (htg _ inst_X0)
  obtain ⟨c1, iS1, hKn1⟩ := u_known (C := RX1) (T := TX1) (N := 9) (n := 9) hts in_X1 (htg _ inst_X1)
  obtain ⟨c2, iS2, hKn2⟩ := u_known (C := RX2) (T := TX2) (N := 6) (n := 6) hts in_X2 (htg _ inst_X2)
  obtain ⟨c3, iS3, hKn3⟩ := u_known (C := RX4) (T := TX4) (N := 4) (n := 4) hts in_X4 (htg _ inst_X4)
  obtain ⟨c4, iS4, hKn4⟩ := u_known (C := RX5) (T := TX5) (N := 4) (n := 4) hts in_X5 (htg _ inst_X5)
  obtain ⟨c5, iS5, hKn5⟩ := u_known (C := RX6) (T := TX6) (N := 7) (n := 7) hts in_X6 (htg _ inst_X6)
  obtain ⟨c6, iS6, hKn6⟩ := u_known (C := RX7) (T := TX7) (N := 15) (n := 15) hts in_X7 (htg _ inst_X7)
  obtain ⟨c7, iS7, hKn7⟩ := u_known (C := RX8) (T := TX8) (N := 7) (n := 7) hts in_X8 (htg _ inst_X8)
  obtain ⟨c8, iS8, hKn8⟩ := u_known (C := RX9) (T := TX9) (N := 13) (n := 13) hts in_X9 (htg _ inst_X9)
  obtain ⟨c9, iS9, hKn9⟩ := u_known (C := RX10) (T := TX10) (N := 22) (n := 22) hts in_X10 (htg _ inst_X10)
  obtain ⟨c10, iS10, hKn10⟩ := u_known (C := RX11) (T := TX11) (N := 8) (n := 8) hts in_X11 (htg _ inst_X11)
  obtain ⟨c11, iS11, hKn11⟩ := u_known (C := RX12) (T := TX12) (N := 56) (n := 56) hts in_X12 (htg _ inst_X12)
  obtain ⟨a0, hA0, hB0⟩ := env_arr (htg _ ac_int)
  obtain ⟨a1, hA1, hB1⟩ := env_arr (htg _ ac_long)
  obtain ⟨a2, hA2, hB2⟩ := env_arr (htg _ ac_byte)
  obtain ⟨a3, hA3, hB3⟩ := env_arr (htg _ ac_boolean)
  obtain ⟨a4, hA4, hB4⟩ := env_ao (hts _ ao_0)
  obtain ⟨a5, hA5, hB5⟩ := env_ao (hts _ ao_1)
  obtain ⟨A, hAe⟩ : ∃ A : Nat → Prop, A = fun q => s.heap.size - 1 < q := ⟨_, rfl⟩
  have hA : ∀ a : Nat, a < s.heap.size → ¬ A a := fun a ha h => by rw [hAe] at h; have h2 : s.heap.size - 1 < a := h; omega
  obtain ⟨adK, adV, hS, hev⟩ := env_str (A := A) hg hA
  obtain ⟨b0, t0, hZ0⟩ := env_st (hts _ ls_f0) (hts _ li_f0) (hg _ fm_f0) hA
  obtain ⟨b1, t1, hZ1⟩ := env_st (hts _ ls_f1) (hts _ li_f1) (hg _ fm_f1) hA
  obtain ⟨b2, t2, hZ2⟩ := env_st (hts _ ls_f2) (hts _ li_f2) (hg _ fm_f2) hA
  have hZc := va_Zof (v := .int 1) (A := A) (hts _ ls_cs) (hts _ li_cs) (va_eqt (hg _ fm_cs)) hA
  obtain ⟨g, hge⟩ : ∃ g : AG, g = ((fun k => [c0, c1, c2, c3, c4, c5, c6, c7, c8, c9, c10, c11].getD k c0, fun k => [iS0, iS1, iS2, iS3, iS4, iS5, iS6, iS7, iS8, iS9, iS10, iS11].getD k iS0), fun k => [a0, a1, a2, a3, a4, a5].getD k a0, s.heap.size - 1, adK, adV, fun j => [b0, b1, b2].getD j false, fun j => if j = 1000 then b else [t0, t1, t2].getD j 0) := ⟨_, rfl⟩
  have hAg : ax_A g = A := by rw [hAe, hge]; rfl
  refine ⟨g, ⟨⟨fun k q hq => ?_, fun k q hq => ?_⟩, fun w hw => ?_, ?_, fun q hq => ?_, ?_, ?_, ?_, ?_, ?_, ?_, ?_, ?_⟩, ?_, ?_⟩
  · rw [hge]
    match k, hq with
    | 0, hq => cases hq; exact hKn0
    | 1, hq => cases hq; exact hKn1
    | 2, hq => cases hq; exact hKn2
    | 3, hq => cases hq; exact hKn3
    | 4, hq => cases hq; exact hKn4
    | 5, hq => cases hq; exact hKn5
    | 6, hq => cases hq; exact hKn6
    | 7, hq => cases hq; exact hKn7
    | 8, hq => cases hq; exact hKn8
    | 9, hq => cases hq; exact hKn9
    | 10, hq => cases hq; exact hKn10
    | 11, hq => cases hq; exact hKn11
    | k + 12, hq => simp [vwCl] at hq
  · rw [hge] at hq
    match k, hq with
    | 0, hq => cases hq; exact ⟨hA0, hB0⟩
    | 1, hq => cases hq; exact ⟨hA1, hB1⟩
    | 2, hq => cases hq; exact ⟨hA2, hB2⟩
    | 3, hq => cases hq; exact ⟨hA3, hB3⟩
    | 4, hq => cases hq; exact ⟨hA4, hB4⟩
    | 5, hq => cases hq; exact ⟨hA5, hB5⟩
    | k + 6, hq => simp [ax_ty] at hq
  · exact va_Nw.of (ax_nw_on hw) (hts w (List.mem_filter.mp hw).1)
  · rw [hAg, hge]; exact hS
  · rw [hge]
    simp only [ax_sr, List.mem_cons, List.not_mem_nil, or_false] at hq
    rcases hq with rfl | rfl | rfl | rfl | rfl | rfl | rfl | rfl | rfl | rfl | rfl | rfl | rfl | rfl | rfl | rfl | rfl | rfl | rfl | rfl | rfl | rfl | rfl | rfl | rfl | rfl | rfl | rfl
    · exact vk_R_of2 (hts _ sr_X12_211) (eq_refs (hg _ (fm_eq 12 (by decide))) (hev 12 (by decide)))
    · exact vk_R_of2 (hts _ sr_X12_212) (eq_refs (hg _ (fm_eq 8 (by decide))) (hev 8 (by decide)))
    · exact vk_R_of2 (hts _ sr_X12_227) (eq_refs (hg _ (fm_eq 13 (by decide))) (hev 13 (by decide)))
    · exact vk_R_of2 (hts _ sr_X12_255) (eq_refs (hg _ (fm_eq 11 (by decide))) (hev 11 (by decide)))
    · exact vk_R_of2 (hts _ sr_X12_262) (eq_refs (hg _ (fm_eq 3 (by decide))) (hev 3 (by decide)))
    · exact vk_R_of2 (hts _ sr_X12_273) (eq_refs (hg _ (fm_eq 7 (by decide))) (hev 7 (by decide)))
    · exact vk_R_of2 (hts _ sr_X12_278) (eq_refs (hg _ (fm_eq 2 (by decide))) (hev 2 (by decide)))
    · exact vk_R_of2 (hts _ sr_X12_280) (eq_refs (hg _ (fm_eq 5 (by decide))) (hev 5 (by decide)))
    · exact vk_R_of2 (hts _ sr_X12_289) (eq_refs (hg _ (fm_eq 1 (by decide))) (hev 1 (by decide)))
    · exact vk_R_of2 (hts _ sr_X12_300) (eq_refs (hg _ (fm_eq 9 (by decide))) (hev 9 (by decide)))
    · exact vk_R_of2 (hts _ sr_X12_302) (eq_refs (hg _ (fm_eq 4 (by decide))) (hev 4 (by decide)))
    · exact vk_R_of2 (hts _ sr_X12_304) (eq_refs (hg _ (fm_eq 10 (by decide))) (hev 10 (by decide)))
    · exact vk_R_of2 (hts _ sr_X12_306) (eq_refs (hg _ (fm_eq 0 (by decide))) (hev 0 (by decide)))
    · exact vk_R_of2 (hts _ sr_X12_308) (eq_refs (hg _ (fm_eq 6 (by decide))) (hev 6 (by decide)))
    · exact vk_R_of2 (hts _ sr_X7_125) (hev 7 (by decide))
    · exact vk_R_of2 (hts _ sr_X7_146) (hev 2 (by decide))
    · exact vk_R_of2 (hts _ sr_X7_163) (hev 5 (by decide))
    · exact vk_R_of2 (hts _ sr_X7_175) (hev 13 (by decide))
    · exact vk_R_of2 (hts _ sr_X7_177) (hev 8 (by decide))
    · exact vk_R_of2 (hts _ sr_X7_178) (hev 12 (by decide))
    · exact vk_R_of2 (hts _ sr_X7_203) (hev 1 (by decide))
    · exact vk_R_of2 (hts _ sr_X7_205) (hev 3 (by decide))
    · exact vk_R_of2 (hts _ sr_X7_216) (hev 11 (by decide))
    · exact vk_R_of2 (hts _ sr_X7_271) (hev 9 (by decide))
    · exact vk_R_of2 (hts _ sr_X7_273) (hev 4 (by decide))
    · exact vk_R_of2 (hts _ sr_X7_275) (hev 10 (by decide))
    · exact vk_R_of2 (hts _ sr_X7_277) (hev 0 (by decide))
    · exact vk_R_of2 (hts _ sr_X7_278) (hev 6 (by decide))
  · rw [hAg]; exact hZc
  · rw [hAg, hge]
    cases b0 <;> exact hZ0
  · rw [hAg, hge]
    cases b1 <;> exact hZ1
  · rw [hAg, hge]
    cases b2 <;> exact hZ2
  · exact va_AO.of (hts _ ao_0)
  · exact va_AO.of (hts _ ao_1)
  · rw [hAg]; exact vx_Zqof (hts _ ls_f1) (hts _ li_f1) (hg _ fm_f1) hA
  · rw [hAg]; exact vx_Zqof (hts _ ls_f2) (hts _ li_f2) (hg _ fm_f2) hA
  · rw [hge]; show s.heap.size - 1 + 0 + 1 = s.heap.size; omega
  · rw [hge]; rfl
