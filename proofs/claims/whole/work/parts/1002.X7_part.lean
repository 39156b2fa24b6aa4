def ex_X7_part (d : Dp) (σ : Sg) (h0 : Nat) (p1 : Int32) (p2 : Int32) (p3 : Int32) : Option (Int32 × Sg) := (if p1 < (0 : Int32) then some ((-1 : Int32), σ) else (if gc σ h0 = 9 then (if (gi σ 804 h0) ≤ p1 then some ((-1 : Int32), σ) else (if p2 < (0 : Int32) then some ((-1 : Int32), σ) else (if p2 ≤ (2 : Int32) then (b2 (ex_X7_join d σ h0 p1 p2 p3) fun r8 s7 => some ((0 : Int32), s7)) else some ((-1 : Int32), σ)))) else none))
set_option maxHeartbeats 4000000 in
set_option maxRecDepth 20000 in
theorem m_X7_part {l : Launch} {d : Dp} {σ σ' : Sg} {h0 : Nat} {p1 : Int32} {p2 : Int32} {p3 : Int32} {r : Int32} (h : ex_X7_part d σ h0 p1 p2 p3 = some (r, σ')) : Mt l d yX7_part cX7_part 4 (some .int) 2 45 σ [.ref h0, .int (p1), .int (p2), .int (p3)] (some (.int r)) σ' 0 0 := by
  refine mt_start (own := RX7) (lv0 := [(0, va_rf (some h0)), (1, .int (p1)), (2, .int (p2)), (3, .int (p3))]) (by decide) rfl (by simp only [lg_sl, List.flatMap_cons, List.flatMap_nil, va_rf_cat]; exact Nat.le_of_ble_eq_true rfl) (by first | rfl | (simp only [lv_args, va_rf_cat]; rfl)) ?_
  intro p e s m args below meth c E hnm
  unfold ex_X7_part at h
  refine r_iload_n E (i := 1) (j := 1) dX7_part_0 rfl rfl ?_
  refine r_if_lt E (tgt := 21) dX7_part_1 (by decide) (fun c1 => ?_) (fun c1 => ?_)
  · have h := ift c1 h
    obtain ⟨rfl, rfl⟩ := lf2 h
    refine r_iconst E dX7_part_21 (v := -1) (by decide) ?_
    exact r_iret E dX7_part_22
  · have h := iff' c1 h
    obtain ⟨g2, h⟩ := ck h
    refine r_iload_n E (i := 1) (j := 1) dX7_part_4 rfl rfl ?_
    refine r_aload_n E (x := some h0) (i := 0) (j := 0) dX7_part_5 rfl rfl ?_
    refine gf_X7_64 E (x := gi σ 804 h0) dX7_part_6 rfl g2 rfl ?_
    refine r_icmp_ge E (tgt := 21) dX7_part_9 (by decide) (fun c3 => ?_) (fun c3 => ?_)
    · have h := ift c3 h
      obtain ⟨rfl, rfl⟩ := lf2 h
      refine r_iconst E dX7_part_21 (v := -1) (by decide) ?_
      exact r_iret E dX7_part_22
    · have h := iff' c3 h
      refine r_iload_n E (i := 2) (j := 2) dX7_part_12 rfl rfl ?_
      refine r_if_lt E (tgt := 21) dX7_part_13 (by decide) (fun c4 => ?_) (fun c4 => ?_)
      · have h := ift c4 h
        obtain ⟨rfl, rfl⟩ := lf2 h
        refine r_iconst E dX7_part_21 (v := -1) (by decide) ?_
        exact r_iret E dX7_part_22
      · have h := iff' c4 h
        refine r_iload_n E (i := 2) (j := 2) dX7_part_16 rfl rfl ?_
        refine r_iconst E dX7_part_17 (v := 2) (by decide) ?_
        refine r_icmp_le E (tgt := 23) dX7_part_18 (by decide) (fun c5 => ?_) (fun c5 => ?_)
        · have h := ift c5 h
          obtain ⟨r8, s7, hc6, h⟩ := nb2 h
          obtain ⟨rfl, rfl⟩ := lf2 h
          refine r_aload_n E (x := some h0) (i := 0) (j := 0) dX7_part_23 rfl rfl ?_
          refine r_iload_n E (i := 1) (j := 1) dX7_part_24 rfl rfl ?_
          refine r_iload_n E (i := 2) (j := 2) dX7_part_25 rfl rfl ?_
          refine r_iload_n E (i := 3) (j := 3) dX7_part_26 rfl rfl ?_
          refine cl_X7_71 E (m_X7_join hc6) dX7_part_27 ⟨Nat.le_of_ble_eq_true rfl, Nat.le_of_ble_eq_true rfl⟩ ⟨by first | decide | omega | (dsimp only; omega), by first | decide | omega | (dsimp only; omega)⟩ (by decide) rfl g2 ?_
          refine r_iconst E dX7_part_30 (v := 0) (by decide) ?_
          exact r_iret E dX7_part_31
        · have h := iff' c5 h
          obtain ⟨rfl, rfl⟩ := lf2 h
          refine r_iconst E dX7_part_21 (v := -1) (by decide) ?_
          exact r_iret E dX7_part_22
def ex_X7_number (d : Dp) (σ : Sg) (h0 : Nat) (p1 : Int32) (p2 : Int32) : Option (Int32 × Sg) := (if gc σ h0 = 9 then (Option.bind (gp σ 802 h0) fun a2 => (if gc σ a2 = 10 then (if ¬ ((((3 : Int32) * p1) + p2) < 0 ∨ gl σ a2 ≤ Int32.toNatClampNeg (((3 : Int32) * p1) + p2)) then some (ai σ a2 (Int32.toNatClampNeg (((3 : Int32) * p1) + p2)), σ) else none) else none)) else none)
set_option maxHeartbeats 4000000 in
set_option maxRecDepth 20000 in
theorem m_X7_number {l : Launch} {d : Dp} {σ σ' : Sg} {h0 : Nat} {p1 : Int32} {p2 : Int32} {r : Int32} (h : ex_X7_number d σ h0 p1 p2 = some (r, σ')) : Mt l d yX7_number cX7_number 3 (some .int) 0 0 σ [.ref h0, .int (p1), .int (p2)] (some (.int r)) σ' 0 0 := by
  refine mt_start (own := RX7) (lv0 := [(0, va_rf (some h0)), (1, .int (p1)), (2, .int (p2))]) (by decide) rfl (by simp only [lg_sl, List.flatMap_cons, List.flatMap_nil, va_rf_cat]; exact Nat.le_of_ble_eq_true rfl) (by first | rfl | (simp only [lv_args, va_rf_cat]; rfl)) ?_
  intro p e s m args below meth c E hnm
  unfold ex_X7_number at h
  obtain ⟨g1, h⟩ := ck h
  obtain ⟨a2, e3, h⟩ := nn h
  obtain ⟨g4, h⟩ := ck h
  obtain ⟨g5, h⟩ := ck h
  obtain ⟨rfl, rfl⟩ := lf2 h
  refine r_aload_n E (x := some h0) (i := 0) (j := 0) dX7_number_0 rfl rfl ?_
  refine gf_X7_16 E (x := gp σ 802 h0) dX7_number_1 rfl g1 rfl ?_
  refine r_iconst E dX7_number_4 (v := 3) (by decide) ?_
  refine r_iload_n E (i := 1) (j := 1) dX7_number_5 rfl rfl ?_
  refine r_imul E dX7_number_6 ?_
  refine r_iload_n E (i := 2) (j := 2) dX7_number_7 rfl rfl ?_
  refine r_iadd E dX7_number_8 ?_
  refine r_iald E dX7_number_9 e3 g4 g5 ?_
  exact r_iret E dX7_number_10
def ex_X7_make (d : Dp) (σ : Sg) (h0 : Nat) (p1 : Int32) (p2 : Int64) (p3 : Int32) (p4 : Int32) : Option (Int32 × Sg) := (if gc σ h0 = 9 then (bn (si σ 809 h0 ((gi σ 809 h0) + (1 : Int32))) fun s2 => (if gc s2 h0 = 9 then (Option.bind (gp s2 805 h0) fun a5 => (if gc s2 a5 = 10 then (if ¬ ((gi σ 809 h0) < 0 ∨ gl s2 a5 ≤ Int32.toNatClampNeg (gi σ 809 h0)) then (bn (wi s2 a5 (Int32.toNatClampNeg (gi σ 809 h0)) p1) fun s9 => (if gc s9 h0 = 9 then (Option.bind (gp s9 808 h0) fun a12 => (if gc s9 a12 = 11 then (if ¬ ((gi σ 809 h0) < 0 ∨ gl s9 a12 ≤ Int32.toNatClampNeg (gi σ 809 h0)) then (bn (wj s9 a12 (Int32.toNatClampNeg (gi σ 809 h0)) p2) fun s16 => (if gc s16 h0 = 9 then (Option.bind (gp s16 806 h0) fun a19 => (if gc s16 a19 = 10 then (if ¬ ((gi σ 809 h0) < 0 ∨ gl s16 a19 ≤ Int32.toNatClampNeg (gi σ 809 h0)) then (bn (wi s16 a19 (Int32.toNatClampNeg (gi σ 809 h0)) p3) fun s23 => (if gc s23 h0 = 9 then (Option.bind (gp s23 807 h0) fun a26 => (if gc s23 a26 = 10 then (if ¬ ((gi σ 809 h0) < 0 ∨ gl s23 a26 ≤ Int32.toNatClampNeg (gi σ 809 h0)) then (bn (wi s23 a26 (Int32.toNatClampNeg (gi σ 809 h0)) p4) fun s30 => some (gi σ 809 h0, s30)) else none) else none)) else none)) else none) else none)) else none)) else none) else none)) else none)) else none) else none)) else none)) else none)
set_option maxHeartbeats 4000000 in
set_option maxRecDepth 20000 in
theorem m_X7_make {l : Launch} {d : Dp} {σ σ' : Sg} {h0 : Nat} {p1 : Int32} {p2 : Int64} {p3 : Int32} {p4 : Int32} {r : Int32} (h : ex_X7_make d σ h0 p1 p2 p3 p4 = some (r, σ')) : Mt l d yX7_make cX7_make 7 (some .int) 0 0 σ [.ref h0, .int (p1), .long (p2), .int (p3), .int (p4)] (some (.int r)) σ' 0 0 := by
  refine mt_start (own := RX7) (lv0 := [(0, va_rf (some h0)), (1, .int (p1)), (2, .long (p2)), (4, .int (p3)), (5, .int (p4))]) (by decide) rfl (by simp only [lg_sl, List.flatMap_cons, List.flatMap_nil, va_rf_cat]; exact Nat.le_of_ble_eq_true rfl) (by first | rfl | (simp only [lv_args, va_rf_cat]; rfl)) ?_
  intro p e s m args below meth c E hnm
  unfold ex_X7_make at h
  obtain ⟨g1, h⟩ := ck h
  obtain ⟨s2, e3, h⟩ := nbn h
  obtain ⟨g4, h⟩ := ck h
  obtain ⟨a5, e6, h⟩ := nn h
  obtain ⟨g7, h⟩ := ck h
  obtain ⟨g8, h⟩ := ck h
  obtain ⟨s9, e10, h⟩ := nbn h
  obtain ⟨g11, h⟩ := ck h
  obtain ⟨a12, e13, h⟩ := nn h
  obtain ⟨g14, h⟩ := ck h
  obtain ⟨g15, h⟩ := ck h
  obtain ⟨s16, e17, h⟩ := nbn h
  obtain ⟨g18, h⟩ := ck h
  obtain ⟨a19, e20, h⟩ := nn h
  obtain ⟨g21, h⟩ := ck h
  obtain ⟨g22, h⟩ := ck h
  obtain ⟨s23, e24, h⟩ := nbn h
  obtain ⟨g25, h⟩ := ck h
  obtain ⟨a26, e27, h⟩ := nn h
  obtain ⟨g28, h⟩ := ck h
  obtain ⟨g29, h⟩ := ck h
  obtain ⟨s30, e31, h⟩ := nbn h
  obtain ⟨rfl, rfl⟩ := lf2 h
  refine r_aload_n E (x := some h0) (i := 0) (j := 0) dX7_make_0 rfl rfl ?_
  refine gf_X7_75 E (x := gi σ 809 h0) dX7_make_1 rfl g1 rfl ?_
  refine r_istore E (lv' := [(6, .int (gi σ 809 h0)), (0, va_rf (some h0)), (1, .int (p1)), (2, .long (p2)), (4, .int (p3)), (5, .int (p4))]) dX7_make_4 (by decide) (by first | rfl | (simp only [List.filter_cons, List.filter_nil, va_rf_cat]; rfl)) ?_
  refine r_aload_n E (x := some h0) (i := 0) (j := 1) dX7_make_6 rfl rfl ?_
  refine r_dup E dX7_make_7 (va_rf_cat _) ?_
  refine gf_X7_75 E (x := gi σ 809 h0) dX7_make_8 rfl g1 rfl ?_
  refine r_iconst E dX7_make_11 (v := 1) (by decide) ?_
  refine r_iadd E dX7_make_12 ?_
  refine pf_X7_75 E dX7_make_13 rfl g1 ?_
  refine r_nm e3 ?_
  refine r_aload_n E (x := some h0) (i := 0) (j := 1) dX7_make_16 rfl rfl ?_
  refine gf_X7_24 E (x := gp s2 805 h0) dX7_make_17 rfl g4 rfl ?_
  refine r_iload E (j := 0) dX7_make_20 rfl ?_
  refine r_iload_n E (i := 1) (j := 2) dX7_make_22 rfl rfl ?_
  refine r_iast E dX7_make_23 e6 g7 g8 ?_
  refine r_nm e10 ?_
  refine r_aload_n E (x := some h0) (i := 0) (j := 1) dX7_make_24 rfl rfl ?_
  refine gf_X7_33 E (x := gp s9 808 h0) dX7_make_25 rfl g11 rfl ?_
  refine r_iload E (j := 0) dX7_make_28 rfl ?_
  refine r_lload_n E (i := 2) (j := 3) dX7_make_30 rfl rfl ?_
  refine r_last E dX7_make_31 e13 g14 g15 ?_
  refine r_nm e17 ?_
  refine r_aload_n E (x := some h0) (i := 0) (j := 1) dX7_make_32 rfl rfl ?_
  refine gf_X7_27 E (x := gp s16 806 h0) dX7_make_33 rfl g18 rfl ?_
  refine r_iload E (j := 0) dX7_make_36 rfl ?_
  refine r_iload E (j := 4) dX7_make_38 rfl ?_
  refine r_iast E dX7_make_40 e20 g21 g22 ?_
  refine r_nm e24 ?_
  refine r_aload_n E (x := some h0) (i := 0) (j := 1) dX7_make_41 rfl rfl ?_
  refine gf_X7_30 E (x := gp s23 807 h0) dX7_make_42 rfl g25 rfl ?_
  refine r_iload E (j := 0) dX7_make_45 rfl ?_
  refine r_iload E (j := 5) dX7_make_47 rfl ?_
  refine r_iast E dX7_make_49 e27 g28 g29 ?_
  refine r_nm e31 ?_
  refine r_iload E (j := 0) dX7_make_50 rfl ?_
  exact r_iret E dX7_make_52
def ex_X7_num (d : Dp) (σ : Sg) (h0 : Nat) (p1 : Int64) : Option (Int32 × Sg) := (if gc σ h0 = 9 then (b2 (ex_X7_make d σ h0 (1 : Int32) p1 (-1 : Int32) (-1 : Int32)) fun r4 s3 => some (r4, s3)) else none)
set_option maxHeartbeats 4000000 in
set_option maxRecDepth 20000 in
theorem m_X7_num {l : Launch} {d : Dp} {σ σ' : Sg} {h0 : Nat} {p1 : Int64} {r : Int32} (h : ex_X7_num d σ h0 p1 = some (r, σ')) : Mt l d yX7_num cX7_num 3 (some .int) 1 26 σ [.ref h0, .long (p1)] (some (.int r)) σ' 0 0 := by
  refine mt_start (own := RX7) (lv0 := [(0, va_rf (some h0)), (1, .long (p1))]) (by decide) rfl (by simp only [lg_sl, List.flatMap_cons, List.flatMap_nil, va_rf_cat]; exact Nat.le_of_ble_eq_true rfl) (by first | rfl | (simp only [lv_args, va_rf_cat]; rfl)) ?_
  intro p e s m args below meth c E hnm
  unfold ex_X7_num at h
  obtain ⟨g1, h⟩ := ck h
  obtain ⟨r4, s3, hc2, h⟩ := nb2 h
  obtain ⟨rfl, rfl⟩ := lf2 h
  refine r_aload_n E (x := some h0) (i := 0) (j := 0) dX7_num_0 rfl rfl ?_
  refine r_iconst E dX7_num_1 (v := 1) (by decide) ?_
  refine r_lload_n E (i := 1) (j := 1) dX7_num_2 rfl rfl ?_
  refine r_iconst E dX7_num_3 (v := -1) (by decide) ?_
  refine r_iconst E dX7_num_4 (v := -1) (by decide) ?_
  refine cl_X7_78 E (m_X7_make hc2) dX7_num_5 ⟨Nat.le_of_ble_eq_true rfl, Nat.le_of_ble_eq_true rfl⟩ ⟨by first | decide | omega | (dsimp only; omega), by first | decide | omega | (dsimp only; omega)⟩ (by decide) rfl g1 ?_
  exact r_iret E dX7_num_8
def ex_X7_fail (d : Dp) (σ : Sg) (h0 : Nat) (p1 : Int32) (p2 : Int32) : Option (Int32 × Sg) := (if gc σ h0 = 9 then (bn (si σ 820 h0 p1) fun s2 => (if gc s2 h0 = 9 then (bn (si s2 821 h0 p2) fun s5 => some ((-1 : Int32), s5)) else none)) else none)
set_option maxHeartbeats 4000000 in
set_option maxRecDepth 20000 in
theorem m_X7_fail {l : Launch} {d : Dp} {σ σ' : Sg} {h0 : Nat} {p1 : Int32} {p2 : Int32} {r : Int32} (h : ex_X7_fail d σ h0 p1 p2 = some (r, σ')) : Mt l d yX7_fail cX7_fail 3 (some .int) 0 0 σ [.ref h0, .int (p1), .int (p2)] (some (.int r)) σ' 0 0 := by
  refine mt_start (own := RX7) (lv0 := [(0, va_rf (some h0)), (1, .int (p1)), (2, .int (p2))]) (by decide) rfl (by simp only [lg_sl, List.flatMap_cons, List.flatMap_nil, va_rf_cat]; exact Nat.le_of_ble_eq_true rfl) (by first | rfl | (simp only [lv_args, va_rf_cat]; rfl)) ?_
  intro p e s m args below meth c E hnm
  unfold ex_X7_fail at h
  obtain ⟨g1, h⟩ := ck h
  obtain ⟨s2, e3, h⟩ := nbn h
  obtain ⟨g4, h⟩ := ck h
  obtain ⟨s5, e6, h⟩ := nbn h
  obtain ⟨rfl, rfl⟩ := lf2 h
  refine r_aload_n E (x := some h0) (i := 0) (j := 0) dX7_fail_0 rfl rfl ?_
  refine r_iload_n E (i := 1) (j := 1) dX7_fail_1 rfl rfl ?_
  refine pf_X7_82 E dX7_fail_2 rfl g1 ?_
  refine r_nm e3 ?_
  refine r_aload_n E (x := some h0) (i := 0) (j := 0) dX7_fail_5 rfl rfl ?_
  refine r_iload_n E (i := 2) (j := 2) dX7_fail_6 rfl rfl ?_
  refine pf_X7_85 E dX7_fail_7 rfl g4 ?_
  refine r_nm e6 ?_
  refine r_iconst E dX7_fail_10 (v := -1) (by decide) ?_
  exact r_iret E dX7_fail_11
