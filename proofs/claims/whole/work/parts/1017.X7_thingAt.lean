def ex_X7_thingAt (d : Dp) (σ : Sg) (h0 : Nat) (p1 : Int32) : Option (Int32 × Sg) := (if p1 = (-1 : Int32) then (if gc σ h0 = 9 then some (gi σ 825 h0, σ) else none) else (if p1 < (0 : Int32) then some ((-1 : Int32), σ) else (if p1 ≤ (255 : Int32) then (if gc σ h0 = 9 then (Option.bind (gp σ 812 h0) fun a5 => (if gc σ a5 = 10 then (if ¬ (p1 < 0 ∨ gl σ a5 ≤ Int32.toNatClampNeg p1) then some (ai σ a5 (Int32.toNatClampNeg p1), σ) else none) else none)) else none) else some ((-1 : Int32), σ))))
set_option maxHeartbeats 4000000 in
set_option maxRecDepth 20000 in
theorem m_X7_thingAt {l : Launch} {d : Dp} {σ σ' : Sg} {h0 : Nat} {p1 : Int32} {r : Int32} (h : ex_X7_thingAt d σ h0 p1 = some (r, σ')) : Mt l d yX7_thingAt cX7_thingAt 2 (some .int) 0 0 σ [.ref h0, .int (p1)] (some (.int r)) σ' 0 0 := by
  refine mt_start (own := RX7) (lv0 := [(0, va_rf (some h0)), (1, .int (p1))]) (by decide) rfl (by simp only [lg_sl, List.flatMap_cons, List.flatMap_nil, va_rf_cat]; exact Nat.le_of_ble_eq_true rfl) (by first | rfl | (simp only [lv_args, va_rf_cat]; rfl)) ?_
  intro p e s m args below meth c E hnm
  unfold ex_X7_thingAt at h
  refine r_iload_n E (i := 1) (j := 1) dX7_thingAt_0 rfl rfl ?_
  refine r_iconst E dX7_thingAt_1 (v := -1) (by decide) ?_
  refine r_icmp_ne E (tgt := 10) dX7_thingAt_2 (by decide) (fun c1 => ?_) (fun c1 => ?_)
  · have h := iff' c1 h
    refine r_iload_n E (i := 1) (j := 1) dX7_thingAt_10 rfl rfl ?_
    refine r_if_lt E (tgt := 21) dX7_thingAt_11 (by decide) (fun c2 => ?_) (fun c2 => ?_)
    · have h := ift c2 h
      obtain ⟨rfl, rfl⟩ := lf2 h
      refine r_iconst E dX7_thingAt_21 (v := -1) (by decide) ?_
      refine r_goto E (tgt := 31) dX7_thingAt_22 (by decide) ?_
      exact r_iret E dX7_thingAt_31
    · have h := iff' c2 h
      refine r_iload_n E (i := 1) (j := 1) dX7_thingAt_14 rfl rfl ?_
      refine r_sipush E dX7_thingAt_15 (v := 255) (by decide) ?_
      refine r_icmp_le E (tgt := 25) dX7_thingAt_18 (by decide) (fun c3 => ?_) (fun c3 => ?_)
      · have h := ift c3 h
        obtain ⟨g4, h⟩ := ck h
        obtain ⟨a5, e6, h⟩ := nn h
        obtain ⟨g7, h⟩ := ck h
        obtain ⟨g8, h⟩ := ck h
        obtain ⟨rfl, rfl⟩ := lf2 h
        refine r_aload_n E (x := some h0) (i := 0) (j := 0) dX7_thingAt_25 rfl rfl ?_
        refine gf_X7_39 E (x := gp σ 812 h0) dX7_thingAt_26 rfl g4 rfl ?_
        refine r_iload_n E (i := 1) (j := 1) dX7_thingAt_29 rfl rfl ?_
        refine r_iald E dX7_thingAt_30 e6 g7 g8 ?_
        exact r_iret E dX7_thingAt_31
      · have h := iff' c3 h
        obtain ⟨rfl, rfl⟩ := lf2 h
        refine r_iconst E dX7_thingAt_21 (v := -1) (by decide) ?_
        refine r_goto E (tgt := 31) dX7_thingAt_22 (by decide) ?_
        exact r_iret E dX7_thingAt_31
  · have h := ift c1 h
    obtain ⟨g9, h⟩ := ck h
    obtain ⟨rfl, rfl⟩ := lf2 h
    refine r_aload_n E (x := some h0) (i := 0) (j := 0) dX7_thingAt_5 rfl rfl ?_
    refine gf_X7_58 E (x := gi σ 825 h0) dX7_thingAt_6 rfl g9 rfl ?_
    exact r_iret E dX7_thingAt_9
def ex_X7_value (d : Dp) (σ : Sg) (h0 : Nat) (p1 : Int32) : Option (Int64 × Sg) := (if gc σ h0 = 9 then (b2 (ex_X7_thingAt d σ h0 p1) fun r4 s3 => (if r4 = (-1 : Int32) then some ((0 : Int64), s3) else (if gc s3 h0 = 9 then (Option.bind (gp s3 805 h0) fun a7 => (if gc s3 a7 = 10 then (if ¬ (r4 < 0 ∨ gl s3 a7 ≤ Int32.toNatClampNeg r4) then (if (ai s3 a7 (Int32.toNatClampNeg r4)) = (1 : Int32) then (Option.bind (gp s3 808 h0) fun a12 => (if gc s3 a12 = 11 then (if ¬ (r4 < 0 ∨ gl s3 a12 ≤ Int32.toNatClampNeg r4) then some (aj s3 a12 (Int32.toNatClampNeg r4), s3) else none) else none)) else (if ¬ (r4 < 0 ∨ gl s3 a7 ≤ Int32.toNatClampNeg r4) then (if (ai s3 a7 (Int32.toNatClampNeg r4)) = (6 : Int32) then (Option.bind (gp s3 808 h0) fun a18 => (if gc s3 a18 = 11 then (if ¬ (r4 < 0 ∨ gl s3 a18 ≤ Int32.toNatClampNeg r4) then some (aj s3 a18 (Int32.toNatClampNeg r4), s3) else none) else none)) else some ((0 : Int64), s3)) else none)) else none) else none)) else none))) else none)
set_option maxHeartbeats 4000000 in
set_option maxRecDepth 20000 in
theorem m_X7_value {l : Launch} {d : Dp} {σ σ' : Sg} {h0 : Nat} {p1 : Int32} {r : Int64} (h : ex_X7_value d σ h0 p1 = some (r, σ')) : Mt l d yX7_value cX7_value 3 (some .long) 1 21 σ [.ref h0, .int (p1)] (some (.long r)) σ' 0 0 := by
  refine mt_start (own := RX7) (lv0 := [(0, va_rf (some h0)), (1, .int (p1))]) (by decide) rfl (by simp only [lg_sl, List.flatMap_cons, List.flatMap_nil, va_rf_cat]; exact Nat.le_of_ble_eq_true rfl) (by first | rfl | (simp only [lv_args, va_rf_cat]; rfl)) ?_
  intro p e s m args below meth c E hnm
  unfold ex_X7_value at h
  obtain ⟨g1, h⟩ := ck h
  obtain ⟨r4, s3, hc2, h⟩ := nb2 h
  refine r_aload_n E (x := some h0) (i := 0) (j := 0) dX7_value_0 rfl rfl ?_
  refine r_iload_n E (i := 1) (j := 1) dX7_value_1 rfl rfl ?_
  refine cl_X7_179 E (m_X7_thingAt hc2) dX7_value_2 ⟨Nat.le_of_ble_eq_true rfl, Nat.le_of_ble_eq_true rfl⟩ ⟨by first | decide | omega | (dsimp only; omega), by first | decide | omega | (dsimp only; omega)⟩ (by decide) rfl g1 ?_
  refine r_istore_n E (i := 2) (lv' := [(2, .int (r4)), (0, va_rf (some h0)), (1, .int (p1))]) dX7_value_5 rfl (by decide) (by first | rfl | (simp only [List.filter_cons, List.filter_nil, va_rf_cat]; rfl)) ?_
  refine r_iload_n E (i := 2) (j := 0) dX7_value_6 rfl rfl ?_
  refine r_iconst E dX7_value_7 (v := -1) (by decide) ?_
  refine r_icmp_eq E (tgt := 41) dX7_value_8 (by decide) (fun c5 => ?_) (fun c5 => ?_)
  · have h := ift c5 h
    obtain ⟨rfl, rfl⟩ := lf2 h
    refine r_lconst E dX7_value_41 (v := 0) (by decide) ?_
    exact r_lret E dX7_value_42
  · have h := iff' c5 h
    obtain ⟨g6, h⟩ := ck h
    obtain ⟨a7, e8, h⟩ := nn h
    obtain ⟨g9, h⟩ := ck h
    obtain ⟨g10, h⟩ := ck h
    refine r_aload_n E (x := some h0) (i := 0) (j := 1) dX7_value_11 rfl rfl ?_
    refine gf_X7_24 E (x := gp s3 805 h0) dX7_value_12 rfl g6 rfl ?_
    refine r_iload_n E (i := 2) (j := 0) dX7_value_15 rfl rfl ?_
    refine r_iald E dX7_value_16 e8 g9 g10 ?_
    refine r_iconst E dX7_value_17 (v := 1) (by decide) ?_
    refine r_icmp_eq E (tgt := 32) dX7_value_18 (by decide) (fun c11 => ?_) (fun c11 => ?_)
    · have h := ift c11 h
      obtain ⟨a12, e13, h⟩ := nn h
      obtain ⟨g14, h⟩ := ck h
      obtain ⟨g15, h⟩ := ck h
      obtain ⟨rfl, rfl⟩ := lf2 h
      refine r_aload_n E (x := some h0) (i := 0) (j := 1) dX7_value_32 rfl rfl ?_
      refine gf_X7_33 E (x := gp s3 808 h0) dX7_value_33 rfl g6 rfl ?_
      refine r_iload_n E (i := 2) (j := 0) dX7_value_36 rfl rfl ?_
      refine r_lald E dX7_value_37 e13 g14 g15 ?_
      refine r_goto E (tgt := 42) dX7_value_38 (by decide) ?_
      exact r_lret E dX7_value_42
    · have h := iff' c11 h
      obtain ⟨g16, h⟩ := ck h
      refine r_aload_n E (x := some h0) (i := 0) (j := 1) dX7_value_21 rfl rfl ?_
      refine gf_X7_24 E (x := gp s3 805 h0) dX7_value_22 rfl g6 rfl ?_
      refine r_iload_n E (i := 2) (j := 0) dX7_value_25 rfl rfl ?_
      refine r_iald E dX7_value_26 e8 g9 g16 ?_
      refine r_bipush E dX7_value_27 (v := 6) (by decide) ?_
      refine r_icmp_ne E (tgt := 41) dX7_value_29 (by decide) (fun c17 => ?_) (fun c17 => ?_)
      · have h := iff' c17 h
        obtain ⟨rfl, rfl⟩ := lf2 h
        refine r_lconst E dX7_value_41 (v := 0) (by decide) ?_
        exact r_lret E dX7_value_42
      · have h := ift c17 h
        obtain ⟨a18, e19, h⟩ := nn h
        obtain ⟨g20, h⟩ := ck h
        obtain ⟨g21, h⟩ := ck h
        obtain ⟨rfl, rfl⟩ := lf2 h
        refine r_aload_n E (x := some h0) (i := 0) (j := 1) dX7_value_32 rfl rfl ?_
        refine gf_X7_33 E (x := gp s3 808 h0) dX7_value_33 rfl g6 rfl ?_
        refine r_iload_n E (i := 2) (j := 0) dX7_value_36 rfl rfl ?_
        refine r_lald E dX7_value_37 e19 g20 g21 ?_
        refine r_goto E (tgt := 42) dX7_value_38 (by decide) ?_
        exact r_lret E dX7_value_42
