def ex_X7_act (d : Dp) (σ : Sg) (h0 : Nat) (p1 : Int32) (p2 : Int32) (p3 : Int32) (p4 : Int32) : Option (Int32 × Sg) := (if gc σ h0 = 9 then (Option.bind (gp σ 801 h0) fun a2 => (if gc σ a2 = 10 then (if ¬ (p1 < 0 ∨ gl σ a2 ≤ Int32.toNatClampNeg p1) then (if (10 : Int32) ≤ (ai σ a2 (Int32.toNatClampNeg p1)) then (if ¬ (p1 < 0 ∨ gl σ a2 ≤ Int32.toNatClampNeg p1) then (if (ai σ a2 (Int32.toNatClampNeg p1)) = (10 : Int32) then (b2 (ex_X7_send d σ h0 p1 p2 p4) fun r14 s13 => some (r14, s13)) else (b2 (ex_X7_larger d σ h0 p1 p2 p3 p4) fun r11 s10 => some (r11, s10))) else none) else (b2 (ex_X7_simple d σ h0 p1 p2 p3 p4) fun r17 s16 => some (r17, s16))) else none) else none)) else none)
set_option maxHeartbeats 4000000 in
set_option maxRecDepth 20000 in
theorem m_X7_act {l : Launch} {d : Dp} {σ σ' : Sg} {h0 : Nat} {p1 : Int32} {p2 : Int32} {p3 : Int32} {p4 : Int32} {r : Int32} (h : ex_X7_act d σ h0 p1 p2 p3 p4 = some (r, σ')) : Mt l d yX7_act cX7_act 5 (some .int) 4 99 σ [.ref h0, .int (p1), .int (p2), .int (p3), .int (p4)] (some (.int r)) σ' 0 0 := by
  refine mt_start (own := RX7) (lv0 := [(0, va_rf (some h0)), (1, .int (p1)), (2, .int (p2)), (3, .int (p3)), (4, .int (p4))]) (by decide) rfl (by simp only [lg_sl, List.flatMap_cons, List.flatMap_nil, va_rf_cat]; exact Nat.le_of_ble_eq_true rfl) (by first | rfl | (simp only [lv_args, va_rf_cat]; rfl)) ?_
  intro p e s m args below meth c E hnm
  unfold ex_X7_act at h
  obtain ⟨g1, h⟩ := ck h
  obtain ⟨a2, e3, h⟩ := nn h
  obtain ⟨g4, h⟩ := ck h
  obtain ⟨g5, h⟩ := ck h
  refine r_aload_n E (x := some h0) (i := 0) (j := 0) dX7_act_0 rfl rfl ?_
  refine gf_X7_13 E (x := gp σ 801 h0) dX7_act_1 rfl g1 rfl ?_
  refine r_iload_n E (i := 1) (j := 1) dX7_act_4 rfl rfl ?_
  refine r_iald E dX7_act_5 e3 g4 g5 ?_
  refine r_bipush E dX7_act_6 (v := 10) (by decide) ?_
  refine r_icmp_ge E (tgt := 21) dX7_act_8 (by decide) (fun c6 => ?_) (fun c6 => ?_)
  · have h := ift c6 h
    obtain ⟨g7, h⟩ := ck h
    refine r_aload_n E (x := some h0) (i := 0) (j := 0) dX7_act_21 rfl rfl ?_
    refine gf_X7_13 E (x := gp σ 801 h0) dX7_act_22 rfl g1 rfl ?_
    refine r_iload_n E (i := 1) (j := 1) dX7_act_25 rfl rfl ?_
    refine r_iald E dX7_act_26 e3 g4 g7 ?_
    refine r_bipush E dX7_act_27 (v := 10) (by decide) ?_
    refine r_icmp_ne E (tgt := 43) dX7_act_29 (by decide) (fun c8 => ?_) (fun c8 => ?_)
    · have h := iff' c8 h
      obtain ⟨r11, s10, hc9, h⟩ := nb2 h
      obtain ⟨rfl, rfl⟩ := lf2 h
      refine r_aload_n E (x := some h0) (i := 0) (j := 0) dX7_act_43 rfl rfl ?_
      refine r_iload_n E (i := 1) (j := 1) dX7_act_44 rfl rfl ?_
      refine r_iload_n E (i := 2) (j := 2) dX7_act_45 rfl rfl ?_
      refine r_iload_n E (i := 3) (j := 3) dX7_act_46 rfl rfl ?_
      refine r_iload E (j := 4) dX7_act_47 rfl ?_
      refine cl_X7_158 E (m_X7_larger hc9) dX7_act_49 ⟨Nat.le_of_ble_eq_true rfl, Nat.le_of_ble_eq_true rfl⟩ ⟨by first | decide | omega | (dsimp only; omega), by first | decide | omega | (dsimp only; omega)⟩ (by decide) rfl g1 ?_
      exact r_iret E dX7_act_52
    · have h := ift c8 h
      obtain ⟨r14, s13, hc12, h⟩ := nb2 h
      obtain ⟨rfl, rfl⟩ := lf2 h
      refine r_aload_n E (x := some h0) (i := 0) (j := 0) dX7_act_32 rfl rfl ?_
      refine r_iload_n E (i := 1) (j := 1) dX7_act_33 rfl rfl ?_
      refine r_iload_n E (i := 2) (j := 2) dX7_act_34 rfl rfl ?_
      refine r_iload E (j := 4) dX7_act_35 rfl ?_
      refine cl_X7_154 E (m_X7_send hc12) dX7_act_37 ⟨Nat.le_of_ble_eq_true rfl, Nat.le_of_ble_eq_true rfl⟩ ⟨by first | decide | omega | (dsimp only; omega), by first | decide | omega | (dsimp only; omega)⟩ (by decide) rfl g1 ?_
      refine r_goto E (tgt := 52) dX7_act_40 (by decide) ?_
      exact r_iret E dX7_act_52
  · have h := iff' c6 h
    obtain ⟨r17, s16, hc15, h⟩ := nb2 h
    obtain ⟨rfl, rfl⟩ := lf2 h
    refine r_aload_n E (x := some h0) (i := 0) (j := 0) dX7_act_11 rfl rfl ?_
    refine r_iload_n E (i := 1) (j := 1) dX7_act_12 rfl rfl ?_
    refine r_iload_n E (i := 2) (j := 2) dX7_act_13 rfl rfl ?_
    refine r_iload_n E (i := 3) (j := 3) dX7_act_14 rfl rfl ?_
    refine r_iload E (j := 4) dX7_act_15 rfl ?_
    refine cl_X7_151 E (m_X7_simple hc15) dX7_act_17 ⟨Nat.le_of_ble_eq_true rfl, Nat.le_of_ble_eq_true rfl⟩ ⟨by first | decide | omega | (dsimp only; omega), by first | decide | omega | (dsimp only; omega)⟩ (by decide) rfl g1 ?_
    exact r_iret E dX7_act_20
