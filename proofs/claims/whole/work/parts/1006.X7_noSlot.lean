def ex_X7_noSlot (d : Dp) (σ : Sg) (h0 : Nat) (p1 : Int32) (p2 : Int32) : Option (Int32 × Sg) := (if p2 < (0 : Int32) then (if gc σ h0 = 9 then (b2 (ex_X7_fail d σ h0 (2 : Int32) p1) fun r5 s4 => some ((1 : Int32), s4)) else none) else (if (256 : Int32) ≤ p2 then (if gc σ h0 = 9 then (b2 (ex_X7_fail d σ h0 (2 : Int32) p1) fun r10 s9 => some ((1 : Int32), s9)) else none) else some ((0 : Int32), σ)))
set_option maxHeartbeats 4000000 in
set_option maxRecDepth 20000 in
theorem m_X7_noSlot {l : Launch} {d : Dp} {σ σ' : Sg} {h0 : Nat} {p1 : Int32} {p2 : Int32} {r : Int32} (h : ex_X7_noSlot d σ h0 p1 p2 = some (r, σ')) : Mt l d yX7_noSlot cX7_noSlot 3 (some .boolean) 1 22 σ [.ref h0, .int (p1), .int (p2)] (some (.int r)) σ' 0 0 := by
  refine mt_start (own := RX7) (lv0 := [(0, va_rf (some h0)), (1, .int (p1)), (2, .int (p2))]) (by decide) rfl (by simp only [lg_sl, List.flatMap_cons, List.flatMap_nil, va_rf_cat]; exact Nat.le_of_ble_eq_true rfl) (by first | rfl | (simp only [lv_args, va_rf_cat]; rfl)) ?_
  intro p e s m args below meth c E hnm
  unfold ex_X7_noSlot at h
  refine r_iload_n E (i := 2) (j := 2) dX7_noSlot_0 rfl rfl ?_
  refine r_if_lt E (tgt := 13) dX7_noSlot_1 (by decide) (fun c1 => ?_) (fun c1 => ?_)
  · have h := ift c1 h
    obtain ⟨g2, h⟩ := ck h
    obtain ⟨r5, s4, hc3, h⟩ := nb2 h
    obtain ⟨rfl, rfl⟩ := lf2 h
    refine r_aload_n E (x := some h0) (i := 0) (j := 0) dX7_noSlot_13 rfl rfl ?_
    refine r_iconst E dX7_noSlot_14 (v := 2) (by decide) ?_
    refine r_iload_n E (i := 1) (j := 1) dX7_noSlot_15 rfl rfl ?_
    refine cl_X7_88 E (m_X7_fail hc3) dX7_noSlot_16 ⟨Nat.le_of_ble_eq_true rfl, Nat.le_of_ble_eq_true rfl⟩ ⟨by first | decide | omega | (dsimp only; omega), by first | decide | omega | (dsimp only; omega)⟩ (by decide) rfl g2 ?_
    refine r_pop E dX7_noSlot_19 rfl ?_
    refine r_iconst E dX7_noSlot_20 (v := 1) (by decide) ?_
    exact r_zret E dX7_noSlot_21 (by decide)
  · have h := iff' c1 h
    refine r_iload_n E (i := 2) (j := 2) dX7_noSlot_4 rfl rfl ?_
    refine r_sipush E dX7_noSlot_5 (v := 256) (by decide) ?_
    refine r_icmp_ge E (tgt := 13) dX7_noSlot_8 (by decide) (fun c6 => ?_) (fun c6 => ?_)
    · have h := ift c6 h
      obtain ⟨g7, h⟩ := ck h
      obtain ⟨r10, s9, hc8, h⟩ := nb2 h
      obtain ⟨rfl, rfl⟩ := lf2 h
      refine r_aload_n E (x := some h0) (i := 0) (j := 0) dX7_noSlot_13 rfl rfl ?_
      refine r_iconst E dX7_noSlot_14 (v := 2) (by decide) ?_
      refine r_iload_n E (i := 1) (j := 1) dX7_noSlot_15 rfl rfl ?_
      refine cl_X7_88 E (m_X7_fail hc8) dX7_noSlot_16 ⟨Nat.le_of_ble_eq_true rfl, Nat.le_of_ble_eq_true rfl⟩ ⟨by first | decide | omega | (dsimp only; omega), by first | decide | omega | (dsimp only; omega)⟩ (by decide) rfl g7 ?_
      refine r_pop E dX7_noSlot_19 rfl ?_
      refine r_iconst E dX7_noSlot_20 (v := 1) (by decide) ?_
      exact r_zret E dX7_noSlot_21 (by decide)
    · have h := iff' c6 h
      obtain ⟨rfl, rfl⟩ := lf2 h
      refine r_iconst E dX7_noSlot_11 (v := 0) (by decide) ?_
      exact r_zret E dX7_noSlot_12 (by decide)
