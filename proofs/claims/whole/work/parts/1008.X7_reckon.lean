def ex_X7_reckon (d : Dp) (σ : Sg) (h0 : Nat) (p1 : Int32) (p2 : Int32) (p3 : Int64) (p4 : Int64) : Option (Int32 × Sg) := (if p2 = (2 : Int32) then (if gc σ h0 = 9 then (b2 (ex_X7_num d σ h0 (p3 + p4)) fun r41 s40 => some (r41, s40)) else none) else (if p2 = (3 : Int32) then (if gc σ h0 = 9 then (b2 (ex_X7_num d σ h0 (p3 - p4)) fun r37 s36 => some (r37, s36)) else none) else (if p2 = (4 : Int32) then (if gc σ h0 = 9 then (b2 (ex_X7_num d σ h0 (p3 * p4)) fun r33 s32 => some (r33, s32)) else none) else (if (lg_cmp p4 (0 : Int64)) = (0 : Int32) then (if gc σ h0 = 9 then (b2 (ex_X7_fail d σ h0 (6 : Int32) p1) fun r29 s28 => some (r29, s28)) else none) else (if (lg_cmp p4 (-1 : Int64)) = (0 : Int32) then (if p2 = (5 : Int32) then (if gc σ h0 = 9 then (b2 (ex_X7_num d σ h0 (-p3)) fun r25 s24 => some (r25, s24)) else none) else (if gc σ h0 = 9 then (b2 (ex_X7_num d σ h0 (0 : Int64)) fun r21 s20 => some (r21, s20)) else none)) else (if p2 = (5 : Int32) then (if ¬ p4 = (0 : Int64) then (if gc σ h0 = 9 then (b2 (ex_X7_num d σ h0 (p3 / p4)) fun r16 s15 => some (r16, s15)) else none) else none) else (if ¬ p4 = (0 : Int64) then (if gc σ h0 = 9 then (b2 (ex_X7_num d σ h0 (p3 - p3 / p4 * p4)) fun r11 s10 => some (r11, s10)) else none) else none)))))))
set_option maxHeartbeats 4000000 in
set_option maxRecDepth 20000 in
theorem m_X7_reckon {l : Launch} {d : Dp} {σ σ' : Sg} {h0 : Nat} {p1 : Int32} {p2 : Int32} {p3 : Int64} {p4 : Int64} {r : Int32} (h : ex_X7_reckon d σ h0 p1 p2 p3 p4 = some (r, σ')) : Mt l d yX7_reckon cX7_reckon 7 (some .int) 2 48 σ [.ref h0, .int (p1), .int (p2), .long (p3), .long (p4)] (some (.int r)) σ' 0 0 := by
  refine mt_start (own := RX7) (lv0 := [(0, va_rf (some h0)), (1, .int (p1)), (2, .int (p2)), (3, .long (p3)), (5, .long (p4))]) (by decide) rfl (by simp only [lg_sl, List.flatMap_cons, List.flatMap_nil, va_rf_cat]; exact Nat.le_of_ble_eq_true rfl) (by first | rfl | (simp only [lv_args, va_rf_cat]; rfl)) ?_
  intro p e s m args below meth c E hnm
  unfold ex_X7_reckon at h
  refine r_iload_n E (i := 2) (j := 2) dX7_reckon_0 rfl rfl ?_
  refine r_iconst E dX7_reckon_1 (v := 2) (by decide) ?_
  refine r_icmp_ne E (tgt := 14) dX7_reckon_2 (by decide) (fun c1 => ?_) (fun c1 => ?_)
  · have h := iff' c1 h
    refine r_iload_n E (i := 2) (j := 2) dX7_reckon_14 rfl rfl ?_
    refine r_iconst E dX7_reckon_15 (v := 3) (by decide) ?_
    refine r_icmp_ne E (tgt := 28) dX7_reckon_16 (by decide) (fun c2 => ?_) (fun c2 => ?_)
    · have h := iff' c2 h
      refine r_iload_n E (i := 2) (j := 2) dX7_reckon_28 rfl rfl ?_
      refine r_iconst E dX7_reckon_29 (v := 4) (by decide) ?_
      refine r_icmp_ne E (tgt := 42) dX7_reckon_30 (by decide) (fun c3 => ?_) (fun c3 => ?_)
      · have h := iff' c3 h
        refine r_lload E (j := 4) dX7_reckon_42 rfl ?_
        refine r_lconst E dX7_reckon_44 (v := 0) (by decide) ?_
        refine r_lcmp E dX7_reckon_45 ?_
        refine r_if_ne E (tgt := 57) dX7_reckon_46 (by decide) (fun c4 => ?_) (fun c4 => ?_)
        · have h := iff' c4 h
          refine r_lload E (j := 4) dX7_reckon_57 rfl ?_
          refine r_ldc2 E dX7_reckon_59 (v := -1) wm_4_78 ?_
          refine r_lcmp E dX7_reckon_62 ?_
          refine r_if_ne E (tgt := 82) dX7_reckon_63 (by decide) (fun c5 => ?_) (fun c5 => ?_)
          · have h := iff' c5 h
            refine r_aload_n E (x := some h0) (i := 0) (j := 0) dX7_reckon_82 rfl rfl ?_
            refine r_iload_n E (i := 2) (j := 2) dX7_reckon_83 rfl rfl ?_
            refine r_iconst E dX7_reckon_84 (v := 5) (by decide) ?_
            refine r_icmp_ne E (tgt := 95) dX7_reckon_85 (by decide) (fun c6 => ?_) (fun c6 => ?_)
            · have h := iff' c6 h
              obtain ⟨g7, h⟩ := ck h
              obtain ⟨g8, h⟩ := ck h
              obtain ⟨r11, s10, hc9, h⟩ := nb2 h
              obtain ⟨rfl, rfl⟩ := lf2 h
              refine r_lload_n E (i := 3) (j := 3) dX7_reckon_95 rfl rfl ?_
              refine r_lload E (j := 4) dX7_reckon_96 rfl ?_
              refine r_lrem E dX7_reckon_98 g7 ?_
              refine cl_X7_123 E (m_X7_num hc9) dX7_reckon_99 ⟨Nat.le_of_ble_eq_true rfl, Nat.le_of_ble_eq_true rfl⟩ ⟨by first | decide | omega | (dsimp only; omega), by first | decide | omega | (dsimp only; omega)⟩ (by decide) rfl g8 ?_
              exact r_iret E dX7_reckon_102
            · have h := ift c6 h
              obtain ⟨g12, h⟩ := ck h
              obtain ⟨g13, h⟩ := ck h
              obtain ⟨r16, s15, hc14, h⟩ := nb2 h
              obtain ⟨rfl, rfl⟩ := lf2 h
              refine r_lload_n E (i := 3) (j := 3) dX7_reckon_88 rfl rfl ?_
              refine r_lload E (j := 4) dX7_reckon_89 rfl ?_
              refine r_ldiv E dX7_reckon_91 g12 ?_
              refine r_goto E (tgt := 99) dX7_reckon_92 (by decide) ?_
              refine cl_X7_123 E (m_X7_num hc14) dX7_reckon_99 ⟨Nat.le_of_ble_eq_true rfl, Nat.le_of_ble_eq_true rfl⟩ ⟨by first | decide | omega | (dsimp only; omega), by first | decide | omega | (dsimp only; omega)⟩ (by decide) rfl g13 ?_
              exact r_iret E dX7_reckon_102
          · have h := ift c5 h
            refine r_aload_n E (x := some h0) (i := 0) (j := 0) dX7_reckon_66 rfl rfl ?_
            refine r_iload_n E (i := 2) (j := 2) dX7_reckon_67 rfl rfl ?_
            refine r_iconst E dX7_reckon_68 (v := 5) (by decide) ?_
            refine r_icmp_ne E (tgt := 77) dX7_reckon_69 (by decide) (fun c17 => ?_) (fun c17 => ?_)
            · have h := iff' c17 h
              obtain ⟨g18, h⟩ := ck h
              obtain ⟨r21, s20, hc19, h⟩ := nb2 h
              obtain ⟨rfl, rfl⟩ := lf2 h
              refine r_lconst E dX7_reckon_77 (v := 0) (by decide) ?_
              refine cl_X7_123 E (m_X7_num hc19) dX7_reckon_78 ⟨Nat.le_of_ble_eq_true rfl, Nat.le_of_ble_eq_true rfl⟩ ⟨by first | decide | omega | (dsimp only; omega), by first | decide | omega | (dsimp only; omega)⟩ (by decide) rfl g18 ?_
              exact r_iret E dX7_reckon_81
            · have h := ift c17 h
              obtain ⟨g22, h⟩ := ck h
              obtain ⟨r25, s24, hc23, h⟩ := nb2 h
              obtain ⟨rfl, rfl⟩ := lf2 h
              refine r_lload_n E (i := 3) (j := 3) dX7_reckon_72 rfl rfl ?_
              refine r_lneg E dX7_reckon_73 ?_
              refine r_goto E (tgt := 78) dX7_reckon_74 (by decide) ?_
              refine cl_X7_123 E (m_X7_num hc23) dX7_reckon_78 ⟨Nat.le_of_ble_eq_true rfl, Nat.le_of_ble_eq_true rfl⟩ ⟨by first | decide | omega | (dsimp only; omega), by first | decide | omega | (dsimp only; omega)⟩ (by decide) rfl g22 ?_
              exact r_iret E dX7_reckon_81
        · have h := ift c4 h
          obtain ⟨g26, h⟩ := ck h
          obtain ⟨r29, s28, hc27, h⟩ := nb2 h
          obtain ⟨rfl, rfl⟩ := lf2 h
          refine r_aload_n E (x := some h0) (i := 0) (j := 0) dX7_reckon_49 rfl rfl ?_
          refine r_bipush E dX7_reckon_50 (v := 6) (by decide) ?_
          refine r_iload_n E (i := 1) (j := 1) dX7_reckon_52 rfl rfl ?_
          refine cl_X7_88 E (m_X7_fail hc27) dX7_reckon_53 ⟨Nat.le_of_ble_eq_true rfl, Nat.le_of_ble_eq_true rfl⟩ ⟨by first | decide | omega | (dsimp only; omega), by first | decide | omega | (dsimp only; omega)⟩ (by decide) rfl g26 ?_
          exact r_iret E dX7_reckon_56
      · have h := ift c3 h
        obtain ⟨g30, h⟩ := ck h
        obtain ⟨r33, s32, hc31, h⟩ := nb2 h
        obtain ⟨rfl, rfl⟩ := lf2 h
        refine r_aload_n E (x := some h0) (i := 0) (j := 0) dX7_reckon_33 rfl rfl ?_
        refine r_lload_n E (i := 3) (j := 3) dX7_reckon_34 rfl rfl ?_
        refine r_lload E (j := 4) dX7_reckon_35 rfl ?_
        refine r_lmul E dX7_reckon_37 ?_
        refine cl_X7_123 E (m_X7_num hc31) dX7_reckon_38 ⟨Nat.le_of_ble_eq_true rfl, Nat.le_of_ble_eq_true rfl⟩ ⟨by first | decide | omega | (dsimp only; omega), by first | decide | omega | (dsimp only; omega)⟩ (by decide) rfl g30 ?_
        exact r_iret E dX7_reckon_41
    · have h := ift c2 h
      obtain ⟨g34, h⟩ := ck h
      obtain ⟨r37, s36, hc35, h⟩ := nb2 h
      obtain ⟨rfl, rfl⟩ := lf2 h
      refine r_aload_n E (x := some h0) (i := 0) (j := 0) dX7_reckon_19 rfl rfl ?_
      refine r_lload_n E (i := 3) (j := 3) dX7_reckon_20 rfl rfl ?_
      refine r_lload E (j := 4) dX7_reckon_21 rfl ?_
      refine r_lsub E dX7_reckon_23 ?_
      refine cl_X7_123 E (m_X7_num hc35) dX7_reckon_24 ⟨Nat.le_of_ble_eq_true rfl, Nat.le_of_ble_eq_true rfl⟩ ⟨by first | decide | omega | (dsimp only; omega), by first | decide | omega | (dsimp only; omega)⟩ (by decide) rfl g34 ?_
      exact r_iret E dX7_reckon_27
  · have h := ift c1 h
    obtain ⟨g38, h⟩ := ck h
    obtain ⟨r41, s40, hc39, h⟩ := nb2 h
    obtain ⟨rfl, rfl⟩ := lf2 h
    refine r_aload_n E (x := some h0) (i := 0) (j := 0) dX7_reckon_5 rfl rfl ?_
    refine r_lload_n E (i := 3) (j := 3) dX7_reckon_6 rfl rfl ?_
    refine r_lload E (j := 4) dX7_reckon_7 rfl ?_
    refine r_ladd E dX7_reckon_9 ?_
    refine cl_X7_123 E (m_X7_num hc39) dX7_reckon_10 ⟨Nat.le_of_ble_eq_true rfl, Nat.le_of_ble_eq_true rfl⟩ ⟨by first | decide | omega | (dsimp only; omega), by first | decide | omega | (dsimp only; omega)⟩ (by decide) rfl g38 ?_
    exact r_iret E dX7_reckon_13
