def ex_X7_send (d : Dp) (σ : Sg) (h0 : Nat) (p1 : Int32) (p2 : Int32) (p3 : Int32) : Option (Int32 × Sg) := (if gc σ h0 = 9 then (b2 (ex_X7_is d σ h0 p1 p2 (4 : Int32)) fun r4 s3 => (if r4 = (0 : Int32) then some ((-1 : Int32), s3) else (if gc s3 h0 = 9 then (b2 (ex_X7_number d s3 h0 p1 (1 : Int32)) fun r9 s8 => (if gc s8 h0 = 9 then (Option.bind (gp s8 806 h0) fun a11 => (if gc s8 a11 = 10 then (if ¬ (p2 < 0 ∨ gl s8 a11 ≤ Int32.toNatClampNeg p2) then (if r9 = (0 : Int32) then some (ai s8 a11 (Int32.toNatClampNeg p2), s8) else (if r9 = (1 : Int32) then (if ¬ (p2 < 0 ∨ gl s8 a11 ≤ Int32.toNatClampNeg p2) then (bn (wi s8 a11 (Int32.toNatClampNeg p2) p3) fun s52 => some (ai s8 a11 (Int32.toNatClampNeg p2), s52)) else none) else (if r9 = (7 : Int32) then (if (ai s8 a11 (Int32.toNatClampNeg p2)) = p3 then (b2 (ex_X7_num d s8 h0 (1 : Int64)) fun r50 s49 => some (r50, s49)) else (b2 (ex_X7_num d s8 h0 (0 : Int64)) fun r47 s46 => some (r47, s46))) else (if r9 < (2 : Int32) then (b2 (ex_X7_num d s8 h0 (0 : Int64)) fun r21 s20 => some (r21, s20)) else (if r9 ≤ (7 : Int32) then (b2 (ex_X7_is d s8 h0 p1 (ai s8 a11 (Int32.toNatClampNeg p2)) (1 : Int32)) fun r25 s24 => (if r25 = (0 : Int32) then some ((-1 : Int32), s24) else (if gc s24 h0 = 9 then (b2 (ex_X7_is d s24 h0 p1 p3 (1 : Int32)) fun r30 s29 => (if r30 = (0 : Int32) then some ((-1 : Int32), s29) else (if gc s29 h0 = 9 then (Option.bind (gp s29 808 h0) fun a33 => (if gc s29 a33 = 11 then (if ¬ ((ai s8 a11 (Int32.toNatClampNeg p2)) < 0 ∨ gl s29 a33 ≤ Int32.toNatClampNeg (ai s8 a11 (Int32.toNatClampNeg p2))) then (if ¬ (p3 < 0 ∨ gl s29 a33 ≤ Int32.toNatClampNeg p3) then (b2 (ex_X7_reckon d s29 h0 p1 r9 (aj s29 a33 (Int32.toNatClampNeg (ai s8 a11 (Int32.toNatClampNeg p2)))) (aj s29 a33 (Int32.toNatClampNeg p3))) fun r40 s39 => some (r40, s39)) else none) else none) else none)) else none))) else none))) else (b2 (ex_X7_num d s8 h0 (0 : Int64)) fun r43 s42 => some (r43, s42))))))) else none) else none)) else none)) else none))) else none)
set_option maxHeartbeats 4000000 in
set_option maxRecDepth 20000 in
theorem m_X7_send {l : Launch} {d : Dp} {σ σ' : Sg} {h0 : Nat} {p1 : Int32} {p2 : Int32} {p3 : Int32} {r : Int32} (h : ex_X7_send d σ h0 p1 p2 p3 = some (r, σ')) : Mt l d yX7_send cX7_send 6 (some .int) 3 74 σ [.ref h0, .int (p1), .int (p2), .int (p3)] (some (.int r)) σ' 0 0 := by
  refine mt_start (own := RX7) (lv0 := [(0, va_rf (some h0)), (1, .int (p1)), (2, .int (p2)), (3, .int (p3))]) (by decide) rfl (by simp only [lg_sl, List.flatMap_cons, List.flatMap_nil, va_rf_cat]; exact Nat.le_of_ble_eq_true rfl) (by first | rfl | (simp only [lv_args, va_rf_cat]; rfl)) ?_
  intro p e s m args below meth c E hnm
  unfold ex_X7_send at h
  obtain ⟨g1, h⟩ := ck h
  obtain ⟨r4, s3, hc2, h⟩ := nb2 h
  refine r_aload_n E (x := some h0) (i := 0) (j := 0) dX7_send_0 rfl rfl ?_
  refine r_iload_n E (i := 1) (j := 1) dX7_send_1 rfl rfl ?_
  refine r_iload_n E (i := 2) (j := 2) dX7_send_2 rfl rfl ?_
  refine r_iconst E dX7_send_3 (v := 4) (by decide) ?_
  refine cl_X7_143 E (m_X7_is hc2) dX7_send_4 ⟨Nat.le_of_ble_eq_true rfl, Nat.le_of_ble_eq_true rfl⟩ ⟨by first | decide | omega | (dsimp only; omega), by first | decide | omega | (dsimp only; omega)⟩ (by decide) rfl g1 ?_
  refine r_if_ne E (tgt := 12) dX7_send_7 (by decide) (fun c5 => ?_) (fun c5 => ?_)
  · have h := iff' c5 h
    obtain ⟨g6, h⟩ := ck h
    obtain ⟨r9, s8, hc7, h⟩ := nb2 h
    obtain ⟨g10, h⟩ := ck h
    obtain ⟨a11, e12, h⟩ := nn h
    obtain ⟨g13, h⟩ := ck h
    obtain ⟨g14, h⟩ := ck h
    refine r_aload_n E (x := some h0) (i := 0) (j := 0) dX7_send_12 rfl rfl ?_
    refine r_iload_n E (i := 1) (j := 1) dX7_send_13 rfl rfl ?_
    refine r_iconst E dX7_send_14 (v := 1) (by decide) ?_
    refine cl_X7_101 E (m_X7_number hc7) dX7_send_15 ⟨Nat.le_of_ble_eq_true rfl, Nat.le_of_ble_eq_true rfl⟩ ⟨by first | decide | omega | (dsimp only; omega), by first | decide | omega | (dsimp only; omega)⟩ (by decide) rfl g6 ?_
    refine r_istore E (lv' := [(4, .int (r9)), (0, va_rf (some h0)), (1, .int (p1)), (2, .int (p2)), (3, .int (p3))]) dX7_send_18 (by decide) (by first | rfl | (simp only [List.filter_cons, List.filter_nil, va_rf_cat]; rfl)) ?_
    refine r_aload_n E (x := some h0) (i := 0) (j := 1) dX7_send_20 rfl rfl ?_
    refine gf_X7_27 E (x := gp s8 806 h0) dX7_send_21 rfl g10 rfl ?_
    refine r_iload_n E (i := 2) (j := 3) dX7_send_24 rfl rfl ?_
    refine r_iald E dX7_send_25 e12 g13 g14 ?_
    refine r_istore E (lv' := [(5, .int (ai s8 a11 (Int32.toNatClampNeg p2))), (4, .int (r9)), (0, va_rf (some h0)), (1, .int (p1)), (2, .int (p2)), (3, .int (p3))]) dX7_send_26 (by decide) (by first | rfl | (simp only [List.filter_cons, List.filter_nil, va_rf_cat]; rfl)) ?_
    refine r_iload E (j := 1) dX7_send_28 rfl ?_
    refine r_if_ne E (tgt := 36) dX7_send_30 (by decide) (fun c15 => ?_) (fun c15 => ?_)
    · have h := iff' c15 h
      refine r_iload E (j := 1) dX7_send_36 rfl ?_
      refine r_iconst E dX7_send_38 (v := 1) (by decide) ?_
      refine r_icmp_ne E (tgt := 52) dX7_send_39 (by decide) (fun c16 => ?_) (fun c16 => ?_)
      · have h := iff' c16 h
        refine r_iload E (j := 1) dX7_send_52 rfl ?_
        refine r_bipush E dX7_send_54 (v := 7) (by decide) ?_
        refine r_icmp_ne E (tgt := 75) dX7_send_56 (by decide) (fun c17 => ?_) (fun c17 => ?_)
        · have h := iff' c17 h
          refine r_iload E (j := 1) dX7_send_75 rfl ?_
          refine r_iconst E dX7_send_77 (v := 2) (by decide) ?_
          refine r_icmp_lt E (tgt := 88) dX7_send_78 (by decide) (fun c18 => ?_) (fun c18 => ?_)
          · have h := ift c18 h
            obtain ⟨r21, s20, hc19, h⟩ := nb2 h
            obtain ⟨rfl, rfl⟩ := lf2 h
            refine r_aload_n E (x := some h0) (i := 0) (j := 2) dX7_send_88 rfl rfl ?_
            refine r_lconst E dX7_send_89 (v := 0) (by decide) ?_
            refine cl_X7_123 E (m_X7_num hc19) dX7_send_90 ⟨Nat.le_of_ble_eq_true rfl, Nat.le_of_ble_eq_true rfl⟩ ⟨by first | decide | omega | (dsimp only; omega), by first | decide | omega | (dsimp only; omega)⟩ (by decide) rfl g10 ?_
            exact r_iret E dX7_send_93
          · have h := iff' c18 h
            refine r_iload E (j := 1) dX7_send_81 rfl ?_
            refine r_bipush E dX7_send_83 (v := 7) (by decide) ?_
            refine r_icmp_le E (tgt := 94) dX7_send_85 (by decide) (fun c22 => ?_) (fun c22 => ?_)
            · have h := ift c22 h
              obtain ⟨r25, s24, hc23, h⟩ := nb2 h
              refine r_aload_n E (x := some h0) (i := 0) (j := 2) dX7_send_94 rfl rfl ?_
              refine r_iload_n E (i := 1) (j := 3) dX7_send_95 rfl rfl ?_
              refine r_iload E (j := 0) dX7_send_96 rfl ?_
              refine r_iconst E dX7_send_98 (v := 1) (by decide) ?_
              refine cl_X7_143 E (m_X7_is hc23) dX7_send_99 ⟨Nat.le_of_ble_eq_true rfl, Nat.le_of_ble_eq_true rfl⟩ ⟨by first | decide | omega | (dsimp only; omega), by first | decide | omega | (dsimp only; omega)⟩ (by decide) rfl g10 ?_
              refine r_if_eq E (tgt := 115) dX7_send_102 (by decide) (fun c26 => ?_) (fun c26 => ?_)
              · have h := ift c26 h
                obtain ⟨rfl, rfl⟩ := lf2 h
                refine r_iconst E dX7_send_115 (v := -1) (by decide) ?_
                exact r_iret E dX7_send_116
              · have h := iff' c26 h
                obtain ⟨g27, h⟩ := ck h
                obtain ⟨r30, s29, hc28, h⟩ := nb2 h
                refine r_aload_n E (x := some h0) (i := 0) (j := 2) dX7_send_105 rfl rfl ?_
                refine r_iload_n E (i := 1) (j := 3) dX7_send_106 rfl rfl ?_
                refine r_iload_n E (i := 3) (j := 5) dX7_send_107 rfl rfl ?_
                refine r_iconst E dX7_send_108 (v := 1) (by decide) ?_
                refine cl_X7_143 E (m_X7_is hc28) dX7_send_109 ⟨Nat.le_of_ble_eq_true rfl, Nat.le_of_ble_eq_true rfl⟩ ⟨by first | decide | omega | (dsimp only; omega), by first | decide | omega | (dsimp only; omega)⟩ (by decide) rfl g27 ?_
                refine r_if_ne E (tgt := 117) dX7_send_112 (by decide) (fun c31 => ?_) (fun c31 => ?_)
                · have h := iff' c31 h
                  obtain ⟨g32, h⟩ := ck h
                  obtain ⟨a33, e34, h⟩ := nn h
                  obtain ⟨g35, h⟩ := ck h
                  obtain ⟨g36, h⟩ := ck h
                  obtain ⟨g37, h⟩ := ck h
                  obtain ⟨r40, s39, hc38, h⟩ := nb2 h
                  obtain ⟨rfl, rfl⟩ := lf2 h
                  refine r_aload_n E (x := some h0) (i := 0) (j := 2) dX7_send_117 rfl rfl ?_
                  refine r_iload_n E (i := 1) (j := 3) dX7_send_118 rfl rfl ?_
                  refine r_iload E (j := 1) dX7_send_119 rfl ?_
                  refine r_aload_n E (x := some h0) (i := 0) (j := 2) dX7_send_121 rfl rfl ?_
                  refine gf_X7_33 E (x := gp s29 808 h0) dX7_send_122 rfl g32 rfl ?_
                  refine r_iload E (j := 0) dX7_send_125 rfl ?_
                  refine r_lald E dX7_send_127 e34 g35 g36 ?_
                  refine r_aload_n E (x := some h0) (i := 0) (j := 2) dX7_send_128 rfl rfl ?_
                  refine gf_X7_33 E (x := gp s29 808 h0) dX7_send_129 rfl g32 rfl ?_
                  refine r_iload_n E (i := 3) (j := 5) dX7_send_132 rfl rfl ?_
                  refine r_lald E dX7_send_133 e34 g35 g37 ?_
                  refine cl_X7_164 E (m_X7_reckon hc38) dX7_send_134 ⟨Nat.le_of_ble_eq_true rfl, Nat.le_of_ble_eq_true rfl⟩ ⟨by first | decide | omega | (dsimp only; omega), by first | decide | omega | (dsimp only; omega)⟩ (by decide) rfl g32 ?_
                  exact r_iret E dX7_send_137
                · have h := ift c31 h
                  obtain ⟨rfl, rfl⟩ := lf2 h
                  refine r_iconst E dX7_send_115 (v := -1) (by decide) ?_
                  exact r_iret E dX7_send_116
            · have h := iff' c22 h
              obtain ⟨r43, s42, hc41, h⟩ := nb2 h
              obtain ⟨rfl, rfl⟩ := lf2 h
              refine r_aload_n E (x := some h0) (i := 0) (j := 2) dX7_send_88 rfl rfl ?_
              refine r_lconst E dX7_send_89 (v := 0) (by decide) ?_
              refine cl_X7_123 E (m_X7_num hc41) dX7_send_90 ⟨Nat.le_of_ble_eq_true rfl, Nat.le_of_ble_eq_true rfl⟩ ⟨by first | decide | omega | (dsimp only; omega), by first | decide | omega | (dsimp only; omega)⟩ (by decide) rfl g10 ?_
              exact r_iret E dX7_send_93
        · have h := ift c17 h
          refine r_aload_n E (x := some h0) (i := 0) (j := 2) dX7_send_59 rfl rfl ?_
          refine r_iload E (j := 0) dX7_send_60 rfl ?_
          refine r_iload_n E (i := 3) (j := 5) dX7_send_62 rfl rfl ?_
          refine r_icmp_ne E (tgt := 70) dX7_send_63 (by decide) (fun c44 => ?_) (fun c44 => ?_)
          · have h := iff' c44 h
            obtain ⟨r47, s46, hc45, h⟩ := nb2 h
            obtain ⟨rfl, rfl⟩ := lf2 h
            refine r_lconst E dX7_send_70 (v := 0) (by decide) ?_
            refine cl_X7_123 E (m_X7_num hc45) dX7_send_71 ⟨Nat.le_of_ble_eq_true rfl, Nat.le_of_ble_eq_true rfl⟩ ⟨by first | decide | omega | (dsimp only; omega), by first | decide | omega | (dsimp only; omega)⟩ (by decide) rfl g10 ?_
            exact r_iret E dX7_send_74
          · have h := ift c44 h
            obtain ⟨r50, s49, hc48, h⟩ := nb2 h
            obtain ⟨rfl, rfl⟩ := lf2 h
            refine r_lconst E dX7_send_66 (v := 1) (by decide) ?_
            refine r_goto E (tgt := 71) dX7_send_67 (by decide) ?_
            refine cl_X7_123 E (m_X7_num hc48) dX7_send_71 ⟨Nat.le_of_ble_eq_true rfl, Nat.le_of_ble_eq_true rfl⟩ ⟨by first | decide | omega | (dsimp only; omega), by first | decide | omega | (dsimp only; omega)⟩ (by decide) rfl g10 ?_
            exact r_iret E dX7_send_74
      · have h := ift c16 h
        obtain ⟨g51, h⟩ := ck h
        obtain ⟨s52, e53, h⟩ := nbn h
        obtain ⟨rfl, rfl⟩ := lf2 h
        refine r_aload_n E (x := some h0) (i := 0) (j := 2) dX7_send_42 rfl rfl ?_
        refine gf_X7_27 E (x := gp s8 806 h0) dX7_send_43 rfl g10 rfl ?_
        refine r_iload_n E (i := 2) (j := 4) dX7_send_46 rfl rfl ?_
        refine r_iload_n E (i := 3) (j := 5) dX7_send_47 rfl rfl ?_
        refine r_iast E dX7_send_48 e12 g13 g51 ?_
        refine r_nm e53 ?_
        refine r_iload E (j := 0) dX7_send_49 rfl ?_
        exact r_iret E dX7_send_51
    · have h := ift c15 h
      obtain ⟨rfl, rfl⟩ := lf2 h
      refine r_iload E (j := 0) dX7_send_33 rfl ?_
      exact r_iret E dX7_send_35
  · have h := ift c5 h
    obtain ⟨rfl, rfl⟩ := lf2 h
    refine r_iconst E dX7_send_10 (v := -1) (by decide) ?_
    exact r_iret E dX7_send_11
