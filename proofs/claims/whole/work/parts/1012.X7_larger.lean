def ex_X7_larger (d : Dp) (σ : Sg) (h0 : Nat) (p1 : Int32) (p2 : Int32) (p3 : Int32) (p4 : Int32) : Option (Int32 × Sg) := (if gc σ h0 = 9 then (Option.bind (gp σ 801 h0) fun a2 => (if gc σ a2 = 10 then (if ¬ (p1 < 0 ∨ gl σ a2 ≤ Int32.toNatClampNeg p1) then (if (ai σ a2 (Int32.toNatClampNeg p1)) = 11 then (b2 (ex_X7_is d σ h0 p1 p3 (1 : Int32)) fun r9 s8 => (if r9 = (0 : Int32) then some ((-1 : Int32), s8) else (if gc s8 h0 = 9 then (Option.bind (gp s8 808 h0) fun a12 => (if gc s8 a12 = 11 then (if ¬ (p3 < 0 ∨ gl s8 a12 ≤ Int32.toNatClampNeg p3) then (b2 (ex_X7_newRow d s8 h0 p1 (Int64.toInt32 (aj s8 a12 (Int32.toNatClampNeg p3)))) fun r18 s17 => some (r18, s17)) else none) else none)) else none))) else (if (ai σ a2 (Int32.toNatClampNeg p1)) = 12 ∨ (ai σ a2 (Int32.toNatClampNeg p1)) = 13 then (b2 (ex_X7_is d σ h0 p1 p2 (5 : Int32)) fun r22 s21 => (if r22 = (0 : Int32) then some ((-1 : Int32), s21) else (if gc s21 h0 = 9 then (b2 (ex_X7_is d s21 h0 p1 p3 (1 : Int32)) fun r27 s26 => (if r27 = (0 : Int32) then some ((-1 : Int32), s26) else (if gc s26 h0 = 9 then (Option.bind (gp s26 808 h0) fun a30 => (if gc s26 a30 = 11 then (if ¬ (p3 < 0 ∨ gl s26 a30 ≤ Int32.toNatClampNeg p3) then (b2 (ex_X7_inRow d s26 h0 p1 p2 (Int64.toInt32 (aj s26 a30 (Int32.toNatClampNeg p3))) p4) fun r36 s35 => some (r36, s35)) else none) else none)) else none))) else none))) else (if (ai σ a2 (Int32.toNatClampNeg p1)) = 14 then (b2 (ex_X7_is d σ h0 p1 p2 (5 : Int32)) fun r40 s39 => (if r40 = (0 : Int32) then some ((-1 : Int32), s39) else (if gc s39 h0 = 9 then (Option.bind (gp s39 806 h0) fun a43 => (if gc s39 a43 = 10 then (if ¬ (p2 < 0 ∨ gl s39 a43 ≤ Int32.toNatClampNeg p2) then (if (ai s39 a43 (Int32.toNatClampNeg p2)) = (-1 : Int32) then (b2 (ex_X7_fail d s39 h0 (1 : Int32) p1) fun r54 s53 => some (r54, s53)) else (if ¬ (p2 < 0 ∨ gl s39 a43 ≤ Int32.toNatClampNeg p2) then (b2 (ex_X7_num d s39 h0 (Int32.toInt64 (ai s39 a43 (Int32.toNatClampNeg p2)))) fun r51 s50 => some (r51, s50)) else none)) else none) else none)) else none))) else (if (ai σ a2 (Int32.toNatClampNeg p1)) = 16 then (if (gi σ 813 h0) = (-1 : Int32) then (b2 (ex_X7_fail d σ h0 (1 : Int32) p1) fun r62 s61 => some (r62, s61)) else (b2 (ex_X7_fail d σ h0 (7 : Int32) p1) fun r59 s58 => some (r59, s58))) else (if (ai σ a2 (Int32.toNatClampNeg p1)) = 17 then (b2 (ex_X7_is d σ h0 p1 p2 (1 : Int32)) fun r66 s65 => (if r66 = (0 : Int32) then some ((-1 : Int32), s65) else (if gc s65 h0 = 9 then (Option.bind (gp s65 808 h0) fun a69 => (if gc s65 a69 = 11 then (if ¬ (p2 < 0 ∨ gl s65 a69 ≤ Int32.toNatClampNeg p2) then (b2 (ex_X7_make d s65 h0 (6 : Int32) (aj s65 a69 (Int32.toNatClampNeg p2)) (-1 : Int32) (-1 : Int32)) fun r75 s74 => (if gc s74 h0 = 9 then (bn (si s74 813 h0 r75) fun s77 => (if gc s77 h0 = 9 then some (gi s77 813 h0, s77) else none)) else none)) else none) else none)) else none))) else some (p3, σ)))))) else none) else none)) else none)
set_option maxHeartbeats 4000000 in
set_option maxRecDepth 20000 in
theorem m_X7_larger {l : Launch} {d : Dp} {σ σ' : Sg} {h0 : Nat} {p1 : Int32} {p2 : Int32} {p3 : Int32} {p4 : Int32} {r : Int32} (h : ex_X7_larger d σ h0 p1 p2 p3 p4 = some (r, σ')) : Mt l d yX7_larger cX7_larger 5 (some .int) 2 51 σ [.ref h0, .int (p1), .int (p2), .int (p3), .int (p4)] (some (.int r)) σ' 0 0 := by
  refine mt_start (own := RX7) (lv0 := [(0, va_rf (some h0)), (1, .int (p1)), (2, .int (p2)), (3, .int (p3)), (4, .int (p4))]) (by decide) rfl (by simp only [lg_sl, List.flatMap_cons, List.flatMap_nil, va_rf_cat]; exact Nat.le_of_ble_eq_true rfl) (by first | rfl | (simp only [lv_args, va_rf_cat]; rfl)) ?_
  intro p e s m args below meth c E hnm
  unfold ex_X7_larger at h
  obtain ⟨g1, h⟩ := ck h
  obtain ⟨a2, e3, h⟩ := nn h
  obtain ⟨g4, h⟩ := ck h
  obtain ⟨g5, h⟩ := ck h
  refine r_aload_n E (x := some h0) (i := 0) (j := 0) dX7_larger_0 rfl rfl ?_
  refine gf_X7_13 E (x := gp σ 801 h0) dX7_larger_1 rfl g1 rfl ?_
  refine r_iload_n E (i := 1) (j := 1) dX7_larger_4 rfl rfl ?_
  refine r_iald E dX7_larger_5 e3 g4 g5 ?_
  by_cases c6 : (ai σ a2 (Int32.toNatClampNeg p1)) = 11
  · have h := ift c6 h
    obtain ⟨r9, s8, hc7, h⟩ := nb2 h
    refine r_tab E (off := 42) (tgt := 48) dX7_larger_6 (by rw [c6]; decide) (fun w1 w2 => by show _ < 7; omega) (by decide) ?_
    refine r_aload_n E (x := some h0) (i := 0) (j := 0) dX7_larger_48 rfl rfl ?_
    refine r_iload_n E (i := 1) (j := 1) dX7_larger_49 rfl rfl ?_
    refine r_iload_n E (i := 3) (j := 3) dX7_larger_50 rfl rfl ?_
    refine r_iconst E dX7_larger_51 (v := 1) (by decide) ?_
    refine cl_X7_143 E (m_X7_is hc7) dX7_larger_52 ⟨Nat.le_of_ble_eq_true rfl, Nat.le_of_ble_eq_true rfl⟩ ⟨by first | decide | omega | (dsimp only; omega), by first | decide | omega | (dsimp only; omega)⟩ (by decide) rfl g1 ?_
    refine r_if_eq E (tgt := 73) dX7_larger_55 (by decide) (fun c10 => ?_) (fun c10 => ?_)
    · have h := ift c10 h
      obtain ⟨rfl, rfl⟩ := lf2 h
      refine r_iconst E dX7_larger_73 (v := -1) (by decide) ?_
      exact r_iret E dX7_larger_74
    · have h := iff' c10 h
      obtain ⟨g11, h⟩ := ck h
      obtain ⟨a12, e13, h⟩ := nn h
      obtain ⟨g14, h⟩ := ck h
      obtain ⟨g15, h⟩ := ck h
      obtain ⟨r18, s17, hc16, h⟩ := nb2 h
      obtain ⟨rfl, rfl⟩ := lf2 h
      refine r_aload_n E (x := some h0) (i := 0) (j := 0) dX7_larger_58 rfl rfl ?_
      refine r_iload_n E (i := 1) (j := 1) dX7_larger_59 rfl rfl ?_
      refine r_aload_n E (x := some h0) (i := 0) (j := 0) dX7_larger_60 rfl rfl ?_
      refine gf_X7_33 E (x := gp s8 808 h0) dX7_larger_61 rfl g11 rfl ?_
      refine r_iload_n E (i := 3) (j := 3) dX7_larger_64 rfl rfl ?_
      refine r_lald E dX7_larger_65 e13 g14 g15 ?_
      refine r_l2i E dX7_larger_66 ?_
      refine cl_X7_170 E (m_X7_newRow hc16) dX7_larger_67 ⟨Nat.le_of_ble_eq_true rfl, Nat.le_of_ble_eq_true rfl⟩ ⟨by first | decide | omega | (dsimp only; omega), by first | decide | omega | (dsimp only; omega)⟩ (by decide) rfl g11 ?_
      refine r_goto E (tgt := 74) dX7_larger_70 (by decide) ?_
      exact r_iret E dX7_larger_74
  · have h := iff' c6 h
    by_cases c19 : (ai σ a2 (Int32.toNatClampNeg p1)) = 12 ∨ (ai σ a2 (Int32.toNatClampNeg p1)) = 13
    · have h := ift c19 h
      obtain ⟨r22, s21, hc20, h⟩ := nb2 h
      refine r_tab E (off := 69) (tgt := 75) dX7_larger_6 (by rcases c19 with q | q <;> (rw [q]; decide)) (fun w1 w2 => by show _ < 7; omega) (by decide) ?_
      refine r_aload_n E (x := some h0) (i := 0) (j := 0) dX7_larger_75 rfl rfl ?_
      refine r_iload_n E (i := 1) (j := 1) dX7_larger_76 rfl rfl ?_
      refine r_iload_n E (i := 2) (j := 2) dX7_larger_77 rfl rfl ?_
      refine r_iconst E dX7_larger_78 (v := 5) (by decide) ?_
      refine cl_X7_143 E (m_X7_is hc20) dX7_larger_79 ⟨Nat.le_of_ble_eq_true rfl, Nat.le_of_ble_eq_true rfl⟩ ⟨by first | decide | omega | (dsimp only; omega), by first | decide | omega | (dsimp only; omega)⟩ (by decide) rfl g1 ?_
      refine r_if_eq E (tgt := 113) dX7_larger_82 (by decide) (fun c23 => ?_) (fun c23 => ?_)
      · have h := ift c23 h
        obtain ⟨rfl, rfl⟩ := lf2 h
        refine r_iconst E dX7_larger_113 (v := -1) (by decide) ?_
        exact r_iret E dX7_larger_114
      · have h := iff' c23 h
        obtain ⟨g24, h⟩ := ck h
        obtain ⟨r27, s26, hc25, h⟩ := nb2 h
        refine r_aload_n E (x := some h0) (i := 0) (j := 0) dX7_larger_85 rfl rfl ?_
        refine r_iload_n E (i := 1) (j := 1) dX7_larger_86 rfl rfl ?_
        refine r_iload_n E (i := 3) (j := 3) dX7_larger_87 rfl rfl ?_
        refine r_iconst E dX7_larger_88 (v := 1) (by decide) ?_
        refine cl_X7_143 E (m_X7_is hc25) dX7_larger_89 ⟨Nat.le_of_ble_eq_true rfl, Nat.le_of_ble_eq_true rfl⟩ ⟨by first | decide | omega | (dsimp only; omega), by first | decide | omega | (dsimp only; omega)⟩ (by decide) rfl g24 ?_
        refine r_if_eq E (tgt := 113) dX7_larger_92 (by decide) (fun c28 => ?_) (fun c28 => ?_)
        · have h := ift c28 h
          obtain ⟨rfl, rfl⟩ := lf2 h
          refine r_iconst E dX7_larger_113 (v := -1) (by decide) ?_
          exact r_iret E dX7_larger_114
        · have h := iff' c28 h
          obtain ⟨g29, h⟩ := ck h
          obtain ⟨a30, e31, h⟩ := nn h
          obtain ⟨g32, h⟩ := ck h
          obtain ⟨g33, h⟩ := ck h
          obtain ⟨r36, s35, hc34, h⟩ := nb2 h
          obtain ⟨rfl, rfl⟩ := lf2 h
          refine r_aload_n E (x := some h0) (i := 0) (j := 0) dX7_larger_95 rfl rfl ?_
          refine r_iload_n E (i := 1) (j := 1) dX7_larger_96 rfl rfl ?_
          refine r_iload_n E (i := 2) (j := 2) dX7_larger_97 rfl rfl ?_
          refine r_aload_n E (x := some h0) (i := 0) (j := 0) dX7_larger_98 rfl rfl ?_
          refine gf_X7_33 E (x := gp s26 808 h0) dX7_larger_99 rfl g29 rfl ?_
          refine r_iload_n E (i := 3) (j := 3) dX7_larger_102 rfl rfl ?_
          refine r_lald E dX7_larger_103 e31 g32 g33 ?_
          refine r_l2i E dX7_larger_104 ?_
          refine r_iload E (j := 4) dX7_larger_105 rfl ?_
          refine cl_X7_173 E (m_X7_inRow hc34) dX7_larger_107 ⟨Nat.le_of_ble_eq_true rfl, Nat.le_of_ble_eq_true rfl⟩ ⟨by first | decide | omega | (dsimp only; omega), by first | decide | omega | (dsimp only; omega)⟩ (by decide) rfl g29 ?_
          refine r_goto E (tgt := 114) dX7_larger_110 (by decide) ?_
          exact r_iret E dX7_larger_114
    · have h := iff' c19 h
      by_cases c37 : (ai σ a2 (Int32.toNatClampNeg p1)) = 14
      · have h := ift c37 h
        obtain ⟨r40, s39, hc38, h⟩ := nb2 h
        refine r_tab E (off := 109) (tgt := 115) dX7_larger_6 (by rw [c37]; decide) (fun w1 w2 => by show _ < 7; omega) (by decide) ?_
        refine r_aload_n E (x := some h0) (i := 0) (j := 0) dX7_larger_115 rfl rfl ?_
        refine r_iload_n E (i := 1) (j := 1) dX7_larger_116 rfl rfl ?_
        refine r_iload_n E (i := 2) (j := 2) dX7_larger_117 rfl rfl ?_
        refine r_iconst E dX7_larger_118 (v := 5) (by decide) ?_
        refine cl_X7_143 E (m_X7_is hc38) dX7_larger_119 ⟨Nat.le_of_ble_eq_true rfl, Nat.le_of_ble_eq_true rfl⟩ ⟨by first | decide | omega | (dsimp only; omega), by first | decide | omega | (dsimp only; omega)⟩ (by decide) rfl g1 ?_
        refine r_if_ne E (tgt := 127) dX7_larger_122 (by decide) (fun c41 => ?_) (fun c41 => ?_)
        · have h := iff' c41 h
          obtain ⟨g42, h⟩ := ck h
          obtain ⟨a43, e44, h⟩ := nn h
          obtain ⟨g45, h⟩ := ck h
          obtain ⟨g46, h⟩ := ck h
          refine r_aload_n E (x := some h0) (i := 0) (j := 0) dX7_larger_127 rfl rfl ?_
          refine gf_X7_27 E (x := gp s39 806 h0) dX7_larger_128 rfl g42 rfl ?_
          refine r_iload_n E (i := 2) (j := 2) dX7_larger_131 rfl rfl ?_
          refine r_iald E dX7_larger_132 e44 g45 g46 ?_
          refine r_iconst E dX7_larger_133 (v := -1) (by decide) ?_
          refine r_icmp_ne E (tgt := 146) dX7_larger_134 (by decide) (fun c47 => ?_) (fun c47 => ?_)
          · have h := iff' c47 h
            obtain ⟨g48, h⟩ := ck h
            obtain ⟨r51, s50, hc49, h⟩ := nb2 h
            obtain ⟨rfl, rfl⟩ := lf2 h
            refine r_aload_n E (x := some h0) (i := 0) (j := 0) dX7_larger_146 rfl rfl ?_
            refine r_aload_n E (x := some h0) (i := 0) (j := 0) dX7_larger_147 rfl rfl ?_
            refine gf_X7_27 E (x := gp s39 806 h0) dX7_larger_148 rfl g42 rfl ?_
            refine r_iload_n E (i := 2) (j := 2) dX7_larger_151 rfl rfl ?_
            refine r_iald E dX7_larger_152 e44 g45 g48 ?_
            refine r_i2l E dX7_larger_153 ?_
            refine cl_X7_123 E (m_X7_num hc49) dX7_larger_154 ⟨Nat.le_of_ble_eq_true rfl, Nat.le_of_ble_eq_true rfl⟩ ⟨by first | decide | omega | (dsimp only; omega), by first | decide | omega | (dsimp only; omega)⟩ (by decide) rfl g42 ?_
            exact r_iret E dX7_larger_157
          · have h := ift c47 h
            obtain ⟨r54, s53, hc52, h⟩ := nb2 h
            obtain ⟨rfl, rfl⟩ := lf2 h
            refine r_aload_n E (x := some h0) (i := 0) (j := 0) dX7_larger_137 rfl rfl ?_
            refine r_iconst E dX7_larger_138 (v := 1) (by decide) ?_
            refine r_iload_n E (i := 1) (j := 1) dX7_larger_139 rfl rfl ?_
            refine cl_X7_88 E (m_X7_fail hc52) dX7_larger_140 ⟨Nat.le_of_ble_eq_true rfl, Nat.le_of_ble_eq_true rfl⟩ ⟨by first | decide | omega | (dsimp only; omega), by first | decide | omega | (dsimp only; omega)⟩ (by decide) rfl g42 ?_
            refine r_goto E (tgt := 157) dX7_larger_143 (by decide) ?_
            exact r_iret E dX7_larger_157
        · have h := ift c41 h
          obtain ⟨rfl, rfl⟩ := lf2 h
          refine r_iconst E dX7_larger_125 (v := -1) (by decide) ?_
          exact r_iret E dX7_larger_126
      · have h := iff' c37 h
        by_cases c55 : (ai σ a2 (Int32.toNatClampNeg p1)) = 16
        · have h := ift c55 h
          refine r_tab E (off := 152) (tgt := 158) dX7_larger_6 (by rw [c55]; decide) (fun w1 w2 => by show _ < 7; omega) (by decide) ?_
          refine r_aload_n E (x := some h0) (i := 0) (j := 0) dX7_larger_158 rfl rfl ?_
          refine r_aload_n E (x := some h0) (i := 0) (j := 0) dX7_larger_159 rfl rfl ?_
          refine gf_X7_42 E (x := gi σ 813 h0) dX7_larger_160 rfl g1 rfl ?_
          refine r_iconst E dX7_larger_163 (v := -1) (by decide) ?_
          refine r_icmp_ne E (tgt := 171) dX7_larger_164 (by decide) (fun c56 => ?_) (fun c56 => ?_)
          · have h := iff' c56 h
            obtain ⟨r59, s58, hc57, h⟩ := nb2 h
            obtain ⟨rfl, rfl⟩ := lf2 h
            refine r_bipush E dX7_larger_171 (v := 7) (by decide) ?_
            refine r_iload_n E (i := 1) (j := 1) dX7_larger_173 rfl rfl ?_
            refine cl_X7_88 E (m_X7_fail hc57) dX7_larger_174 ⟨Nat.le_of_ble_eq_true rfl, Nat.le_of_ble_eq_true rfl⟩ ⟨by first | decide | omega | (dsimp only; omega), by first | decide | omega | (dsimp only; omega)⟩ (by decide) rfl g1 ?_
            exact r_iret E dX7_larger_177
          · have h := ift c56 h
            obtain ⟨r62, s61, hc60, h⟩ := nb2 h
            obtain ⟨rfl, rfl⟩ := lf2 h
            refine r_iconst E dX7_larger_167 (v := 1) (by decide) ?_
            refine r_goto E (tgt := 173) dX7_larger_168 (by decide) ?_
            refine r_iload_n E (i := 1) (j := 1) dX7_larger_173 rfl rfl ?_
            refine cl_X7_88 E (m_X7_fail hc60) dX7_larger_174 ⟨Nat.le_of_ble_eq_true rfl, Nat.le_of_ble_eq_true rfl⟩ ⟨by first | decide | omega | (dsimp only; omega), by first | decide | omega | (dsimp only; omega)⟩ (by decide) rfl g1 ?_
            exact r_iret E dX7_larger_177
        · have h := iff' c55 h
          by_cases c63 : (ai σ a2 (Int32.toNatClampNeg p1)) = 17
          · have h := ift c63 h
            obtain ⟨r66, s65, hc64, h⟩ := nb2 h
            refine r_tab E (off := 172) (tgt := 178) dX7_larger_6 (by rw [c63]; decide) (fun w1 w2 => by show _ < 7; omega) (by decide) ?_
            refine r_aload_n E (x := some h0) (i := 0) (j := 0) dX7_larger_178 rfl rfl ?_
            refine r_iload_n E (i := 1) (j := 1) dX7_larger_179 rfl rfl ?_
            refine r_iload_n E (i := 2) (j := 2) dX7_larger_180 rfl rfl ?_
            refine r_iconst E dX7_larger_181 (v := 1) (by decide) ?_
            refine cl_X7_143 E (m_X7_is hc64) dX7_larger_182 ⟨Nat.le_of_ble_eq_true rfl, Nat.le_of_ble_eq_true rfl⟩ ⟨by first | decide | omega | (dsimp only; omega), by first | decide | omega | (dsimp only; omega)⟩ (by decide) rfl g1 ?_
            refine r_if_ne E (tgt := 190) dX7_larger_185 (by decide) (fun c67 => ?_) (fun c67 => ?_)
            · have h := iff' c67 h
              obtain ⟨g68, h⟩ := ck h
              obtain ⟨a69, e70, h⟩ := nn h
              obtain ⟨g71, h⟩ := ck h
              obtain ⟨g72, h⟩ := ck h
              obtain ⟨r75, s74, hc73, h⟩ := nb2 h
              obtain ⟨g76, h⟩ := ck h
              obtain ⟨s77, e78, h⟩ := nbn h
              obtain ⟨g79, h⟩ := ck h
              obtain ⟨rfl, rfl⟩ := lf2 h
              refine r_aload_n E (x := some h0) (i := 0) (j := 0) dX7_larger_190 rfl rfl ?_
              refine r_aload_n E (x := some h0) (i := 0) (j := 0) dX7_larger_191 rfl rfl ?_
              refine r_bipush E dX7_larger_192 (v := 6) (by decide) ?_
              refine r_aload_n E (x := some h0) (i := 0) (j := 0) dX7_larger_194 rfl rfl ?_
              refine gf_X7_33 E (x := gp s65 808 h0) dX7_larger_195 rfl g68 rfl ?_
              refine r_iload_n E (i := 2) (j := 2) dX7_larger_198 rfl rfl ?_
              refine r_lald E dX7_larger_199 e70 g71 g72 ?_
              refine r_iconst E dX7_larger_200 (v := -1) (by decide) ?_
              refine r_iconst E dX7_larger_201 (v := -1) (by decide) ?_
              refine cl_X7_78 E (m_X7_make hc73) dX7_larger_202 ⟨Nat.le_of_ble_eq_true rfl, Nat.le_of_ble_eq_true rfl⟩ ⟨by first | decide | omega | (dsimp only; omega), by first | decide | omega | (dsimp only; omega)⟩ (by simp only [List.map_cons, List.map_nil, va_rf_cat]; exact Nat.le_of_ble_eq_true rfl) rfl g68 ?_
              refine pf_X7_42 E dX7_larger_205 rfl g76 ?_
              refine r_nm e78 ?_
              refine r_aload_n E (x := some h0) (i := 0) (j := 0) dX7_larger_208 rfl rfl ?_
              refine gf_X7_42 E (x := gi s77 813 h0) dX7_larger_209 rfl g79 rfl ?_
              exact r_iret E dX7_larger_212
            · have h := ift c67 h
              obtain ⟨rfl, rfl⟩ := lf2 h
              refine r_iconst E dX7_larger_188 (v := -1) (by decide) ?_
              exact r_iret E dX7_larger_189
          · have h := iff' c63 h
            obtain ⟨rfl, rfl⟩ := lf2 h
            refine r_tab E (off := 207) (tgt := 213) dX7_larger_6 (by have z0 := lv_neT (x := ai σ a2 (Int32.toNatClampNeg p1)) (k := 11) (a := 11) c6 (by decide); have z1 := lv_neT (x := ai σ a2 (Int32.toNatClampNeg p1)) (k := 12) (a := 12) (fun q => c19 (Or.inl q)) (by decide); have z2 := lv_neT (x := ai σ a2 (Int32.toNatClampNeg p1)) (k := 13) (a := 13) (fun q => c19 (Or.inr (q))) (by decide); have z3 := lv_neT (x := ai σ a2 (Int32.toNatClampNeg p1)) (k := 14) (a := 14) c37 (by decide); have z4 := lv_neT (x := ai σ a2 (Int32.toNatClampNeg p1)) (k := 16) (a := 16) c55 (by decide); have z5 := lv_neT (x := ai σ a2 (Int32.toNatClampNeg p1)) (k := 17) (a := 17) c63 (by decide); by_cases w1 : Int32.toInt (ai σ a2 (Int32.toNatClampNeg p1)) < 11 <;> by_cases w2 : 17 < Int32.toInt (ai σ a2 (Int32.toNatClampNeg p1)) <;> first | (simp [w1, w2]; done) | (have zz : Int32.toInt (ai σ a2 (Int32.toNatClampNeg p1)) = 15 := (by omega); rw [zz]; decide)) (fun w1 w2 => by show _ < 7; omega) (by decide) ?_
            refine r_iload_n E (i := 3) (j := 3) dX7_larger_213 rfl rfl ?_
            exact r_iret E dX7_larger_214
