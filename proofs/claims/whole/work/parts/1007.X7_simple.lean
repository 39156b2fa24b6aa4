def ex_X7_simple (d : Dp) (σ : Sg) (h0 : Nat) (p1 : Int32) (p2 : Int32) (p3 : Int32) (p4 : Int32) : Option (Int32 × Sg) := (if gc σ h0 = 9 then (Option.bind (gp σ 801 h0) fun a2 => (if gc σ a2 = 10 then (if ¬ (p1 < 0 ∨ gl σ a2 ≤ Int32.toNatClampNeg p1) then (if (ai σ a2 (Int32.toNatClampNeg p1)) = 0 then (Option.bind (gp σ 803 h0) fun a7 => (if gc σ a7 = 11 then (if ¬ (p1 < 0 ∨ gl σ a7 ≤ Int32.toNatClampNeg p1) then (b2 (ex_X7_num d σ h0 (aj σ a7 (Int32.toNatClampNeg p1))) fun r13 s12 => some (r13, s12)) else none) else none)) else (if (ai σ a2 (Int32.toNatClampNeg p1)) = 1 then (b2 (ex_X7_number d σ h0 p1 (0 : Int32)) fun r17 s16 => (if gc s16 h0 = 9 then (b2 (ex_X7_noSlot d s16 h0 p1 r17) fun r21 s20 => (if r21 = (0 : Int32) then (if gc s20 h0 = 9 then (b2 (ex_X7_number d s20 h0 p1 (0 : Int32)) fun r26 s25 => (Option.bind (gp s20 812 h0) fun a27 => (if gc s25 a27 = 10 then (if ¬ (r26 < 0 ∨ gl s25 a27 ≤ Int32.toNatClampNeg r26) then some (ai s25 a27 (Int32.toNatClampNeg r26), s25) else none) else none))) else none) else some ((-1 : Int32), s20))) else none)) else (if (ai σ a2 (Int32.toNatClampNeg p1)) = 2 then (b2 (ex_X7_number d σ h0 p1 (0 : Int32)) fun r34 s33 => (if gc s33 h0 = 9 then (b2 (ex_X7_noSlot d s33 h0 p1 r34) fun r38 s37 => (if r38 = (0 : Int32) then (if gc s37 h0 = 9 then (b2 (ex_X7_number d s37 h0 p1 (0 : Int32)) fun r43 s42 => (Option.bind (gp s37 812 h0) fun a44 => (if gc s42 a44 = 10 then (if ¬ (r43 < 0 ∨ gl s42 a44 ≤ Int32.toNatClampNeg r43) then (bn (wi s42 a44 (Int32.toNatClampNeg r43) p3) fun s48 => some (p3, s48)) else none) else none))) else none) else some ((-1 : Int32), s37))) else none)) else (if (ai σ a2 (Int32.toNatClampNeg p1)) = 3 then (b2 (ex_X7_make d σ h0 (2 : Int32) (0 : Int64) p2 p3) fun r53 s52 => some (r53, s52)) else (if (ai σ a2 (Int32.toNatClampNeg p1)) = 4 then (b2 (ex_X7_make d σ h0 (3 : Int32) (0 : Int64) p2 p3) fun r57 s56 => some (r57, s56)) else (if (ai σ a2 (Int32.toNatClampNeg p1)) = 5 then (b2 (ex_X7_make d σ h0 (4 : Int32) (0 : Int64) p2 (-1 : Int32)) fun r61 s60 => some (r61, s60)) else (if (ai σ a2 (Int32.toNatClampNeg p1)) = 6 then (b2 (ex_X7_is d σ h0 p1 p2 (2 : Int32)) fun r65 s64 => (if r65 = (0 : Int32) then some ((-1 : Int32), s64) else (if gc s64 h0 = 9 then (b2 (ex_X7_number d s64 h0 p1 (1 : Int32)) fun r70 s69 => (if r70 = (0 : Int32) then (if gc s69 h0 = 9 then (Option.bind (gp s69 806 h0) fun a78 => (if gc s69 a78 = 10 then (if ¬ (p2 < 0 ∨ gl s69 a78 ≤ Int32.toNatClampNeg p2) then some (ai s69 a78 (Int32.toNatClampNeg p2), s69) else none) else none)) else none) else (if gc s69 h0 = 9 then (Option.bind (gp s69 807 h0) fun a73 => (if gc s69 a73 = 10 then (if ¬ (p2 < 0 ∨ gl s69 a73 ≤ Int32.toNatClampNeg p2) then some (ai s69 a73 (Int32.toNatClampNeg p2), s69) else none) else none)) else none))) else none))) else (if (ai σ a2 (Int32.toNatClampNeg p1)) = 7 then (b2 (ex_X7_is d σ h0 p1 p2 (2 : Int32)) fun r85 s84 => (if r85 = (0 : Int32) then some ((-1 : Int32), s84) else (if gc s84 h0 = 9 then (b2 (ex_X7_number d s84 h0 p1 (1 : Int32)) fun r90 s89 => (if r90 = (0 : Int32) then (if gc s89 h0 = 9 then (Option.bind (gp s89 806 h0) fun a100 => (if gc s89 a100 = 10 then (if ¬ (p2 < 0 ∨ gl s89 a100 ≤ Int32.toNatClampNeg p2) then (bn (wi s89 a100 (Int32.toNatClampNeg p2) p4) fun s104 => some (p4, s104)) else none) else none)) else none) else (if gc s89 h0 = 9 then (Option.bind (gp s89 807 h0) fun a93 => (if gc s89 a93 = 10 then (if ¬ (p2 < 0 ∨ gl s89 a93 ≤ Int32.toNatClampNeg p2) then (bn (wi s89 a93 (Int32.toNatClampNeg p2) p4) fun s97 => some (p4, s97)) else none) else none)) else none))) else none))) else (if (ai σ a2 (Int32.toNatClampNeg p1)) = 8 then (b2 (ex_X7_is d σ h0 p1 p2 (3 : Int32)) fun r109 s108 => (if r109 = (0 : Int32) then some ((-1 : Int32), s108) else (if gc s108 h0 = 9 then (Option.bind (gp s108 806 h0) fun a112 => (if gc s108 a112 = 10 then (if ¬ (p2 < 0 ∨ gl s108 a112 ≤ Int32.toNatClampNeg p2) then some (ai s108 a112 (Int32.toNatClampNeg p2), s108) else none) else none)) else none))) else (b2 (ex_X7_is d σ h0 p1 p2 (3 : Int32)) fun r118 s117 => (if r118 = (0 : Int32) then some ((-1 : Int32), s117) else (if gc s117 h0 = 9 then (Option.bind (gp s117 807 h0) fun a121 => (if gc s117 a121 = 10 then (if ¬ (p2 < 0 ∨ gl s117 a121 ≤ Int32.toNatClampNeg p2) then some (ai s117 a121 (Int32.toNatClampNeg p2), s117) else none) else none)) else none)))))))))))) else none) else none)) else none)
set_option maxHeartbeats 4000000 in
set_option maxRecDepth 20000 in
theorem m_X7_simple {l : Launch} {d : Dp} {σ σ' : Sg} {h0 : Nat} {p1 : Int32} {p2 : Int32} {p3 : Int32} {p4 : Int32} {r : Int32} (h : ex_X7_simple d σ h0 p1 p2 p3 p4 = some (r, σ')) : Mt l d yX7_simple cX7_simple 5 (some .int) 2 48 σ [.ref h0, .int (p1), .int (p2), .int (p3), .int (p4)] (some (.int r)) σ' 0 0 := by
  refine mt_start (own := RX7) (lv0 := [(0, va_rf (some h0)), (1, .int (p1)), (2, .int (p2)), (3, .int (p3)), (4, .int (p4))]) (by decide) rfl (by simp only [lg_sl, List.flatMap_cons, List.flatMap_nil, va_rf_cat]; exact Nat.le_of_ble_eq_true rfl) (by first | rfl | (simp only [lv_args, va_rf_cat]; rfl)) ?_
  intro p e s m args below meth c E hnm
  unfold ex_X7_simple at h
  obtain ⟨g1, h⟩ := ck h
  obtain ⟨a2, e3, h⟩ := nn h
  obtain ⟨g4, h⟩ := ck h
  obtain ⟨g5, h⟩ := ck h
  refine r_aload_n E (x := some h0) (i := 0) (j := 0) dX7_simple_0 rfl rfl ?_
  refine gf_X7_13 E (x := gp σ 801 h0) dX7_simple_1 rfl g1 rfl ?_
  refine r_iload_n E (i := 1) (j := 1) dX7_simple_4 rfl rfl ?_
  refine r_iald E dX7_simple_5 e3 g4 g5 ?_
  by_cases c6 : (ai σ a2 (Int32.toNatClampNeg p1)) = 0
  · have h := ift c6 h
    obtain ⟨a7, e8, h⟩ := nn h
    obtain ⟨g9, h⟩ := ck h
    obtain ⟨g10, h⟩ := ck h
    obtain ⟨r13, s12, hc11, h⟩ := nb2 h
    obtain ⟨rfl, rfl⟩ := lf2 h
    refine r_tab E (off := 50) (tgt := 56) dX7_simple_6 (by rw [c6]; decide) (fun w1 w2 => by show _ < 9; omega) (by decide) ?_
    refine r_aload_n E (x := some h0) (i := 0) (j := 0) dX7_simple_56 rfl rfl ?_
    refine r_aload_n E (x := some h0) (i := 0) (j := 0) dX7_simple_57 rfl rfl ?_
    refine gf_X7_19 E (x := gp σ 803 h0) dX7_simple_58 rfl g1 rfl ?_
    refine r_iload_n E (i := 1) (j := 1) dX7_simple_61 rfl rfl ?_
    refine r_lald E dX7_simple_62 e8 g9 g10 ?_
    refine cl_X7_123 E (m_X7_num hc11) dX7_simple_63 ⟨Nat.le_of_ble_eq_true rfl, Nat.le_of_ble_eq_true rfl⟩ ⟨by first | decide | omega | (dsimp only; omega), by first | decide | omega | (dsimp only; omega)⟩ (by decide) rfl g1 ?_
    exact r_iret E dX7_simple_66
  · have h := iff' c6 h
    by_cases c14 : (ai σ a2 (Int32.toNatClampNeg p1)) = 1
    · have h := ift c14 h
      obtain ⟨r17, s16, hc15, h⟩ := nb2 h
      obtain ⟨g18, h⟩ := ck h
      obtain ⟨r21, s20, hc19, h⟩ := nb2 h
      refine r_tab E (off := 61) (tgt := 67) dX7_simple_6 (by rw [c14]; decide) (fun w1 w2 => by show _ < 9; omega) (by decide) ?_
      refine r_aload_n E (x := some h0) (i := 0) (j := 0) dX7_simple_67 rfl rfl ?_
      refine r_iload_n E (i := 1) (j := 1) dX7_simple_68 rfl rfl ?_
      refine r_aload_n E (x := some h0) (i := 0) (j := 0) dX7_simple_69 rfl rfl ?_
      refine r_iload_n E (i := 1) (j := 1) dX7_simple_70 rfl rfl ?_
      refine r_iconst E dX7_simple_71 (v := 0) (by decide) ?_
      refine cl_X7_101 E (m_X7_number hc15) dX7_simple_72 ⟨Nat.le_of_ble_eq_true rfl, Nat.le_of_ble_eq_true rfl⟩ ⟨by first | decide | omega | (dsimp only; omega), by first | decide | omega | (dsimp only; omega)⟩ (by simp only [List.map_cons, List.map_nil, va_rf_cat]; exact Nat.le_of_ble_eq_true rfl) rfl g1 ?_
      refine cl_X7_161 E (m_X7_noSlot hc19) dX7_simple_75 ⟨Nat.le_of_ble_eq_true rfl, Nat.le_of_ble_eq_true rfl⟩ ⟨by first | decide | omega | (dsimp only; omega), by first | decide | omega | (dsimp only; omega)⟩ (by decide) rfl g18 ?_
      refine r_if_eq E (tgt := 85) dX7_simple_78 (by decide) (fun c22 => ?_) (fun c22 => ?_)
      · have h := ift c22 h
        obtain ⟨g23, h⟩ := ck h
        obtain ⟨r26, s25, hc24, h⟩ := nb2 h
        obtain ⟨a27, e28, h⟩ := nn h
        obtain ⟨g29, h⟩ := ck h
        obtain ⟨g30, h⟩ := ck h
        obtain ⟨rfl, rfl⟩ := lf2 h
        refine r_aload_n E (x := some h0) (i := 0) (j := 0) dX7_simple_85 rfl rfl ?_
        refine gf_X7_39 E (x := gp s20 812 h0) dX7_simple_86 rfl g23 rfl ?_
        refine r_aload_n E (x := some h0) (i := 0) (j := 0) dX7_simple_89 rfl rfl ?_
        refine r_iload_n E (i := 1) (j := 1) dX7_simple_90 rfl rfl ?_
        refine r_iconst E dX7_simple_91 (v := 0) (by decide) ?_
        refine cl_X7_101 E (m_X7_number hc24) dX7_simple_92 ⟨Nat.le_of_ble_eq_true rfl, Nat.le_of_ble_eq_true rfl⟩ ⟨by first | decide | omega | (dsimp only; omega), by first | decide | omega | (dsimp only; omega)⟩ (by simp only [List.map_cons, List.map_nil, va_rf_cat]; exact Nat.le_of_ble_eq_true rfl) rfl g23 ?_
        refine r_iald E dX7_simple_95 e28 g29 g30 ?_
        exact r_iret E dX7_simple_96
      · have h := iff' c22 h
        obtain ⟨rfl, rfl⟩ := lf2 h
        refine r_iconst E dX7_simple_81 (v := -1) (by decide) ?_
        refine r_goto E (tgt := 96) dX7_simple_82 (by decide) ?_
        exact r_iret E dX7_simple_96
    · have h := iff' c14 h
      by_cases c31 : (ai σ a2 (Int32.toNatClampNeg p1)) = 2
      · have h := ift c31 h
        obtain ⟨r34, s33, hc32, h⟩ := nb2 h
        obtain ⟨g35, h⟩ := ck h
        obtain ⟨r38, s37, hc36, h⟩ := nb2 h
        refine r_tab E (off := 91) (tgt := 97) dX7_simple_6 (by rw [c31]; decide) (fun w1 w2 => by show _ < 9; omega) (by decide) ?_
        refine r_aload_n E (x := some h0) (i := 0) (j := 0) dX7_simple_97 rfl rfl ?_
        refine r_iload_n E (i := 1) (j := 1) dX7_simple_98 rfl rfl ?_
        refine r_aload_n E (x := some h0) (i := 0) (j := 0) dX7_simple_99 rfl rfl ?_
        refine r_iload_n E (i := 1) (j := 1) dX7_simple_100 rfl rfl ?_
        refine r_iconst E dX7_simple_101 (v := 0) (by decide) ?_
        refine cl_X7_101 E (m_X7_number hc32) dX7_simple_102 ⟨Nat.le_of_ble_eq_true rfl, Nat.le_of_ble_eq_true rfl⟩ ⟨by first | decide | omega | (dsimp only; omega), by first | decide | omega | (dsimp only; omega)⟩ (by simp only [List.map_cons, List.map_nil, va_rf_cat]; exact Nat.le_of_ble_eq_true rfl) rfl g1 ?_
        refine cl_X7_161 E (m_X7_noSlot hc36) dX7_simple_105 ⟨Nat.le_of_ble_eq_true rfl, Nat.le_of_ble_eq_true rfl⟩ ⟨by first | decide | omega | (dsimp only; omega), by first | decide | omega | (dsimp only; omega)⟩ (by decide) rfl g35 ?_
        refine r_if_eq E (tgt := 113) dX7_simple_108 (by decide) (fun c39 => ?_) (fun c39 => ?_)
        · have h := ift c39 h
          obtain ⟨g40, h⟩ := ck h
          obtain ⟨r43, s42, hc41, h⟩ := nb2 h
          obtain ⟨a44, e45, h⟩ := nn h
          obtain ⟨g46, h⟩ := ck h
          obtain ⟨g47, h⟩ := ck h
          obtain ⟨s48, e49, h⟩ := nbn h
          obtain ⟨rfl, rfl⟩ := lf2 h
          refine r_aload_n E (x := some h0) (i := 0) (j := 0) dX7_simple_113 rfl rfl ?_
          refine gf_X7_39 E (x := gp s37 812 h0) dX7_simple_114 rfl g40 rfl ?_
          refine r_aload_n E (x := some h0) (i := 0) (j := 0) dX7_simple_117 rfl rfl ?_
          refine r_iload_n E (i := 1) (j := 1) dX7_simple_118 rfl rfl ?_
          refine r_iconst E dX7_simple_119 (v := 0) (by decide) ?_
          refine cl_X7_101 E (m_X7_number hc41) dX7_simple_120 ⟨Nat.le_of_ble_eq_true rfl, Nat.le_of_ble_eq_true rfl⟩ ⟨by first | decide | omega | (dsimp only; omega), by first | decide | omega | (dsimp only; omega)⟩ (by simp only [List.map_cons, List.map_nil, va_rf_cat]; exact Nat.le_of_ble_eq_true rfl) rfl g40 ?_
          refine r_iload_n E (i := 3) (j := 3) dX7_simple_123 rfl rfl ?_
          refine r_iast E dX7_simple_124 e45 g46 g47 ?_
          refine r_nm e49 ?_
          refine r_iload_n E (i := 3) (j := 3) dX7_simple_125 rfl rfl ?_
          exact r_iret E dX7_simple_126
        · have h := iff' c39 h
          obtain ⟨rfl, rfl⟩ := lf2 h
          refine r_iconst E dX7_simple_111 (v := -1) (by decide) ?_
          exact r_iret E dX7_simple_112
      · have h := iff' c31 h
        by_cases c50 : (ai σ a2 (Int32.toNatClampNeg p1)) = 3
        · have h := ift c50 h
          obtain ⟨r53, s52, hc51, h⟩ := nb2 h
          obtain ⟨rfl, rfl⟩ := lf2 h
          refine r_tab E (off := 121) (tgt := 127) dX7_simple_6 (by rw [c50]; decide) (fun w1 w2 => by show _ < 9; omega) (by decide) ?_
          refine r_aload_n E (x := some h0) (i := 0) (j := 0) dX7_simple_127 rfl rfl ?_
          refine r_iconst E dX7_simple_128 (v := 2) (by decide) ?_
          refine r_lconst E dX7_simple_129 (v := 0) (by decide) ?_
          refine r_iload_n E (i := 2) (j := 2) dX7_simple_130 rfl rfl ?_
          refine r_iload_n E (i := 3) (j := 3) dX7_simple_131 rfl rfl ?_
          refine cl_X7_78 E (m_X7_make hc51) dX7_simple_132 ⟨Nat.le_of_ble_eq_true rfl, Nat.le_of_ble_eq_true rfl⟩ ⟨by first | decide | omega | (dsimp only; omega), by first | decide | omega | (dsimp only; omega)⟩ (by decide) rfl g1 ?_
          exact r_iret E dX7_simple_135
        · have h := iff' c50 h
          by_cases c54 : (ai σ a2 (Int32.toNatClampNeg p1)) = 4
          · have h := ift c54 h
            obtain ⟨r57, s56, hc55, h⟩ := nb2 h
            obtain ⟨rfl, rfl⟩ := lf2 h
            refine r_tab E (off := 130) (tgt := 136) dX7_simple_6 (by rw [c54]; decide) (fun w1 w2 => by show _ < 9; omega) (by decide) ?_
            refine r_aload_n E (x := some h0) (i := 0) (j := 0) dX7_simple_136 rfl rfl ?_
            refine r_iconst E dX7_simple_137 (v := 3) (by decide) ?_
            refine r_lconst E dX7_simple_138 (v := 0) (by decide) ?_
            refine r_iload_n E (i := 2) (j := 2) dX7_simple_139 rfl rfl ?_
            refine r_iload_n E (i := 3) (j := 3) dX7_simple_140 rfl rfl ?_
            refine cl_X7_78 E (m_X7_make hc55) dX7_simple_141 ⟨Nat.le_of_ble_eq_true rfl, Nat.le_of_ble_eq_true rfl⟩ ⟨by first | decide | omega | (dsimp only; omega), by first | decide | omega | (dsimp only; omega)⟩ (by decide) rfl g1 ?_
            exact r_iret E dX7_simple_144
          · have h := iff' c54 h
            by_cases c58 : (ai σ a2 (Int32.toNatClampNeg p1)) = 5
            · have h := ift c58 h
              obtain ⟨r61, s60, hc59, h⟩ := nb2 h
              obtain ⟨rfl, rfl⟩ := lf2 h
              refine r_tab E (off := 139) (tgt := 145) dX7_simple_6 (by rw [c58]; decide) (fun w1 w2 => by show _ < 9; omega) (by decide) ?_
              refine r_aload_n E (x := some h0) (i := 0) (j := 0) dX7_simple_145 rfl rfl ?_
              refine r_iconst E dX7_simple_146 (v := 4) (by decide) ?_
              refine r_lconst E dX7_simple_147 (v := 0) (by decide) ?_
              refine r_iload_n E (i := 2) (j := 2) dX7_simple_148 rfl rfl ?_
              refine r_iconst E dX7_simple_149 (v := -1) (by decide) ?_
              refine cl_X7_78 E (m_X7_make hc59) dX7_simple_150 ⟨Nat.le_of_ble_eq_true rfl, Nat.le_of_ble_eq_true rfl⟩ ⟨by first | decide | omega | (dsimp only; omega), by first | decide | omega | (dsimp only; omega)⟩ (by decide) rfl g1 ?_
              exact r_iret E dX7_simple_153
            · have h := iff' c58 h
              by_cases c62 : (ai σ a2 (Int32.toNatClampNeg p1)) = 6
              · have h := ift c62 h
                obtain ⟨r65, s64, hc63, h⟩ := nb2 h
                refine r_tab E (off := 148) (tgt := 154) dX7_simple_6 (by rw [c62]; decide) (fun w1 w2 => by show _ < 9; omega) (by decide) ?_
                refine r_aload_n E (x := some h0) (i := 0) (j := 0) dX7_simple_154 rfl rfl ?_
                refine r_iload_n E (i := 1) (j := 1) dX7_simple_155 rfl rfl ?_
                refine r_iload_n E (i := 2) (j := 2) dX7_simple_156 rfl rfl ?_
                refine r_iconst E dX7_simple_157 (v := 2) (by decide) ?_
                refine cl_X7_143 E (m_X7_is hc63) dX7_simple_158 ⟨Nat.le_of_ble_eq_true rfl, Nat.le_of_ble_eq_true rfl⟩ ⟨by first | decide | omega | (dsimp only; omega), by first | decide | omega | (dsimp only; omega)⟩ (by decide) rfl g1 ?_
                refine r_if_ne E (tgt := 166) dX7_simple_161 (by decide) (fun c66 => ?_) (fun c66 => ?_)
                · have h := iff' c66 h
                  obtain ⟨g67, h⟩ := ck h
                  obtain ⟨r70, s69, hc68, h⟩ := nb2 h
                  refine r_aload_n E (x := some h0) (i := 0) (j := 0) dX7_simple_166 rfl rfl ?_
                  refine r_iload_n E (i := 1) (j := 1) dX7_simple_167 rfl rfl ?_
                  refine r_iconst E dX7_simple_168 (v := 1) (by decide) ?_
                  refine cl_X7_101 E (m_X7_number hc68) dX7_simple_169 ⟨Nat.le_of_ble_eq_true rfl, Nat.le_of_ble_eq_true rfl⟩ ⟨by first | decide | omega | (dsimp only; omega), by first | decide | omega | (dsimp only; omega)⟩ (by decide) rfl g67 ?_
                  refine r_if_ne E (tgt := 184) dX7_simple_172 (by decide) (fun c71 => ?_) (fun c71 => ?_)
                  · have h := iff' c71 h
                    obtain ⟨g72, h⟩ := ck h
                    obtain ⟨a73, e74, h⟩ := nn h
                    obtain ⟨g75, h⟩ := ck h
                    obtain ⟨g76, h⟩ := ck h
                    obtain ⟨rfl, rfl⟩ := lf2 h
                    refine r_aload_n E (x := some h0) (i := 0) (j := 0) dX7_simple_184 rfl rfl ?_
                    refine gf_X7_30 E (x := gp s69 807 h0) dX7_simple_185 rfl g72 rfl ?_
                    refine r_iload_n E (i := 2) (j := 2) dX7_simple_188 rfl rfl ?_
                    refine r_iald E dX7_simple_189 e74 g75 g76 ?_
                    exact r_iret E dX7_simple_190
                  · have h := ift c71 h
                    obtain ⟨g77, h⟩ := ck h
                    obtain ⟨a78, e79, h⟩ := nn h
                    obtain ⟨g80, h⟩ := ck h
                    obtain ⟨g81, h⟩ := ck h
                    obtain ⟨rfl, rfl⟩ := lf2 h
                    refine r_aload_n E (x := some h0) (i := 0) (j := 0) dX7_simple_175 rfl rfl ?_
                    refine gf_X7_27 E (x := gp s69 806 h0) dX7_simple_176 rfl g77 rfl ?_
                    refine r_iload_n E (i := 2) (j := 2) dX7_simple_179 rfl rfl ?_
                    refine r_iald E dX7_simple_180 e79 g80 g81 ?_
                    refine r_goto E (tgt := 190) dX7_simple_181 (by decide) ?_
                    exact r_iret E dX7_simple_190
                · have h := ift c66 h
                  obtain ⟨rfl, rfl⟩ := lf2 h
                  refine r_iconst E dX7_simple_164 (v := -1) (by decide) ?_
                  exact r_iret E dX7_simple_165
              · have h := iff' c62 h
                by_cases c82 : (ai σ a2 (Int32.toNatClampNeg p1)) = 7
                · have h := ift c82 h
                  obtain ⟨r85, s84, hc83, h⟩ := nb2 h
                  refine r_tab E (off := 185) (tgt := 191) dX7_simple_6 (by rw [c82]; decide) (fun w1 w2 => by show _ < 9; omega) (by decide) ?_
                  refine r_aload_n E (x := some h0) (i := 0) (j := 0) dX7_simple_191 rfl rfl ?_
                  refine r_iload_n E (i := 1) (j := 1) dX7_simple_192 rfl rfl ?_
                  refine r_iload_n E (i := 2) (j := 2) dX7_simple_193 rfl rfl ?_
                  refine r_iconst E dX7_simple_194 (v := 2) (by decide) ?_
                  refine cl_X7_143 E (m_X7_is hc83) dX7_simple_195 ⟨Nat.le_of_ble_eq_true rfl, Nat.le_of_ble_eq_true rfl⟩ ⟨by first | decide | omega | (dsimp only; omega), by first | decide | omega | (dsimp only; omega)⟩ (by decide) rfl g1 ?_
                  refine r_if_ne E (tgt := 203) dX7_simple_198 (by decide) (fun c86 => ?_) (fun c86 => ?_)
                  · have h := iff' c86 h
                    obtain ⟨g87, h⟩ := ck h
                    obtain ⟨r90, s89, hc88, h⟩ := nb2 h
                    refine r_aload_n E (x := some h0) (i := 0) (j := 0) dX7_simple_203 rfl rfl ?_
                    refine r_iload_n E (i := 1) (j := 1) dX7_simple_204 rfl rfl ?_
                    refine r_iconst E dX7_simple_205 (v := 1) (by decide) ?_
                    refine cl_X7_101 E (m_X7_number hc88) dX7_simple_206 ⟨Nat.le_of_ble_eq_true rfl, Nat.le_of_ble_eq_true rfl⟩ ⟨by first | decide | omega | (dsimp only; omega), by first | decide | omega | (dsimp only; omega)⟩ (by decide) rfl g87 ?_
                    refine r_if_ne E (tgt := 223) dX7_simple_209 (by decide) (fun c91 => ?_) (fun c91 => ?_)
                    · have h := iff' c91 h
                      obtain ⟨g92, h⟩ := ck h
                      obtain ⟨a93, e94, h⟩ := nn h
                      obtain ⟨g95, h⟩ := ck h
                      obtain ⟨g96, h⟩ := ck h
                      obtain ⟨s97, e98, h⟩ := nbn h
                      obtain ⟨rfl, rfl⟩ := lf2 h
                      refine r_aload_n E (x := some h0) (i := 0) (j := 0) dX7_simple_223 rfl rfl ?_
                      refine gf_X7_30 E (x := gp s89 807 h0) dX7_simple_224 rfl g92 rfl ?_
                      refine r_iload_n E (i := 2) (j := 2) dX7_simple_227 rfl rfl ?_
                      refine r_iload E (j := 4) dX7_simple_228 rfl ?_
                      refine r_iast E dX7_simple_230 e94 g95 g96 ?_
                      refine r_nm e98 ?_
                      refine r_iload E (j := 4) dX7_simple_231 rfl ?_
                      exact r_iret E dX7_simple_233
                    · have h := ift c91 h
                      obtain ⟨g99, h⟩ := ck h
                      obtain ⟨a100, e101, h⟩ := nn h
                      obtain ⟨g102, h⟩ := ck h
                      obtain ⟨g103, h⟩ := ck h
                      obtain ⟨s104, e105, h⟩ := nbn h
                      obtain ⟨rfl, rfl⟩ := lf2 h
                      refine r_aload_n E (x := some h0) (i := 0) (j := 0) dX7_simple_212 rfl rfl ?_
                      refine gf_X7_27 E (x := gp s89 806 h0) dX7_simple_213 rfl g99 rfl ?_
                      refine r_iload_n E (i := 2) (j := 2) dX7_simple_216 rfl rfl ?_
                      refine r_iload E (j := 4) dX7_simple_217 rfl ?_
                      refine r_iast E dX7_simple_219 e101 g102 g103 ?_
                      refine r_nm e105 ?_
                      refine r_goto E (tgt := 231) dX7_simple_220 (by decide) ?_
                      refine r_iload E (j := 4) dX7_simple_231 rfl ?_
                      exact r_iret E dX7_simple_233
                  · have h := ift c86 h
                    obtain ⟨rfl, rfl⟩ := lf2 h
                    refine r_iconst E dX7_simple_201 (v := -1) (by decide) ?_
                    exact r_iret E dX7_simple_202
                · have h := iff' c82 h
                  by_cases c106 : (ai σ a2 (Int32.toNatClampNeg p1)) = 8
                  · have h := ift c106 h
                    obtain ⟨r109, s108, hc107, h⟩ := nb2 h
                    refine r_tab E (off := 228) (tgt := 234) dX7_simple_6 (by rw [c106]; decide) (fun w1 w2 => by show _ < 9; omega) (by decide) ?_
                    refine r_aload_n E (x := some h0) (i := 0) (j := 0) dX7_simple_234 rfl rfl ?_
                    refine r_iload_n E (i := 1) (j := 1) dX7_simple_235 rfl rfl ?_
                    refine r_iload_n E (i := 2) (j := 2) dX7_simple_236 rfl rfl ?_
                    refine r_iconst E dX7_simple_237 (v := 3) (by decide) ?_
                    refine cl_X7_143 E (m_X7_is hc107) dX7_simple_238 ⟨Nat.le_of_ble_eq_true rfl, Nat.le_of_ble_eq_true rfl⟩ ⟨by first | decide | omega | (dsimp only; omega), by first | decide | omega | (dsimp only; omega)⟩ (by decide) rfl g1 ?_
                    refine r_if_eq E (tgt := 253) dX7_simple_241 (by decide) (fun c110 => ?_) (fun c110 => ?_)
                    · have h := ift c110 h
                      obtain ⟨rfl, rfl⟩ := lf2 h
                      refine r_iconst E dX7_simple_253 (v := -1) (by decide) ?_
                      exact r_iret E dX7_simple_254
                    · have h := iff' c110 h
                      obtain ⟨g111, h⟩ := ck h
                      obtain ⟨a112, e113, h⟩ := nn h
                      obtain ⟨g114, h⟩ := ck h
                      obtain ⟨g115, h⟩ := ck h
                      obtain ⟨rfl, rfl⟩ := lf2 h
                      refine r_aload_n E (x := some h0) (i := 0) (j := 0) dX7_simple_244 rfl rfl ?_
                      refine gf_X7_27 E (x := gp s108 806 h0) dX7_simple_245 rfl g111 rfl ?_
                      refine r_iload_n E (i := 2) (j := 2) dX7_simple_248 rfl rfl ?_
                      refine r_iald E dX7_simple_249 e113 g114 g115 ?_
                      refine r_goto E (tgt := 254) dX7_simple_250 (by decide) ?_
                      exact r_iret E dX7_simple_254
                  · have h := iff' c106 h
                    obtain ⟨r118, s117, hc116, h⟩ := nb2 h
                    refine r_tab E (off := 249) (tgt := 255) dX7_simple_6 (by have z0 := lv_neT (x := ai σ a2 (Int32.toNatClampNeg p1)) (k := 0) (a := 0) c6 (by decide); have z1 := lv_neT (x := ai σ a2 (Int32.toNatClampNeg p1)) (k := 1) (a := 1) c14 (by decide); have z2 := lv_neT (x := ai σ a2 (Int32.toNatClampNeg p1)) (k := 2) (a := 2) c31 (by decide); have z3 := lv_neT (x := ai σ a2 (Int32.toNatClampNeg p1)) (k := 3) (a := 3) c50 (by decide); have z4 := lv_neT (x := ai σ a2 (Int32.toNatClampNeg p1)) (k := 4) (a := 4) c54 (by decide); have z5 := lv_neT (x := ai σ a2 (Int32.toNatClampNeg p1)) (k := 5) (a := 5) c58 (by decide); have z6 := lv_neT (x := ai σ a2 (Int32.toNatClampNeg p1)) (k := 6) (a := 6) c62 (by decide); have z7 := lv_neT (x := ai σ a2 (Int32.toNatClampNeg p1)) (k := 7) (a := 7) c82 (by decide); have z8 := lv_neT (x := ai σ a2 (Int32.toNatClampNeg p1)) (k := 8) (a := 8) c106 (by decide); by_cases w1 : Int32.toInt (ai σ a2 (Int32.toNatClampNeg p1)) < 0 <;> by_cases w2 : 8 < Int32.toInt (ai σ a2 (Int32.toNatClampNeg p1)) <;> first | (simp [w1, w2]; done) | (exfalso; omega)) (fun w1 w2 => by show _ < 9; omega) (by decide) ?_
                    refine r_aload_n E (x := some h0) (i := 0) (j := 0) dX7_simple_255 rfl rfl ?_
                    refine r_iload_n E (i := 1) (j := 1) dX7_simple_256 rfl rfl ?_
                    refine r_iload_n E (i := 2) (j := 2) dX7_simple_257 rfl rfl ?_
                    refine r_iconst E dX7_simple_258 (v := 3) (by decide) ?_
                    refine cl_X7_143 E (m_X7_is hc116) dX7_simple_259 ⟨Nat.le_of_ble_eq_true rfl, Nat.le_of_ble_eq_true rfl⟩ ⟨by first | decide | omega | (dsimp only; omega), by first | decide | omega | (dsimp only; omega)⟩ (by decide) rfl g1 ?_
                    refine r_if_eq E (tgt := 274) dX7_simple_262 (by decide) (fun c119 => ?_) (fun c119 => ?_)
                    · have h := ift c119 h
                      obtain ⟨rfl, rfl⟩ := lf2 h
                      refine r_iconst E dX7_simple_274 (v := -1) (by decide) ?_
                      exact r_iret E dX7_simple_275
                    · have h := iff' c119 h
                      obtain ⟨g120, h⟩ := ck h
                      obtain ⟨a121, e122, h⟩ := nn h
                      obtain ⟨g123, h⟩ := ck h
                      obtain ⟨g124, h⟩ := ck h
                      obtain ⟨rfl, rfl⟩ := lf2 h
                      refine r_aload_n E (x := some h0) (i := 0) (j := 0) dX7_simple_265 rfl rfl ?_
                      refine gf_X7_30 E (x := gp s117 807 h0) dX7_simple_266 rfl g120 rfl ?_
                      refine r_iload_n E (i := 2) (j := 2) dX7_simple_269 rfl rfl ?_
                      refine r_iald E dX7_simple_270 e122 g123 g124 ?_
                      refine r_goto E (tgt := 275) dX7_simple_271 (by decide) ?_
                      exact r_iret E dX7_simple_275
