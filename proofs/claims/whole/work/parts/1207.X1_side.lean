def ex_X1_side (d : Dp) (σ : Sg) (h0 : Nat) (q1 : Option Nat) : Option (Option Nat × Sg) := (Option.bind q1 fun a1 => (if gc σ a1 = 2 then (if gc σ h0 = 3 then (b2 (ex_X1_lacks d σ h0 q1 (gp σ 105 a1) (3 : Int32)) fun r7 s6 => (if r7 = (0 : Int32) then (if gc s6 a1 = 2 then (Option.bind (gp s6 103 a1) fun a10 => (if gc s6 a10 = 5 then (if (gi s6 401 a10) = (8 : Int32) then (Option.bind (gp s6 105 a1) fun a17 => (if gc s6 a17 = 7 then some (gp s6 603 a17, s6) else none)) else (Option.bind (gp s6 105 a1) fun a14 => (if gc s6 a14 = 7 then some (gp s6 604 a14, s6) else none))) else none)) else none) else some (none, s6))) else none) else none))
set_option maxHeartbeats 4000000 in
set_option maxRecDepth 20000 in
theorem m_X1_side {l : Launch} {d : Dp} {σ σ' : Sg} {h0 : Nat} {q1 : Option Nat} {r : Option Nat} (h : ex_X1_side d σ h0 q1 = some (r, σ')) : Mt l d yX1_side cX1_side 2 (some (.object "FrameTalk$Thing")) 2 45 σ [.ref h0, va_rf (q1)] (some (va_rf r)) σ' 0 0 := by
  refine mt_start (own := RX1) (lv0 := [(0, va_rf (some h0)), (1, va_rf (q1))]) (by decide) rfl (by simp only [lg_sl, List.flatMap_cons, List.flatMap_nil, va_rf_cat]; exact Nat.le_of_ble_eq_true rfl) (by first | rfl | (simp only [lv_args, va_rf_cat]; rfl)) ?_
  intro p e s m args below meth c E hnm
  unfold ex_X1_side at h
  obtain ⟨a1, e2, h⟩ := nn h
  obtain ⟨g3, h⟩ := ck h
  obtain ⟨g4, h⟩ := ck h
  obtain ⟨r7, s6, hc5, h⟩ := nb2 h
  refine r_aload_n E (x := some h0) (i := 0) (j := 0) dX1_side_0 rfl rfl ?_
  refine r_aload_n E (x := q1) (i := 1) (j := 1) dX1_side_1 rfl rfl ?_
  refine r_aload_n E (x := q1) (i := 1) (j := 1) dX1_side_2 rfl rfl ?_
  refine gf_X1_166 E (x := gp σ 105 a1) dX1_side_3 e2 g3 rfl ?_
  refine r_iconst E dX1_side_6 (v := 3) (by decide) ?_
  refine cl_X1_169 E (m_X1_lacks hc5) dX1_side_7 ⟨Nat.le_of_ble_eq_true rfl, Nat.le_of_ble_eq_true rfl⟩ ⟨by first | decide | omega | (dsimp only; omega), by first | decide | omega | (dsimp only; omega)⟩ (by decide) rfl g4 ?_
  refine r_if_eq E (tgt := 15) dX1_side_10 (by decide) (fun c8 => ?_) (fun c8 => ?_)
  · have h := ift c8 h
    obtain ⟨g9, h⟩ := ck h
    obtain ⟨a10, e11, h⟩ := nn h
    obtain ⟨g12, h⟩ := ck h
    refine r_aload_n E (x := q1) (i := 1) (j := 1) dX1_side_15 rfl rfl ?_
    refine gf_X1_139 E (x := gp s6 103 a1) dX1_side_16 e2 g9 rfl ?_
    refine gf_X1_151 E (x := gi s6 401 a10) dX1_side_19 e11 g12 rfl ?_
    refine r_bipush E dX1_side_22 (v := 8) (by decide) ?_
    refine r_icmp_ne E (tgt := 37) dX1_side_24 (by decide) (fun c13 => ?_) (fun c13 => ?_)
    · have h := iff' c13 h
      obtain ⟨a14, e15, h⟩ := nn h
      obtain ⟨g16, h⟩ := ck h
      obtain ⟨rfl, rfl⟩ := lf2 h
      refine r_aload_n E (x := q1) (i := 1) (j := 1) dX1_side_37 rfl rfl ?_
      refine gf_X1_166 E (x := gp s6 105 a1) dX1_side_38 e2 g9 rfl ?_
      refine gf_X1_233 E (x := gp s6 604 a14) dX1_side_41 e15 g16 rfl ?_
      exact r_aret E dX1_side_44 (Or.inl ⟨_, rfl⟩)
    · have h := ift c13 h
      obtain ⟨a17, e18, h⟩ := nn h
      obtain ⟨g19, h⟩ := ck h
      obtain ⟨rfl, rfl⟩ := lf2 h
      refine r_aload_n E (x := q1) (i := 1) (j := 1) dX1_side_27 rfl rfl ?_
      refine gf_X1_166 E (x := gp s6 105 a1) dX1_side_28 e2 g9 rfl ?_
      refine gf_X1_230 E (x := gp s6 603 a17) dX1_side_31 e18 g19 rfl ?_
      refine r_goto E (tgt := 44) dX1_side_34 (by decide) ?_
      exact r_aret E dX1_side_44 (Or.inl ⟨_, rfl⟩)
  · have h := iff' c8 h
    obtain ⟨rfl, rfl⟩ := lf2 h
    refine r_null E dX1_side_13 ?_
    exact r_aret E dX1_side_14 (Or.inl ⟨_, rfl⟩)
def ex_X1_reckon (d : Dp) (σ : Sg) (h0 : Nat) (q1 : Option Nat) (p2 : Int32) (q3 : Option Nat) : Option (Option Nat × Sg × Nat × Nat) := (if gc σ h0 = 3 then (b2 (ex_X1_lacks d σ h0 q1 q3 (1 : Int32)) fun r4 s3 => (if r4 = (0 : Int32) then (Option.bind q1 fun a6 => (if gc s3 a6 = 2 then (if gc s3 h0 = 3 then (b2 (ex_X1_lacks d s3 h0 q1 (gp s3 107 a6) (1 : Int32)) fun r12 s11 => (if r12 = (0 : Int32) then (Option.bind q3 fun a14 => (if gc s11 a14 = 7 then (if gc s11 a6 = 2 then (Option.bind (gp s11 107 a6) fun a18 => (if gc s11 a18 = 7 then (if p2 = 2 then (if gc s11 h0 = 3 then (Option.bind (gp s11 201 h0) fun a23 => (if gc s11 a23 = 4 then (b4 (ex_X2_withValue d s11 a23 (1 : Int32) ((gj s11 602 a14) + (gj s11 602 a18))) fun r28 s27 k29 n30 => some (r28, s27, 0 + k29, 0 + n30)) else none)) else none) else (if p2 = 3 then (if gc s11 h0 = 3 then (Option.bind (gp s11 201 h0) fun a33 => (if gc s11 a33 = 4 then (b4 (ex_X2_withValue d s11 a33 (1 : Int32) ((gj s11 602 a14) - (gj s11 602 a18))) fun r38 s37 k39 n40 => some (r38, s37, 0 + k39, 0 + n40)) else none)) else none) else (if p2 = 4 then (if gc s11 h0 = 3 then (Option.bind (gp s11 201 h0) fun a43 => (if gc s11 a43 = 4 then (b4 (ex_X2_withValue d s11 a43 (1 : Int32) ((gj s11 602 a14) * (gj s11 602 a18))) fun r48 s47 k49 n50 => some (r48, s47, 0 + k49, 0 + n50)) else none)) else none) else (if (lg_cmp (gj s11 602 a18) (0 : Int64)) = (0 : Int32) then (Option.bind (gp s11 103 a6) fun a72 => (if gc s11 a72 = 5 then (if gc s11 h0 = 3 then (b2 (ex_X1_failAt d s11 h0 (gi s11 400 a72) (6 : Int32)) fun r78 s77 => some (r78, s77, 0, 0)) else none) else none)) else (if gc s11 h0 = 3 then (if p2 = (5 : Int32) then (if ¬ (gj s11 602 a18) = (0 : Int64) then (Option.bind (gp s11 201 h0) fun a64 => (if gc s11 a64 = 4 then (b4 (ex_X2_withValue d s11 a64 (1 : Int32) ((gj s11 602 a14) / (gj s11 602 a18))) fun r69 s68 k70 n71 => some (r69, s68, 0 + k70, 0 + n71)) else none)) else none) else (if ¬ (gj s11 602 a18) = (0 : Int64) then (Option.bind (gp s11 201 h0) fun a55 => (if gc s11 a55 = 4 then (b4 (ex_X2_withValue d s11 a55 (1 : Int32) ((gj s11 602 a14) - (gj s11 602 a14) / (gj s11 602 a18) * (gj s11 602 a18))) fun r60 s59 k61 n62 => some (r60, s59, 0 + k61, 0 + n62)) else none)) else none)) else none))))) else none)) else none) else none)) else some (none, s11, 0, 0))) else none) else none)) else some (none, s3, 0, 0))) else none)
set_option maxHeartbeats 4000000 in
set_option maxRecDepth 20000 in
theorem m_X1_reckon {l : Launch} {d : Dp} {σ σ' : Sg} {h0 : Nat} {q1 : Option Nat} {p2 : Int32} {q3 : Option Nat} {r : Option Nat} {kF nF : Nat} (h : ex_X1_reckon d σ h0 q1 p2 q3 = some (r, σ', kF, nF)) : Mt l d yX1_reckon cX1_reckon 8 (some (.object "FrameTalk$Thing")) 3 66 σ [.ref h0, va_rf (q1), .int (p2), va_rf (q3)] (some (va_rf r)) σ' kF nF := by
  refine mt_start (own := RX1) (lv0 := [(0, va_rf (some h0)), (1, va_rf (q1)), (2, .int (p2)), (3, va_rf (q3))]) (by decide) rfl (by simp only [lg_sl, List.flatMap_cons, List.flatMap_nil, va_rf_cat]; exact Nat.le_of_ble_eq_true rfl) (by first | rfl | (simp only [lv_args, va_rf_cat]; rfl)) ?_
  intro p e s m args below meth c E hnm
  unfold ex_X1_reckon at h
  obtain ⟨g1, h⟩ := ck h
  obtain ⟨r4, s3, hc2, h⟩ := nb2 h
  refine r_aload_n E (x := some h0) (i := 0) (j := 0) dX1_reckon_0 rfl rfl ?_
  refine r_aload_n E (x := q1) (i := 1) (j := 1) dX1_reckon_1 rfl rfl ?_
  refine r_aload_n E (x := q3) (i := 3) (j := 3) dX1_reckon_2 rfl rfl ?_
  refine r_iconst E dX1_reckon_3 (v := 1) (by decide) ?_
  refine cl_X1_169 E (m_X1_lacks hc2) dX1_reckon_4 ⟨Nat.le_of_ble_eq_true rfl, Nat.le_of_ble_eq_true rfl⟩ ⟨by first | decide | omega | (dsimp only; omega), by first | decide | omega | (dsimp only; omega)⟩ (by decide) rfl g1 ?_
  refine r_if_ne E (tgt := 23) dX1_reckon_7 (by decide) (fun c5 => ?_) (fun c5 => ?_)
  · have h := iff' c5 h
    obtain ⟨rfl, rfl, rfl, rfl⟩ := lf4 h
    refine r_null E dX1_reckon_23 ?_
    exact r_aret E dX1_reckon_24 (Or.inl ⟨_, rfl⟩)
  · have h := ift c5 h
    obtain ⟨a6, e7, h⟩ := nn h
    obtain ⟨g8, h⟩ := ck h
    obtain ⟨g9, h⟩ := ck h
    obtain ⟨r12, s11, hc10, h⟩ := nb2 h
    refine r_aload_n E (x := some h0) (i := 0) (j := 0) dX1_reckon_10 rfl rfl ?_
    refine r_aload_n E (x := q1) (i := 1) (j := 1) dX1_reckon_11 rfl rfl ?_
    refine r_aload_n E (x := q1) (i := 1) (j := 1) dX1_reckon_12 rfl rfl ?_
    refine gf_X1_236 E (x := gp s3 107 a6) dX1_reckon_13 e7 g8 rfl ?_
    refine r_iconst E dX1_reckon_16 (v := 1) (by decide) ?_
    refine cl_X1_169 E (m_X1_lacks hc10) dX1_reckon_17 ⟨Nat.le_of_ble_eq_true rfl, Nat.le_of_ble_eq_true rfl⟩ ⟨by first | decide | omega | (dsimp only; omega), by first | decide | omega | (dsimp only; omega)⟩ (by decide) rfl g9 ?_
    refine r_if_eq E (tgt := 25) dX1_reckon_20 (by decide) (fun c13 => ?_) (fun c13 => ?_)
    · have h := ift c13 h
      obtain ⟨a14, e15, h⟩ := nn h
      obtain ⟨g16, h⟩ := ck h
      obtain ⟨g17, h⟩ := ck h
      obtain ⟨a18, e19, h⟩ := nn h
      obtain ⟨g20, h⟩ := ck h
      refine r_aload_n E (x := q3) (i := 3) (j := 3) dX1_reckon_25 rfl rfl ?_
      refine gf_X1_173 E (x := gj s11 602 a14) dX1_reckon_26 e15 g16 rfl ?_
      refine r_lstore E (lv' := [(4, .long (gj s11 602 a14)), (0, va_rf (some h0)), (1, va_rf (q1)), (2, .int (p2)), (3, va_rf (q3))]) dX1_reckon_29 (by decide) (by first | rfl | (simp only [List.filter_cons, List.filter_nil, va_rf_cat]; rfl)) ?_
      refine r_aload_n E (x := q1) (i := 1) (j := 2) dX1_reckon_31 rfl rfl ?_
      refine gf_X1_236 E (x := gp s11 107 a6) dX1_reckon_32 e7 g17 rfl ?_
      refine gf_X1_173 E (x := gj s11 602 a18) dX1_reckon_35 e19 g20 rfl ?_
      refine r_lstore E (lv' := [(6, .long (gj s11 602 a18)), (4, .long (gj s11 602 a14)), (0, va_rf (some h0)), (1, va_rf (q1)), (2, .int (p2)), (3, va_rf (q3))]) dX1_reckon_38 (by decide) (by first | rfl | (simp only [List.filter_cons, List.filter_nil, va_rf_cat]; rfl)) ?_
      refine r_iload_n E (i := 2) (j := 4) dX1_reckon_40 rfl rfl ?_
      by_cases c21 : p2 = 2
      · have h := ift c21 h
        obtain ⟨g22, h⟩ := ck h
        obtain ⟨a23, e24, h⟩ := nn h
        obtain ⟨g25, h⟩ := ck h
        obtain ⟨r28, s27, k29, n30, hc26, h⟩ := nb4 h
        obtain ⟨rfl, rfl, rfl, rfl⟩ := lf4 h
        refine r_tab E (off := 27) (tgt := 68) dX1_reckon_41 (by rw [c21]; decide) (fun w1 w2 => by show _ < 3; omega) (by decide) ?_
        refine r_aload_n E (x := some h0) (i := 0) (j := 2) dX1_reckon_68 rfl rfl ?_
        refine gf_X1_21 E (x := gp s11 201 h0) dX1_reckon_69 rfl g22 rfl ?_
        refine r_iconst E dX1_reckon_72 (v := 1) (by decide) ?_
        refine r_lload E (j := 1) dX1_reckon_73 rfl ?_
        refine r_lload E (j := 0) dX1_reckon_75 rfl ?_
        refine r_ladd E dX1_reckon_77 ?_
        refine cl_X1_184 E (m_X2_withValue hc26) dX1_reckon_78 ⟨Nat.le_of_ble_eq_true rfl, Nat.le_of_ble_eq_true rfl⟩ ⟨by first | decide | omega | (dsimp only; omega), by first | decide | omega | (dsimp only; omega)⟩ (by decide) e24 g25 ?_
        exact r_aret E dX1_reckon_81 (Or.inl ⟨_, rfl⟩)
      · have h := iff' c21 h
        by_cases c31 : p2 = 3
        · have h := ift c31 h
          obtain ⟨g32, h⟩ := ck h
          obtain ⟨a33, e34, h⟩ := nn h
          obtain ⟨g35, h⟩ := ck h
          obtain ⟨r38, s37, k39, n40, hc36, h⟩ := nb4 h
          obtain ⟨rfl, rfl, rfl, rfl⟩ := lf4 h
          refine r_tab E (off := 41) (tgt := 82) dX1_reckon_41 (by rw [c31]; decide) (fun w1 w2 => by show _ < 3; omega) (by decide) ?_
          refine r_aload_n E (x := some h0) (i := 0) (j := 2) dX1_reckon_82 rfl rfl ?_
          refine gf_X1_21 E (x := gp s11 201 h0) dX1_reckon_83 rfl g32 rfl ?_
          refine r_iconst E dX1_reckon_86 (v := 1) (by decide) ?_
          refine r_lload E (j := 1) dX1_reckon_87 rfl ?_
          refine r_lload E (j := 0) dX1_reckon_89 rfl ?_
          refine r_lsub E dX1_reckon_91 ?_
          refine cl_X1_184 E (m_X2_withValue hc36) dX1_reckon_92 ⟨Nat.le_of_ble_eq_true rfl, Nat.le_of_ble_eq_true rfl⟩ ⟨by first | decide | omega | (dsimp only; omega), by first | decide | omega | (dsimp only; omega)⟩ (by decide) e34 g35 ?_
          exact r_aret E dX1_reckon_95 (Or.inl ⟨_, rfl⟩)
        · have h := iff' c31 h
          by_cases c41 : p2 = 4
          · have h := ift c41 h
            obtain ⟨g42, h⟩ := ck h
            obtain ⟨a43, e44, h⟩ := nn h
            obtain ⟨g45, h⟩ := ck h
            obtain ⟨r48, s47, k49, n50, hc46, h⟩ := nb4 h
            obtain ⟨rfl, rfl, rfl, rfl⟩ := lf4 h
            refine r_tab E (off := 55) (tgt := 96) dX1_reckon_41 (by rw [c41]; decide) (fun w1 w2 => by show _ < 3; omega) (by decide) ?_
            refine r_aload_n E (x := some h0) (i := 0) (j := 2) dX1_reckon_96 rfl rfl ?_
            refine gf_X1_21 E (x := gp s11 201 h0) dX1_reckon_97 rfl g42 rfl ?_
            refine r_iconst E dX1_reckon_100 (v := 1) (by decide) ?_
            refine r_lload E (j := 1) dX1_reckon_101 rfl ?_
            refine r_lload E (j := 0) dX1_reckon_103 rfl ?_
            refine r_lmul E dX1_reckon_105 ?_
            refine cl_X1_184 E (m_X2_withValue hc46) dX1_reckon_106 ⟨Nat.le_of_ble_eq_true rfl, Nat.le_of_ble_eq_true rfl⟩ ⟨by first | decide | omega | (dsimp only; omega), by first | decide | omega | (dsimp only; omega)⟩ (by decide) e44 g45 ?_
            exact r_aret E dX1_reckon_109 (Or.inl ⟨_, rfl⟩)
          · have h := iff' c41 h
            refine r_tab E (off := 69) (tgt := 110) dX1_reckon_41 (by have z0 := lv_neT (x := p2) (k := 2) (a := 2) c21 (by decide); have z1 := lv_neT (x := p2) (k := 3) (a := 3) c31 (by decide); have z2 := lv_neT (x := p2) (k := 4) (a := 4) c41 (by decide); by_cases w1 : Int32.toInt p2 < 2 <;> by_cases w2 : 4 < Int32.toInt p2 <;> first | (simp [w1, w2]; done) | (exfalso; omega)) (fun w1 w2 => by show _ < 3; omega) (by decide) ?_
            refine r_lload E (j := 0) dX1_reckon_110 rfl ?_
            refine r_lconst E dX1_reckon_112 (v := 0) (by decide) ?_
            refine r_lcmp E dX1_reckon_113 ?_
            refine r_if_ne E (tgt := 131) dX1_reckon_114 (by decide) (fun c51 => ?_) (fun c51 => ?_)
            · have h := iff' c51 h
              obtain ⟨g52, h⟩ := ck h
              refine r_aload_n E (x := some h0) (i := 0) (j := 2) dX1_reckon_131 rfl rfl ?_
              refine gf_X1_21 E (x := gp s11 201 h0) dX1_reckon_132 rfl g52 rfl ?_
              refine r_iconst E dX1_reckon_135 (v := 1) (by decide) ?_
              refine r_iload_n E (i := 2) (j := 4) dX1_reckon_136 rfl rfl ?_
              refine r_iconst E dX1_reckon_137 (v := 5) (by decide) ?_
              refine r_icmp_ne E (tgt := 149) dX1_reckon_138 (by decide) (fun c53 => ?_) (fun c53 => ?_)
              · have h := iff' c53 h
                obtain ⟨g54, h⟩ := ck h
                obtain ⟨a55, e56, h⟩ := nn h
                obtain ⟨g57, h⟩ := ck h
                obtain ⟨r60, s59, k61, n62, hc58, h⟩ := nb4 h
                obtain ⟨rfl, rfl, rfl, rfl⟩ := lf4 h
                refine r_lload E (j := 1) dX1_reckon_149 rfl ?_
                refine r_lload E (j := 0) dX1_reckon_151 rfl ?_
                refine r_lrem E dX1_reckon_153 g54 ?_
                refine cl_X1_184 E (m_X2_withValue hc58) dX1_reckon_154 ⟨Nat.le_of_ble_eq_true rfl, Nat.le_of_ble_eq_true rfl⟩ ⟨by first | decide | omega | (dsimp only; omega), by first | decide | omega | (dsimp only; omega)⟩ (by decide) e56 g57 ?_
                exact r_aret E dX1_reckon_157 (Or.inl ⟨_, rfl⟩)
              · have h := ift c53 h
                obtain ⟨g63, h⟩ := ck h
                obtain ⟨a64, e65, h⟩ := nn h
                obtain ⟨g66, h⟩ := ck h
                obtain ⟨r69, s68, k70, n71, hc67, h⟩ := nb4 h
                obtain ⟨rfl, rfl, rfl, rfl⟩ := lf4 h
                refine r_lload E (j := 1) dX1_reckon_141 rfl ?_
                refine r_lload E (j := 0) dX1_reckon_143 rfl ?_
                refine r_ldiv E dX1_reckon_145 g63 ?_
                refine r_goto E (tgt := 154) dX1_reckon_146 (by decide) ?_
                refine cl_X1_184 E (m_X2_withValue hc67) dX1_reckon_154 ⟨Nat.le_of_ble_eq_true rfl, Nat.le_of_ble_eq_true rfl⟩ ⟨by first | decide | omega | (dsimp only; omega), by first | decide | omega | (dsimp only; omega)⟩ (by decide) e65 g66 ?_
                exact r_aret E dX1_reckon_157 (Or.inl ⟨_, rfl⟩)
            · have h := ift c51 h
              obtain ⟨a72, e73, h⟩ := nn h
              obtain ⟨g74, h⟩ := ck h
              obtain ⟨g75, h⟩ := ck h
              obtain ⟨r78, s77, hc76, h⟩ := nb2 h
              obtain ⟨rfl, rfl, rfl, rfl⟩ := lf4 h
              refine r_aload_n E (x := some h0) (i := 0) (j := 2) dX1_reckon_117 rfl rfl ?_
              refine r_aload_n E (x := q1) (i := 1) (j := 3) dX1_reckon_118 rfl rfl ?_
              refine gf_X1_139 E (x := gp s11 103 a6) dX1_reckon_119 e7 g17 rfl ?_
              refine gf_X1_120 E (x := gi s11 400 a72) dX1_reckon_122 e73 g74 rfl ?_
              refine r_bipush E dX1_reckon_125 (v := 6) (by decide) ?_
              refine cl_X1_85 E (m_X1_failAt hc76) dX1_reckon_127 ⟨Nat.le_of_ble_eq_true rfl, Nat.le_of_ble_eq_true rfl⟩ ⟨by first | decide | omega | (dsimp only; omega), by first | decide | omega | (dsimp only; omega)⟩ (by decide) rfl g75 ?_
              exact r_aret E dX1_reckon_130 (Or.inl ⟨_, rfl⟩)
    · have h := iff' c13 h
      obtain ⟨rfl, rfl, rfl, rfl⟩ := lf4 h
      refine r_null E dX1_reckon_23 ?_
      exact r_aret E dX1_reckon_24 (Or.inl ⟨_, rfl⟩)
