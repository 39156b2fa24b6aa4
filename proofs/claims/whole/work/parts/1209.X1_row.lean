def ex_X1_row (d : Dp) (σ : Sg) (h0 : Nat) (q1 : Option Nat) : Option (Option Nat × Sg × Nat × Nat) := (Option.bind q1 fun a1 => (if gc σ a1 = 2 then (if gc σ h0 = 3 then (b2 (ex_X1_lacks d σ h0 q1 (gp σ 106 a1) (1 : Int32)) fun r7 s6 => (if r7 = (0 : Int32) then (if gc s6 a1 = 2 then (Option.bind (gp s6 103 a1) fun a10 => (if gc s6 a10 = 5 then (b2 (ex_X3_get d s6 a10 (0 : Int32)) fun r15 s14 => (if r15 < (0 : Int32) then (if gc s14 h0 = 3 then (Option.bind (gp s14 201 h0) fun a18 => (if gc s14 a18 = 4 then (b4 (ex_X2_rowWithoutPlaces d s14 a18) fun r23 s22 k24 n25 => some (r23, s22, 0 + k24, 0 + n25)) else none)) else none) else (if r15 ≤ (2 : Int32) then (if gc s14 a1 = 2 then (Option.bind (gp s14 106 a1) fun a28 => (if gc s14 a28 = 7 then (if (0 : Int32) ≤ (Int64.toInt32 (gj s14 602 a28)) then (if gc s14 h0 = 3 then (Option.bind (gp s14 201 h0) fun a33 => (if gc s14 a33 = 4 then (b2 (ex_X2_hasRoomFor d s14 a33 (Int64.toInt32 (gj s14 602 a28))) fun r38 s37 => (if r38 = (0 : Int32) then (if gc s37 a1 = 2 then (Option.bind (gp s37 103 a1) fun a50 => (if gc s37 a50 = 5 then (if gc s37 h0 = 3 then (b2 (ex_X1_failAt d s37 h0 (gi s37 400 a50) (8 : Int32)) fun r56 s55 => some (r56, s55, 0, 0)) else none) else none)) else none) else (if gc s37 h0 = 3 then (Option.bind (gp s37 201 h0) fun a41 => (if gc s37 a41 = 4 then (b4 (ex_X2_row d s37 a41 r15 (Int64.toInt32 (gj s14 602 a28))) fun r46 s45 k47 n48 => some (r46, s45, 0 + k47, 0 + n48)) else none)) else none))) else none)) else none) else (Option.bind (gp s14 103 a1) fun a57 => (if gc s14 a57 = 5 then (if gc s14 h0 = 3 then (b2 (ex_X1_failAt d s14 h0 (gi s14 400 a57) (5 : Int32)) fun r63 s62 => some (r63, s62, 0, 0)) else none) else none))) else none)) else none) else (if gc s14 h0 = 3 then (Option.bind (gp s14 201 h0) fun a65 => (if gc s14 a65 = 4 then (b4 (ex_X2_rowWithoutPlaces d s14 a65) fun r70 s69 k71 n72 => some (r70, s69, 0 + k71, 0 + n72)) else none)) else none)))) else none)) else none) else some (none, s6, 0, 0))) else none) else none))
set_option maxHeartbeats 4000000 in
set_option maxRecDepth 20000 in
theorem m_X1_row {l : Launch} {d : Dp} {σ σ' : Sg} {h0 : Nat} {q1 : Option Nat} {r : Option Nat} {kF nF : Nat} (h : ex_X1_row d σ h0 q1 = some (r, σ', kF, nF)) : Mt l d yX1_row cX1_row 4 (some (.object "FrameTalk$Thing")) 4 85 σ [.ref h0, va_rf (q1)] (some (va_rf r)) σ' kF nF := by
  refine mt_start (own := RX1) (lv0 := [(0, va_rf (some h0)), (1, va_rf (q1))]) (by decide) rfl (by simp only [lg_sl, List.flatMap_cons, List.flatMap_nil, va_rf_cat]; exact Nat.le_of_ble_eq_true rfl) (by first | rfl | (simp only [lv_args, va_rf_cat]; rfl)) ?_
  intro p e s m args below meth c E hnm
  unfold ex_X1_row at h
  obtain ⟨a1, e2, h⟩ := nn h
  obtain ⟨g3, h⟩ := ck h
  obtain ⟨g4, h⟩ := ck h
  obtain ⟨r7, s6, hc5, h⟩ := nb2 h
  refine r_aload_n E (x := some h0) (i := 0) (j := 0) dX1_row_0 rfl rfl ?_
  refine r_aload_n E (x := q1) (i := 1) (j := 1) dX1_row_1 rfl rfl ?_
  refine r_aload_n E (x := q1) (i := 1) (j := 1) dX1_row_2 rfl rfl ?_
  refine gf_X1_197 E (x := gp σ 106 a1) dX1_row_3 e2 g3 rfl ?_
  refine r_iconst E dX1_row_6 (v := 1) (by decide) ?_
  refine cl_X1_169 E (m_X1_lacks hc5) dX1_row_7 ⟨Nat.le_of_ble_eq_true rfl, Nat.le_of_ble_eq_true rfl⟩ ⟨by first | decide | omega | (dsimp only; omega), by first | decide | omega | (dsimp only; omega)⟩ (by decide) rfl g4 ?_
  refine r_if_eq E (tgt := 15) dX1_row_10 (by decide) (fun c8 => ?_) (fun c8 => ?_)
  · have h := ift c8 h
    obtain ⟨g9, h⟩ := ck h
    obtain ⟨a10, e11, h⟩ := nn h
    obtain ⟨g12, h⟩ := ck h
    obtain ⟨r15, s14, hc13, h⟩ := nb2 h
    refine r_aload_n E (x := q1) (i := 1) (j := 1) dX1_row_15 rfl rfl ?_
    refine gf_X1_139 E (x := gp s6 103 a1) dX1_row_16 e2 g9 rfl ?_
    refine r_iconst E dX1_row_19 (v := 0) (by decide) ?_
    refine cl_X1_143 E (m_X3_get hc13) dX1_row_20 ⟨Nat.le_of_ble_eq_true rfl, Nat.le_of_ble_eq_true rfl⟩ ⟨by first | decide | omega | (dsimp only; omega), by first | decide | omega | (dsimp only; omega)⟩ (by decide) e11 g12 ?_
    refine r_istore_n E (i := 2) (lv' := [(2, .int (r15)), (0, va_rf (some h0)), (1, va_rf (q1))]) dX1_row_23 rfl (by decide) (by first | rfl | (simp only [List.filter_cons, List.filter_nil, va_rf_cat]; rfl)) ?_
    refine r_iload_n E (i := 2) (j := 0) dX1_row_24 rfl rfl ?_
    refine r_if_lt E (tgt := 33) dX1_row_25 (by decide) (fun c16 => ?_) (fun c16 => ?_)
    · have h := ift c16 h
      obtain ⟨g17, h⟩ := ck h
      obtain ⟨a18, e19, h⟩ := nn h
      obtain ⟨g20, h⟩ := ck h
      obtain ⟨r23, s22, k24, n25, hc21, h⟩ := nb4 h
      obtain ⟨rfl, rfl, rfl, rfl⟩ := lf4 h
      refine r_aload_n E (x := some h0) (i := 0) (j := 1) dX1_row_33 rfl rfl ?_
      refine gf_X1_21 E (x := gp s14 201 h0) dX1_row_34 rfl g17 rfl ?_
      refine cl_X1_243 E (m_X2_rowWithoutPlaces hc21) dX1_row_37 ⟨Nat.le_of_ble_eq_true rfl, Nat.le_of_ble_eq_true rfl⟩ ⟨by first | decide | omega | (dsimp only; omega), by first | decide | omega | (dsimp only; omega)⟩ (by decide) e19 g20 ?_
      exact r_aret E dX1_row_40 (Or.inl ⟨_, rfl⟩)
    · have h := iff' c16 h
      refine r_iload_n E (i := 2) (j := 0) dX1_row_28 rfl rfl ?_
      refine r_iconst E dX1_row_29 (v := 2) (by decide) ?_
      refine r_icmp_le E (tgt := 41) dX1_row_30 (by decide) (fun c26 => ?_) (fun c26 => ?_)
      · have h := ift c26 h
        obtain ⟨g27, h⟩ := ck h
        obtain ⟨a28, e29, h⟩ := nn h
        obtain ⟨g30, h⟩ := ck h
        refine r_aload_n E (x := q1) (i := 1) (j := 2) dX1_row_41 rfl rfl ?_
        refine gf_X1_197 E (x := gp s14 106 a1) dX1_row_42 e2 g27 rfl ?_
        refine gf_X1_173 E (x := gj s14 602 a28) dX1_row_45 e29 g30 rfl ?_
        refine r_l2i E dX1_row_48 ?_
        refine r_istore_n E (i := 3) (lv' := [(3, .int (Int64.toInt32 (gj s14 602 a28))), (2, .int (r15)), (0, va_rf (some h0)), (1, va_rf (q1))]) dX1_row_49 rfl (by decide) (by first | rfl | (simp only [List.filter_cons, List.filter_nil, va_rf_cat]; rfl)) ?_
        refine r_iload_n E (i := 3) (j := 0) dX1_row_50 rfl rfl ?_
        refine r_if_ge E (tgt := 67) dX1_row_51 (by decide) (fun c31 => ?_) (fun c31 => ?_)
        · have h := ift c31 h
          obtain ⟨g32, h⟩ := ck h
          obtain ⟨a33, e34, h⟩ := nn h
          obtain ⟨g35, h⟩ := ck h
          obtain ⟨r38, s37, hc36, h⟩ := nb2 h
          refine r_aload_n E (x := some h0) (i := 0) (j := 2) dX1_row_67 rfl rfl ?_
          refine gf_X1_21 E (x := gp s14 201 h0) dX1_row_68 rfl g32 rfl ?_
          refine r_iload_n E (i := 3) (j := 0) dX1_row_71 rfl rfl ?_
          refine cl_X1_247 E (m_X2_hasRoomFor hc36) dX1_row_72 ⟨Nat.le_of_ble_eq_true rfl, Nat.le_of_ble_eq_true rfl⟩ ⟨by first | decide | omega | (dsimp only; omega), by first | decide | omega | (dsimp only; omega)⟩ (by decide) e34 g35 ?_
          refine r_if_ne E (tgt := 92) dX1_row_75 (by decide) (fun c39 => ?_) (fun c39 => ?_)
          · have h := iff' c39 h
            obtain ⟨g40, h⟩ := ck h
            obtain ⟨a41, e42, h⟩ := nn h
            obtain ⟨g43, h⟩ := ck h
            obtain ⟨r46, s45, k47, n48, hc44, h⟩ := nb4 h
            obtain ⟨rfl, rfl, rfl, rfl⟩ := lf4 h
            refine r_aload_n E (x := some h0) (i := 0) (j := 2) dX1_row_92 rfl rfl ?_
            refine gf_X1_21 E (x := gp s37 201 h0) dX1_row_93 rfl g40 rfl ?_
            refine r_iload_n E (i := 2) (j := 1) dX1_row_96 rfl rfl ?_
            refine r_iload_n E (i := 3) (j := 0) dX1_row_97 rfl rfl ?_
            refine cl_X1_250 E (m_X2_row hc44) dX1_row_98 ⟨Nat.le_of_ble_eq_true rfl, Nat.le_of_ble_eq_true rfl⟩ ⟨by first | decide | omega | (dsimp only; omega), by first | decide | omega | (dsimp only; omega)⟩ (by decide) e42 g43 ?_
            exact r_aret E dX1_row_101 (Or.inl ⟨_, rfl⟩)
          · have h := ift c39 h
            obtain ⟨g49, h⟩ := ck h
            obtain ⟨a50, e51, h⟩ := nn h
            obtain ⟨g52, h⟩ := ck h
            obtain ⟨g53, h⟩ := ck h
            obtain ⟨r56, s55, hc54, h⟩ := nb2 h
            obtain ⟨rfl, rfl, rfl, rfl⟩ := lf4 h
            refine r_aload_n E (x := some h0) (i := 0) (j := 2) dX1_row_78 rfl rfl ?_
            refine r_aload_n E (x := q1) (i := 1) (j := 3) dX1_row_79 rfl rfl ?_
            refine gf_X1_139 E (x := gp s37 103 a1) dX1_row_80 e2 g49 rfl ?_
            refine gf_X1_120 E (x := gi s37 400 a50) dX1_row_83 e51 g52 rfl ?_
            refine r_bipush E dX1_row_86 (v := 8) (by decide) ?_
            refine cl_X1_85 E (m_X1_failAt hc54) dX1_row_88 ⟨Nat.le_of_ble_eq_true rfl, Nat.le_of_ble_eq_true rfl⟩ ⟨by first | decide | omega | (dsimp only; omega), by first | decide | omega | (dsimp only; omega)⟩ (by decide) rfl g53 ?_
            exact r_aret E dX1_row_91 (Or.inl ⟨_, rfl⟩)
        · have h := iff' c31 h
          obtain ⟨a57, e58, h⟩ := nn h
          obtain ⟨g59, h⟩ := ck h
          obtain ⟨g60, h⟩ := ck h
          obtain ⟨r63, s62, hc61, h⟩ := nb2 h
          obtain ⟨rfl, rfl, rfl, rfl⟩ := lf4 h
          refine r_aload_n E (x := some h0) (i := 0) (j := 2) dX1_row_54 rfl rfl ?_
          refine r_aload_n E (x := q1) (i := 1) (j := 3) dX1_row_55 rfl rfl ?_
          refine gf_X1_139 E (x := gp s14 103 a1) dX1_row_56 e2 g27 rfl ?_
          refine gf_X1_120 E (x := gi s14 400 a57) dX1_row_59 e58 g59 rfl ?_
          refine r_iconst E dX1_row_62 (v := 5) (by decide) ?_
          refine cl_X1_85 E (m_X1_failAt hc61) dX1_row_63 ⟨Nat.le_of_ble_eq_true rfl, Nat.le_of_ble_eq_true rfl⟩ ⟨by first | decide | omega | (dsimp only; omega), by first | decide | omega | (dsimp only; omega)⟩ (by decide) rfl g60 ?_
          exact r_aret E dX1_row_66 (Or.inl ⟨_, rfl⟩)
      · have h := iff' c26 h
        obtain ⟨g64, h⟩ := ck h
        obtain ⟨a65, e66, h⟩ := nn h
        obtain ⟨g67, h⟩ := ck h
        obtain ⟨r70, s69, k71, n72, hc68, h⟩ := nb4 h
        obtain ⟨rfl, rfl, rfl, rfl⟩ := lf4 h
        refine r_aload_n E (x := some h0) (i := 0) (j := 1) dX1_row_33 rfl rfl ?_
        refine gf_X1_21 E (x := gp s14 201 h0) dX1_row_34 rfl g64 rfl ?_
        refine cl_X1_243 E (m_X2_rowWithoutPlaces hc68) dX1_row_37 ⟨Nat.le_of_ble_eq_true rfl, Nat.le_of_ble_eq_true rfl⟩ ⟨by first | decide | omega | (dsimp only; omega), by first | decide | omega | (dsimp only; omega)⟩ (by decide) e66 g67 ?_
        exact r_aret E dX1_row_40 (Or.inl ⟨_, rfl⟩)
  · have h := iff' c8 h
    obtain ⟨rfl, rfl, rfl, rfl⟩ := lf4 h
    refine r_null E dX1_row_13 ?_
    exact r_aret E dX1_row_14 (Or.inl ⟨_, rfl⟩)
def ex_X5_hasPlace (d : Dp) (σ : Sg) (h0 : Nat) (p1 : Int32) : Option (Int32 × Sg) := (if gc σ h0 = 7 then (if (gp σ 606 h0) = none then some ((0 : Int32), σ) else (if p1 < (0 : Int32) then some ((0 : Int32), σ) else (Option.bind (gp σ 606 h0) fun a4 => (if gc σ a4 = 12 then (if (Int32.ofNat (gl σ a4)) ≤ p1 then some ((0 : Int32), σ) else some ((1 : Int32), σ)) else none)))) else none)
set_option maxHeartbeats 4000000 in
set_option maxRecDepth 20000 in
theorem m_X5_hasPlace {l : Launch} {d : Dp} {σ σ' : Sg} {h0 : Nat} {p1 : Int32} {r : Int32} (h : ex_X5_hasPlace d σ h0 p1 = some (r, σ')) : Mt l d yX5_hasPlace cX5_hasPlace 2 (some .boolean) 0 0 σ [.ref h0, .int (p1)] (some (.int r)) σ' 0 0 := by
  refine mt_start (own := RX5) (lv0 := [(0, va_rf (some h0)), (1, .int (p1))]) (by decide) rfl (by simp only [lg_sl, List.flatMap_cons, List.flatMap_nil, va_rf_cat]; exact Nat.le_of_ble_eq_true rfl) (by first | rfl | (simp only [lv_args, va_rf_cat]; rfl)) ?_
  intro p e s m args below meth c E hnm
  unfold ex_X5_hasPlace at h
  obtain ⟨g1, h⟩ := ck h
  refine r_aload_n E (x := some h0) (i := 0) (j := 0) dX5_hasPlace_0 rfl rfl ?_
  refine gf_X5_18 E (x := gp σ 606 h0) dX5_hasPlace_1 rfl g1 rfl ?_
  refine r_ifnull E (o := gp σ 606 h0) (tgt := 24) dX5_hasPlace_4 (by decide) (fun c2 => ?_) (fun c2 => ?_)
  · have h := ift c2 h
    obtain ⟨rfl, rfl⟩ := lf2 h
    refine r_iconst E dX5_hasPlace_24 (v := 0) (by decide) ?_
    exact r_zret E dX5_hasPlace_25 (by decide)
  · have h := iff' c2 h
    refine r_iload_n E (i := 1) (j := 1) dX5_hasPlace_7 rfl rfl ?_
    refine r_if_lt E (tgt := 24) dX5_hasPlace_8 (by decide) (fun c3 => ?_) (fun c3 => ?_)
    · have h := ift c3 h
      obtain ⟨rfl, rfl⟩ := lf2 h
      refine r_iconst E dX5_hasPlace_24 (v := 0) (by decide) ?_
      exact r_zret E dX5_hasPlace_25 (by decide)
    · have h := iff' c3 h
      obtain ⟨a4, e5, h⟩ := nn h
      obtain ⟨g6, h⟩ := ck h
      refine r_iload_n E (i := 1) (j := 1) dX5_hasPlace_11 rfl rfl ?_
      refine r_aload_n E (x := some h0) (i := 0) (j := 0) dX5_hasPlace_12 rfl rfl ?_
      refine gf_X5_18 E (x := gp σ 606 h0) dX5_hasPlace_13 rfl g1 rfl ?_
      refine r_alenT E dX5_hasPlace_16 e5 g6 ?_
      refine r_icmp_ge E (tgt := 24) dX5_hasPlace_17 (by decide) (fun c7 => ?_) (fun c7 => ?_)
      · have h := ift c7 h
        obtain ⟨rfl, rfl⟩ := lf2 h
        refine r_iconst E dX5_hasPlace_24 (v := 0) (by decide) ?_
        exact r_zret E dX5_hasPlace_25 (by decide)
      · have h := iff' c7 h
        obtain ⟨rfl, rfl⟩ := lf2 h
        refine r_iconst E dX5_hasPlace_20 (v := 1) (by decide) ?_
        refine r_goto E (tgt := 25) dX5_hasPlace_21 (by decide) ?_
        exact r_zret E dX5_hasPlace_25 (by decide)
def ex_X1_lacksPlace (d : Dp) (σ : Sg) (h0 : Nat) (q1 : Option Nat) : Option (Int32 × Sg) := (Option.bind q1 fun a1 => (if gc σ a1 = 2 then (if gc σ h0 = 3 then (b2 (ex_X1_lacks d σ h0 q1 (gp σ 105 a1) (5 : Int32)) fun r7 s6 => (if r7 = (0 : Int32) then (if gc s6 a1 = 2 then (if gc s6 h0 = 3 then (b2 (ex_X1_lacks d s6 h0 q1 (gp s6 106 a1) (1 : Int32)) fun r13 s12 => (if r13 = (0 : Int32) then (if gc s12 a1 = 2 then (Option.bind (gp s12 106 a1) fun a16 => (if gc s12 a16 = 7 then (Option.bind (gp s12 105 a1) fun a19 => (if gc s12 a19 = 7 then (b2 (ex_X5_hasPlace d s12 a19 (Int64.toInt32 (gj s12 602 a16))) fun r24 s23 => (if r24 = (0 : Int32) then (if gc s23 a1 = 2 then (Option.bind (gp s23 103 a1) fun a27 => (if gc s23 a27 = 5 then (Option.bind (gp s23 105 a1) fun a30 => (if gc s23 a30 = 7 then (if (gp s23 606 a30) = none then (if gc s23 h0 = 3 then (b2 (ex_X1_failAt d s23 h0 (gi s23 400 a27) (1 : Int32)) fun r41 s40 => some ((1 : Int32), s40)) else none) else (if gc s23 h0 = 3 then (b2 (ex_X1_failAt d s23 h0 (gi s23 400 a27) (2 : Int32)) fun r37 s36 => some ((1 : Int32), s36)) else none)) else none)) else none)) else none) else some ((0 : Int32), s23))) else none)) else none)) else none) else some ((1 : Int32), s12))) else none) else none) else some ((1 : Int32), s6))) else none) else none))
set_option maxHeartbeats 4000000 in
set_option maxRecDepth 20000 in
theorem m_X1_lacksPlace {l : Launch} {d : Dp} {σ σ' : Sg} {h0 : Nat} {q1 : Option Nat} {r : Int32} (h : ex_X1_lacksPlace d σ h0 q1 = some (r, σ')) : Mt l d yX1_lacksPlace cX1_lacksPlace 2 (some .boolean) 2 45 σ [.ref h0, va_rf (q1)] (some (.int r)) σ' 0 0 := by
  refine mt_start (own := RX1) (lv0 := [(0, va_rf (some h0)), (1, va_rf (q1))]) (by decide) rfl (by simp only [lg_sl, List.flatMap_cons, List.flatMap_nil, va_rf_cat]; exact Nat.le_of_ble_eq_true rfl) (by first | rfl | (simp only [lv_args, va_rf_cat]; rfl)) ?_
  intro p e s m args below meth c E hnm
  unfold ex_X1_lacksPlace at h
  obtain ⟨a1, e2, h⟩ := nn h
  obtain ⟨g3, h⟩ := ck h
  obtain ⟨g4, h⟩ := ck h
  obtain ⟨r7, s6, hc5, h⟩ := nb2 h
  refine r_aload_n E (x := some h0) (i := 0) (j := 0) dX1_lacksPlace_0 rfl rfl ?_
  refine r_aload_n E (x := q1) (i := 1) (j := 1) dX1_lacksPlace_1 rfl rfl ?_
  refine r_aload_n E (x := q1) (i := 1) (j := 1) dX1_lacksPlace_2 rfl rfl ?_
  refine gf_X1_166 E (x := gp σ 105 a1) dX1_lacksPlace_3 e2 g3 rfl ?_
  refine r_iconst E dX1_lacksPlace_6 (v := 5) (by decide) ?_
  refine cl_X1_169 E (m_X1_lacks hc5) dX1_lacksPlace_7 ⟨Nat.le_of_ble_eq_true rfl, Nat.le_of_ble_eq_true rfl⟩ ⟨by first | decide | omega | (dsimp only; omega), by first | decide | omega | (dsimp only; omega)⟩ (by decide) rfl g4 ?_
  refine r_if_ne E (tgt := 26) dX1_lacksPlace_10 (by decide) (fun c8 => ?_) (fun c8 => ?_)
  · have h := iff' c8 h
    obtain ⟨rfl, rfl⟩ := lf2 h
    refine r_iconst E dX1_lacksPlace_26 (v := 1) (by decide) ?_
    exact r_zret E dX1_lacksPlace_27 (by decide)
  · have h := ift c8 h
    obtain ⟨g9, h⟩ := ck h
    obtain ⟨g10, h⟩ := ck h
    obtain ⟨r13, s12, hc11, h⟩ := nb2 h
    refine r_aload_n E (x := some h0) (i := 0) (j := 0) dX1_lacksPlace_13 rfl rfl ?_
    refine r_aload_n E (x := q1) (i := 1) (j := 1) dX1_lacksPlace_14 rfl rfl ?_
    refine r_aload_n E (x := q1) (i := 1) (j := 1) dX1_lacksPlace_15 rfl rfl ?_
    refine gf_X1_197 E (x := gp s6 106 a1) dX1_lacksPlace_16 e2 g9 rfl ?_
    refine r_iconst E dX1_lacksPlace_19 (v := 1) (by decide) ?_
    refine cl_X1_169 E (m_X1_lacks hc11) dX1_lacksPlace_20 ⟨Nat.le_of_ble_eq_true rfl, Nat.le_of_ble_eq_true rfl⟩ ⟨by first | decide | omega | (dsimp only; omega), by first | decide | omega | (dsimp only; omega)⟩ (by decide) rfl g10 ?_
    refine r_if_eq E (tgt := 28) dX1_lacksPlace_23 (by decide) (fun c14 => ?_) (fun c14 => ?_)
    · have h := ift c14 h
      obtain ⟨g15, h⟩ := ck h
      obtain ⟨a16, e17, h⟩ := nn h
      obtain ⟨g18, h⟩ := ck h
      obtain ⟨a19, e20, h⟩ := nn h
      obtain ⟨g21, h⟩ := ck h
      obtain ⟨r24, s23, hc22, h⟩ := nb2 h
      refine r_aload_n E (x := q1) (i := 1) (j := 1) dX1_lacksPlace_28 rfl rfl ?_
      refine gf_X1_166 E (x := gp s12 105 a1) dX1_lacksPlace_29 e2 g15 rfl ?_
      refine r_aload_n E (x := q1) (i := 1) (j := 1) dX1_lacksPlace_32 rfl rfl ?_
      refine gf_X1_197 E (x := gp s12 106 a1) dX1_lacksPlace_33 e2 g15 rfl ?_
      refine gf_X1_173 E (x := gj s12 602 a16) dX1_lacksPlace_36 e17 g18 rfl ?_
      refine r_l2i E dX1_lacksPlace_39 ?_
      refine cl_X1_252 E (m_X5_hasPlace hc22) dX1_lacksPlace_40 ⟨Nat.le_of_ble_eq_true rfl, Nat.le_of_ble_eq_true rfl⟩ ⟨by first | decide | omega | (dsimp only; omega), by first | decide | omega | (dsimp only; omega)⟩ (by decide) e20 g21 ?_
      refine r_if_eq E (tgt := 48) dX1_lacksPlace_43 (by decide) (fun c25 => ?_) (fun c25 => ?_)
      · have h := ift c25 h
        obtain ⟨g26, h⟩ := ck h
        obtain ⟨a27, e28, h⟩ := nn h
        obtain ⟨g29, h⟩ := ck h
        obtain ⟨a30, e31, h⟩ := nn h
        obtain ⟨g32, h⟩ := ck h
        refine r_aload_n E (x := some h0) (i := 0) (j := 0) dX1_lacksPlace_48 rfl rfl ?_
        refine r_aload_n E (x := q1) (i := 1) (j := 1) dX1_lacksPlace_49 rfl rfl ?_
        refine gf_X1_139 E (x := gp s23 103 a1) dX1_lacksPlace_50 e2 g26 rfl ?_
        refine gf_X1_120 E (x := gi s23 400 a27) dX1_lacksPlace_53 e28 g29 rfl ?_
        refine r_aload_n E (x := q1) (i := 1) (j := 1) dX1_lacksPlace_56 rfl rfl ?_
        refine gf_X1_166 E (x := gp s23 105 a1) dX1_lacksPlace_57 e2 g26 rfl ?_
        refine gf_X1_255 E (x := gp s23 606 a30) dX1_lacksPlace_60 e31 g32 rfl ?_
        refine r_ifnonnull E (o := gp s23 606 a30) (tgt := 70) dX1_lacksPlace_63 (by decide) (fun c33 => ?_) (fun c33 => ?_)
        · have h := iff' c33 h
          obtain ⟨g34, h⟩ := ck h
          obtain ⟨r37, s36, hc35, h⟩ := nb2 h
          obtain ⟨rfl, rfl⟩ := lf2 h
          refine r_iconst E dX1_lacksPlace_70 (v := 2) (by decide) ?_
          refine cl_X1_85 E (m_X1_failAt hc35) dX1_lacksPlace_71 ⟨Nat.le_of_ble_eq_true rfl, Nat.le_of_ble_eq_true rfl⟩ ⟨by first | decide | omega | (dsimp only; omega), by first | decide | omega | (dsimp only; omega)⟩ (by decide) rfl g34 ?_
          refine r_pop E dX1_lacksPlace_74 (va_rf_cat _) ?_
          refine r_iconst E dX1_lacksPlace_75 (v := 1) (by decide) ?_
          exact r_zret E dX1_lacksPlace_76 (by decide)
        · have h := ift c33 h
          obtain ⟨g38, h⟩ := ck h
          obtain ⟨r41, s40, hc39, h⟩ := nb2 h
          obtain ⟨rfl, rfl⟩ := lf2 h
          refine r_iconst E dX1_lacksPlace_66 (v := 1) (by decide) ?_
          refine r_goto E (tgt := 71) dX1_lacksPlace_67 (by decide) ?_
          refine cl_X1_85 E (m_X1_failAt hc39) dX1_lacksPlace_71 ⟨Nat.le_of_ble_eq_true rfl, Nat.le_of_ble_eq_true rfl⟩ ⟨by first | decide | omega | (dsimp only; omega), by first | decide | omega | (dsimp only; omega)⟩ (by decide) rfl g38 ?_
          refine r_pop E dX1_lacksPlace_74 (va_rf_cat _) ?_
          refine r_iconst E dX1_lacksPlace_75 (v := 1) (by decide) ?_
          exact r_zret E dX1_lacksPlace_76 (by decide)
      · have h := iff' c25 h
        obtain ⟨rfl, rfl⟩ := lf2 h
        refine r_iconst E dX1_lacksPlace_46 (v := 0) (by decide) ?_
        exact r_zret E dX1_lacksPlace_47 (by decide)
    · have h := iff' c14 h
      obtain ⟨rfl, rfl⟩ := lf2 h
      refine r_iconst E dX1_lacksPlace_26 (v := 1) (by decide) ?_
      exact r_zret E dX1_lacksPlace_27 (by decide)
