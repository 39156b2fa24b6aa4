def ex_X1_send (d : Dp) (σ : Sg) (h0 : Nat) (q1 : Option Nat) : Option (Option Nat × Sg × Nat × Nat) := (Option.bind q1 fun a1 => (if gc σ a1 = 2 then (if gc σ h0 = 3 then (b2 (ex_X1_lacks d σ h0 q1 (gp σ 105 a1) (4 : Int32)) fun r7 s6 => (if r7 = (0 : Int32) then (if gc s6 a1 = 2 then (Option.bind (gp s6 105 a1) fun a10 => (if gc s6 a10 = 7 then (Option.bind (gp s6 103 a1) fun a13 => (if gc s6 a13 = 5 then (b2 (ex_X3_get d s6 a13 (1 : Int32)) fun r18 s17 => (if r18 = 0 then some (gp s6 603 a10, s17, 0, 0) else (if r18 = 1 then (if gc s17 a1 = 2 then (Option.bind (gp s17 105 a1) fun a22 => (if gc s17 a22 = 7 then some (gp s6 603 a10, (sp s17 603 a22 (gp s17 107 a1)), 0, 0) else none)) else none) else (if r18 = 2 ∨ r18 = 3 ∨ r18 = 4 ∨ r18 = 5 ∨ r18 = 6 then (if gc s17 h0 = 3 then (b4 (ex_X1_reckon d s17 h0 q1 r18 (gp s6 603 a10)) fun r29 s28 k30 n31 => some (r29, s28, 0 + k30, 0 + n31)) else none) else (if r18 = 7 then (if gc s17 h0 = 3 then (if gc s17 a1 = 2 then (if (gp s6 603 a10) = (gp s17 107 a1) then (Option.bind (gp s17 201 h0) fun a44 => (if gc s17 a44 = 4 then (b4 (ex_X2_withValue d s17 a44 (1 : Int32) (1 : Int64)) fun r49 s48 k50 n51 => some (r49, s48, 0 + k50, 0 + n51)) else none)) else (Option.bind (gp s17 201 h0) fun a36 => (if gc s17 a36 = 4 then (b4 (ex_X2_withValue d s17 a36 (1 : Int32) (0 : Int64)) fun r41 s40 k42 n43 => some (r41, s40, 0 + k42, 0 + n43)) else none))) else none) else none) else (if gc s17 h0 = 3 then (Option.bind (gp s17 201 h0) fun a53 => (if gc s17 a53 = 4 then (b4 (ex_X2_withValue d s17 a53 (1 : Int32) (0 : Int64)) fun r58 s57 k59 n60 => some (r58, s57, 0 + k59, 0 + n60)) else none)) else none)))))) else none)) else none)) else none) else some (none, s6, 0, 0))) else none) else none))
set_option maxHeartbeats 4000000 in
set_option maxRecDepth 20000 in
theorem m_X1_send {l : Launch} {d : Dp} {σ σ' : Sg} {h0 : Nat} {q1 : Option Nat} {r : Option Nat} {kF nF : Nat} (h : ex_X1_send d σ h0 q1 = some (r, σ', kF, nF)) : Mt l d yX1_send cX1_send 4 (some (.object "FrameTalk$Thing")) 4 93 σ [.ref h0, va_rf (q1)] (some (va_rf r)) σ' kF nF := by
  refine mt_start (own := RX1) (lv0 := [(0, va_rf (some h0)), (1, va_rf (q1))]) (by decide) rfl (by simp only [lg_sl, List.flatMap_cons, List.flatMap_nil, va_rf_cat]; exact Nat.le_of_ble_eq_true rfl) (by first | rfl | (simp only [lv_args, va_rf_cat]; rfl)) ?_
  intro p e s m args below meth c E hnm
  unfold ex_X1_send at h
  obtain ⟨a1, e2, h⟩ := nn h
  obtain ⟨g3, h⟩ := ck h
  obtain ⟨g4, h⟩ := ck h
  obtain ⟨r7, s6, hc5, h⟩ := nb2 h
  refine r_aload_n E (x := some h0) (i := 0) (j := 0) dX1_send_0 rfl rfl ?_
  refine r_aload_n E (x := q1) (i := 1) (j := 1) dX1_send_1 rfl rfl ?_
  refine r_aload_n E (x := q1) (i := 1) (j := 1) dX1_send_2 rfl rfl ?_
  refine gf_X1_166 E (x := gp σ 105 a1) dX1_send_3 e2 g3 rfl ?_
  refine r_iconst E dX1_send_6 (v := 4) (by decide) ?_
  refine cl_X1_169 E (m_X1_lacks hc5) dX1_send_7 ⟨Nat.le_of_ble_eq_true rfl, Nat.le_of_ble_eq_true rfl⟩ ⟨by first | decide | omega | (dsimp only; omega), by first | decide | omega | (dsimp only; omega)⟩ (by decide) rfl g4 ?_
  refine r_if_eq E (tgt := 15) dX1_send_10 (by decide) (fun c8 => ?_) (fun c8 => ?_)
  · have h := ift c8 h
    obtain ⟨g9, h⟩ := ck h
    obtain ⟨a10, e11, h⟩ := nn h
    obtain ⟨g12, h⟩ := ck h
    obtain ⟨a13, e14, h⟩ := nn h
    obtain ⟨g15, h⟩ := ck h
    obtain ⟨r18, s17, hc16, h⟩ := nb2 h
    refine r_aload_n E (x := q1) (i := 1) (j := 1) dX1_send_15 rfl rfl ?_
    refine gf_X1_166 E (x := gp s6 105 a1) dX1_send_16 e2 g9 rfl ?_
    refine gf_X1_230 E (x := gp s6 603 a10) dX1_send_19 e11 g12 rfl ?_
    refine r_astore_n E (i := 2) (lv' := [(2, va_rf (gp s6 603 a10)), (0, va_rf (some h0)), (1, va_rf (q1))]) dX1_send_22 rfl (by decide) (by first | rfl | (simp only [List.filter_cons, List.filter_nil, va_rf_cat]; rfl)) ?_
    refine r_aload_n E (x := q1) (i := 1) (j := 2) dX1_send_23 rfl rfl ?_
    refine gf_X1_139 E (x := gp s6 103 a1) dX1_send_24 e2 g9 rfl ?_
    refine r_iconst E dX1_send_27 (v := 1) (by decide) ?_
    refine cl_X1_143 E (m_X3_get hc16) dX1_send_28 ⟨Nat.le_of_ble_eq_true rfl, Nat.le_of_ble_eq_true rfl⟩ ⟨by first | decide | omega | (dsimp only; omega), by first | decide | omega | (dsimp only; omega)⟩ (by decide) e14 g15 ?_
    refine r_istore_n E (i := 3) (lv' := [(3, .int (r18)), (2, va_rf (gp s6 603 a10)), (0, va_rf (some h0)), (1, va_rf (q1))]) dX1_send_31 rfl (by decide) (by first | rfl | (simp only [List.filter_cons, List.filter_nil, va_rf_cat]; rfl)) ?_
    refine r_iload_n E (i := 3) (j := 0) dX1_send_32 rfl rfl ?_
    by_cases c19 : r18 = 0
    · have h := ift c19 h
      obtain ⟨rfl, rfl, rfl, rfl⟩ := lf4 h
      refine r_tab E (off := 47) (tgt := 80) dX1_send_33 (by rw [c19]; decide) (fun w1 w2 => by show _ < 8; omega) (by decide) ?_
      refine r_aload_n E (x := gp s6 603 a10) (i := 2) (j := 1) dX1_send_80 rfl rfl ?_
      exact r_aret E dX1_send_81 (Or.inl ⟨_, rfl⟩)
    · have h := iff' c19 h
      by_cases c20 : r18 = 1
      · have h := ift c20 h
        obtain ⟨g21, h⟩ := ck h
        obtain ⟨a22, e23, h⟩ := nn h
        obtain ⟨g24, h⟩ := ck h
        obtain ⟨rfl, rfl, rfl, rfl⟩ := lf4 h
        refine r_tab E (off := 49) (tgt := 82) dX1_send_33 (by rw [c20]; decide) (fun w1 w2 => by show _ < 8; omega) (by decide) ?_
        refine r_aload_n E (x := q1) (i := 1) (j := 3) dX1_send_82 rfl rfl ?_
        refine gf_X1_166 E (x := gp s17 105 a1) dX1_send_83 e2 g21 rfl ?_
        refine r_aload_n E (x := q1) (i := 1) (j := 3) dX1_send_86 rfl rfl ?_
        refine gf_X1_236 E (x := gp s17 107 a1) dX1_send_87 e2 g21 rfl ?_
        refine pf_X1_230 E dX1_send_90 e23 g24 ?_
        refine r_aload_n E (x := gp s6 603 a10) (i := 2) (j := 1) dX1_send_93 rfl rfl ?_
        exact r_aret E dX1_send_94 (Or.inl ⟨_, rfl⟩)
      · have h := iff' c20 h
        by_cases c25 : r18 = 2 ∨ r18 = 3 ∨ r18 = 4 ∨ r18 = 5 ∨ r18 = 6
        · have h := ift c25 h
          obtain ⟨g26, h⟩ := ck h
          obtain ⟨r29, s28, k30, n31, hc27, h⟩ := nb4 h
          obtain ⟨rfl, rfl, rfl, rfl⟩ := lf4 h
          refine r_tab E (off := 62) (tgt := 95) dX1_send_33 (by rcases c25 with q | q | q | q | q <;> (rw [q]; decide)) (fun w1 w2 => by show _ < 8; omega) (by decide) ?_
          refine r_aload_n E (x := some h0) (i := 0) (j := 2) dX1_send_95 rfl rfl ?_
          refine r_aload_n E (x := q1) (i := 1) (j := 3) dX1_send_96 rfl rfl ?_
          refine r_iload_n E (i := 3) (j := 0) dX1_send_97 rfl rfl ?_
          refine r_aload_n E (x := gp s6 603 a10) (i := 2) (j := 1) dX1_send_98 rfl rfl ?_
          refine cl_X1_239 E (m_X1_reckon hc27) dX1_send_99 ⟨Nat.le_of_ble_eq_true rfl, Nat.le_of_ble_eq_true rfl⟩ ⟨by first | decide | omega | (dsimp only; omega), by first | decide | omega | (dsimp only; omega)⟩ (by decide) rfl g26 ?_
          exact r_aret E dX1_send_102 (Or.inl ⟨_, rfl⟩)
        · have h := iff' c25 h
          by_cases c32 : r18 = 7
          · have h := ift c32 h
            obtain ⟨g33, h⟩ := ck h
            obtain ⟨g34, h⟩ := ck h
            refine r_tab E (off := 70) (tgt := 103) dX1_send_33 (by rw [c32]; decide) (fun w1 w2 => by show _ < 8; omega) (by decide) ?_
            refine r_aload_n E (x := some h0) (i := 0) (j := 2) dX1_send_103 rfl rfl ?_
            refine gf_X1_21 E (x := gp s17 201 h0) dX1_send_104 rfl g33 rfl ?_
            refine r_iconst E dX1_send_107 (v := 1) (by decide) ?_
            refine r_aload_n E (x := gp s6 603 a10) (i := 2) (j := 1) dX1_send_108 rfl rfl ?_
            refine r_aload_n E (x := q1) (i := 1) (j := 3) dX1_send_109 rfl rfl ?_
            refine gf_X1_236 E (x := gp s17 107 a1) dX1_send_110 e2 g34 rfl ?_
            refine r_acmp_ne E (o1 := gp s6 603 a10) (o2 := gp s17 107 a1) (tgt := 120) dX1_send_113 (by decide) (fun c35 => ?_) (fun c35 => ?_)
            · have h := iff' c35 h
              obtain ⟨a36, e37, h⟩ := nn h
              obtain ⟨g38, h⟩ := ck h
              obtain ⟨r41, s40, k42, n43, hc39, h⟩ := nb4 h
              obtain ⟨rfl, rfl, rfl, rfl⟩ := lf4 h
              refine r_lconst E dX1_send_120 (v := 0) (by decide) ?_
              refine cl_X1_184 E (m_X2_withValue hc39) dX1_send_121 ⟨Nat.le_of_ble_eq_true rfl, Nat.le_of_ble_eq_true rfl⟩ ⟨by first | decide | omega | (dsimp only; omega), by first | decide | omega | (dsimp only; omega)⟩ (by decide) e37 g38 ?_
              exact r_aret E dX1_send_124 (Or.inl ⟨_, rfl⟩)
            · have h := ift c35 h
              obtain ⟨a44, e45, h⟩ := nn h
              obtain ⟨g46, h⟩ := ck h
              obtain ⟨r49, s48, k50, n51, hc47, h⟩ := nb4 h
              obtain ⟨rfl, rfl, rfl, rfl⟩ := lf4 h
              refine r_lconst E dX1_send_116 (v := 1) (by decide) ?_
              refine r_goto E (tgt := 121) dX1_send_117 (by decide) ?_
              refine cl_X1_184 E (m_X2_withValue hc47) dX1_send_121 ⟨Nat.le_of_ble_eq_true rfl, Nat.le_of_ble_eq_true rfl⟩ ⟨by first | decide | omega | (dsimp only; omega), by first | decide | omega | (dsimp only; omega)⟩ (by decide) e45 g46 ?_
              exact r_aret E dX1_send_124 (Or.inl ⟨_, rfl⟩)
          · have h := iff' c32 h
            obtain ⟨g52, h⟩ := ck h
            obtain ⟨a53, e54, h⟩ := nn h
            obtain ⟨g55, h⟩ := ck h
            obtain ⟨r58, s57, k59, n60, hc56, h⟩ := nb4 h
            obtain ⟨rfl, rfl, rfl, rfl⟩ := lf4 h
            refine r_tab E (off := 92) (tgt := 125) dX1_send_33 (by have z0 := lv_neT (x := r18) (k := 0) (a := 0) c19 (by decide); have z1 := lv_neT (x := r18) (k := 1) (a := 1) c20 (by decide); have z2 := lv_neT (x := r18) (k := 2) (a := 2) (fun q => c25 (Or.inl q)) (by decide); have z3 := lv_neT (x := r18) (k := 3) (a := 3) (fun q => c25 (Or.inr (Or.inl q))) (by decide); have z4 := lv_neT (x := r18) (k := 4) (a := 4) (fun q => c25 (Or.inr (Or.inr (Or.inl q)))) (by decide); have z5 := lv_neT (x := r18) (k := 5) (a := 5) (fun q => c25 (Or.inr (Or.inr (Or.inr (Or.inl q))))) (by decide); have z6 := lv_neT (x := r18) (k := 6) (a := 6) (fun q => c25 (Or.inr (Or.inr (Or.inr (Or.inr (q)))))) (by decide); have z7 := lv_neT (x := r18) (k := 7) (a := 7) c32 (by decide); by_cases w1 : Int32.toInt r18 < 0 <;> by_cases w2 : 7 < Int32.toInt r18 <;> first | (simp [w1, w2]; done) | (exfalso; omega)) (fun w1 w2 => by show _ < 8; omega) (by decide) ?_
            refine r_aload_n E (x := some h0) (i := 0) (j := 2) dX1_send_125 rfl rfl ?_
            refine gf_X1_21 E (x := gp s17 201 h0) dX1_send_126 rfl g52 rfl ?_
            refine r_iconst E dX1_send_129 (v := 1) (by decide) ?_
            refine r_lconst E dX1_send_130 (v := 0) (by decide) ?_
            refine cl_X1_184 E (m_X2_withValue hc56) dX1_send_131 ⟨Nat.le_of_ble_eq_true rfl, Nat.le_of_ble_eq_true rfl⟩ ⟨by first | decide | omega | (dsimp only; omega), by first | decide | omega | (dsimp only; omega)⟩ (by decide) e54 g55 ?_
            exact r_aret E dX1_send_134 (Or.inl ⟨_, rfl⟩)
  · have h := iff' c8 h
    obtain ⟨rfl, rfl, rfl, rfl⟩ := lf4 h
    refine r_null E dX1_send_13 ?_
    exact r_aret E dX1_send_14 (Or.inl ⟨_, rfl⟩)
def ex_X2_rowWithoutPlaces (d : Dp) (σ : Sg) (h0 : Nat) : Option (Option Nat × Sg × Nat × Nat) := (if gc (nw σ 7) h0 = 4 then (b2 (ex_X5_init d (si (nw σ 7) 300 h0 ((gi (nw σ 7) 300 h0) + (1 : Int32))) (hs σ) (gi (nw σ 7) 300 h0) (5 : Int32)) fun r4 s3 => some (some (hs σ), s3, 0 + 1, 0 + 7)) else none)
set_option maxHeartbeats 4000000 in
set_option maxRecDepth 20000 in
theorem m_X2_rowWithoutPlaces {l : Launch} {d : Dp} {σ σ' : Sg} {h0 : Nat} {r : Option Nat} {kF nF : Nat} (h : ex_X2_rowWithoutPlaces d σ h0 = some (r, σ', kF, nF)) : Mt l d yX2_rowWithoutPlaces cX2_rowWithoutPlaces 1 (some (.object "FrameTalk$Thing")) 2 42 σ [.ref h0] (some (va_rf r)) σ' kF nF := by
  refine mt_start (own := RX2) (lv0 := [(0, va_rf (some h0))]) (by decide) rfl (by simp only [lg_sl, List.flatMap_cons, List.flatMap_nil, va_rf_cat]; exact Nat.le_of_ble_eq_true rfl) (by first | rfl | (simp only [lv_args, va_rf_cat]; rfl)) ?_
  intro p e s m args below meth c E hnm
  unfold ex_X2_rowWithoutPlaces at h
  obtain ⟨g1, h⟩ := ck h
  obtain ⟨r4, s3, hc2, h⟩ := nb2 h
  obtain ⟨rfl, rfl, rfl, rfl⟩ := lf4 h
  refine nw_X2_7 E dX2_rowWithoutPlaces_0 ⟨by first | decide | omega | (dsimp only; omega), by first | decide | omega | (dsimp only; omega)⟩ ?_
  refine r_dup E dX2_rowWithoutPlaces_3 (va_rf_cat _) ?_
  refine r_aload_n E (x := some h0) (i := 0) (j := 0) dX2_rowWithoutPlaces_4 rfl rfl ?_
  refine r_dup E dX2_rowWithoutPlaces_5 (va_rf_cat _) ?_
  refine gf_X2_9 E (x := gi (nw σ 7) 300 h0) dX2_rowWithoutPlaces_6 rfl g1 rfl ?_
  refine r_dup_x1 E dX2_rowWithoutPlaces_9 rfl (va_rf_cat _) ?_
  refine r_iconst E dX2_rowWithoutPlaces_10 (v := 1) (by decide) ?_
  refine r_iadd E dX2_rowWithoutPlaces_11 ?_
  refine pf_X2_9 E dX2_rowWithoutPlaces_12 rfl g1 ?_
  refine r_iconst E dX2_rowWithoutPlaces_15 (v := 5) (by decide) ?_
  refine cl_X2_15 E (m_X5_init hc2) dX2_rowWithoutPlaces_16 ⟨Nat.le_of_ble_eq_true rfl, Nat.le_of_ble_eq_true rfl⟩ ⟨by first | decide | omega | (dsimp only; omega), by first | decide | omega | (dsimp only; omega)⟩ (by simp only [List.map_cons, List.map_nil, va_rf_cat]; exact Nat.le_of_ble_eq_true rfl) rfl ?_
  exact r_aret E dX2_rowWithoutPlaces_19 (Or.inl ⟨_, rfl⟩)
def ex_X2_hasRoomFor (d : Dp) (σ : Sg) (h0 : Nat) (p1 : Int32) : Option (Int32 × Sg) := (if p1 < (0 : Int32) then some ((0 : Int32), σ) else (if gc σ h0 = 4 then (if ((20000 : Int32) - (gi σ 301 h0)) < p1 then some ((0 : Int32), σ) else some ((1 : Int32), σ)) else none))
set_option maxHeartbeats 4000000 in
set_option maxRecDepth 20000 in
theorem m_X2_hasRoomFor {l : Launch} {d : Dp} {σ σ' : Sg} {h0 : Nat} {p1 : Int32} {r : Int32} (h : ex_X2_hasRoomFor d σ h0 p1 = some (r, σ')) : Mt l d yX2_hasRoomFor cX2_hasRoomFor 2 (some .boolean) 0 0 σ [.ref h0, .int (p1)] (some (.int r)) σ' 0 0 := by
  refine mt_start (own := RX2) (lv0 := [(0, va_rf (some h0)), (1, .int (p1))]) (by decide) rfl (by simp only [lg_sl, List.flatMap_cons, List.flatMap_nil, va_rf_cat]; exact Nat.le_of_ble_eq_true rfl) (by first | rfl | (simp only [lv_args, va_rf_cat]; rfl)) ?_
  intro p e s m args below meth c E hnm
  unfold ex_X2_hasRoomFor at h
  refine r_iload_n E (i := 1) (j := 1) dX2_hasRoomFor_0 rfl rfl ?_
  refine r_if_lt E (tgt := 20) dX2_hasRoomFor_1 (by decide) (fun c1 => ?_) (fun c1 => ?_)
  · have h := ift c1 h
    obtain ⟨rfl, rfl⟩ := lf2 h
    refine r_iconst E dX2_hasRoomFor_20 (v := 0) (by decide) ?_
    exact r_zret E dX2_hasRoomFor_21 (by decide)
  · have h := iff' c1 h
    obtain ⟨g2, h⟩ := ck h
    refine r_iload_n E (i := 1) (j := 1) dX2_hasRoomFor_4 rfl rfl ?_
    refine r_sipush E dX2_hasRoomFor_5 (v := 20000) (by decide) ?_
    refine r_aload_n E (x := some h0) (i := 0) (j := 0) dX2_hasRoomFor_8 rfl rfl ?_
    refine gf_X2_29 E (x := gi σ 301 h0) dX2_hasRoomFor_9 rfl g2 rfl ?_
    refine r_isub E dX2_hasRoomFor_12 ?_
    refine r_icmp_gt E (tgt := 20) dX2_hasRoomFor_13 (by decide) (fun c3 => ?_) (fun c3 => ?_)
    · have h := ift c3 h
      obtain ⟨rfl, rfl⟩ := lf2 h
      refine r_iconst E dX2_hasRoomFor_20 (v := 0) (by decide) ?_
      exact r_zret E dX2_hasRoomFor_21 (by decide)
    · have h := iff' c3 h
      obtain ⟨rfl, rfl⟩ := lf2 h
      refine r_iconst E dX2_hasRoomFor_16 (v := 1) (by decide) ?_
      refine r_goto E (tgt := 21) dX2_hasRoomFor_17 (by decide) ?_
      exact r_zret E dX2_hasRoomFor_21 (by decide)
def ex_X2_row (d : Dp) (σ : Sg) (h0 : Nat) (p1 : Int32) (p2 : Int32) : Option (Option Nat × Sg × Nat × Nat) := (if gc σ h0 = 4 then (b4 (ex_X2_rowWithoutPlaces d σ h0) fun r4 s3 k5 n6 => (if gc s3 h0 = 4 then (b2 (ex_X2_hasRoomFor d s3 h0 p2) fun r10 s9 => (if r10 = (0 : Int32) then some (r4, s9, 0 + k5, 0 + n6) else (if gc s9 h0 = 4 then (Option.bind r4 fun a13 => (if gc s9 a13 = 7 then (if ¬ p2 < 0 then (if Int32.toNatClampNeg p2 * 4 ≤ 536870912 then (if gc (na s9 12 (Int32.toNatClampNeg p2)) a13 = 7 then some (r4, (sp (na (si (si s9 301 h0 ((gi s9 301 h0) + p2)) 605 a13 p1) 12 (Int32.toNatClampNeg p2)) 606 a13 (some (hs s9))), 0 + k5 + 1, 0 + n6 + Int32.toNatClampNeg p2) else none) else none) else none) else none)) else none))) else none)) else none)
set_option maxHeartbeats 4000000 in
set_option maxRecDepth 20000 in
theorem m_X2_row {l : Launch} {d : Dp} {σ σ' : Sg} {h0 : Nat} {p1 : Int32} {p2 : Int32} {r : Option Nat} {kF nF : Nat} (h : ex_X2_row d σ h0 p1 p2 = some (r, σ', kF, nF)) : Mt l d yX2_row cX2_row 4 (some (.object "FrameTalk$Thing")) 3 62 σ [.ref h0, .int (p1), .int (p2)] (some (va_rf r)) σ' kF nF := by
  refine mt_start (own := RX2) (lv0 := [(0, va_rf (some h0)), (1, .int (p1)), (2, .int (p2))]) (by decide) rfl (by simp only [lg_sl, List.flatMap_cons, List.flatMap_nil, va_rf_cat]; exact Nat.le_of_ble_eq_true rfl) (by first | rfl | (simp only [lv_args, va_rf_cat]; rfl)) ?_
  intro p e s m args below meth c E hnm
  unfold ex_X2_row at h
  obtain ⟨g1, h⟩ := ck h
  obtain ⟨r4, s3, k5, n6, hc2, h⟩ := nb4 h
  obtain ⟨g7, h⟩ := ck h
  obtain ⟨r10, s9, hc8, h⟩ := nb2 h
  have hmo : 0 + k5 ≤ kF ∧ 0 + n6 ≤ nF := by
    by_cases c11 : r10 = (0 : Int32)
    · have h := ift c11 h
      obtain ⟨_, _, rfl, rfl⟩ := lf4 h
      exact ⟨by omega, by omega⟩
    · have h := iff' c11 h
      obtain ⟨_, h⟩ := ck h
      obtain ⟨a13, _, h⟩ := nn h
      obtain ⟨_, h⟩ := ck h
      obtain ⟨_, h⟩ := ck h
      obtain ⟨_, h⟩ := ck h
      obtain ⟨_, h⟩ := ck h
      obtain ⟨_, _, rfl, rfl⟩ := lf4 h
      exact ⟨by omega, by omega⟩
  refine r_aload_n E (x := some h0) (i := 0) (j := 0) dX2_row_0 rfl rfl ?_
  refine cl_X2_32 E (m_X2_rowWithoutPlaces hc2) dX2_row_1 ⟨Nat.le_of_ble_eq_true rfl, Nat.le_of_ble_eq_true rfl⟩ ⟨by first | decide | omega | (dsimp only; omega), by first | decide | omega | (dsimp only; omega)⟩ (by decide) rfl g1 ?_
  refine r_astore_n E (i := 3) (lv' := [(3, va_rf (r4)), (0, va_rf (some h0)), (1, .int (p1)), (2, .int (p2))]) dX2_row_4 rfl (by decide) (by first | rfl | (simp only [List.filter_cons, List.filter_nil, va_rf_cat]; rfl)) ?_
  refine r_aload_n E (x := some h0) (i := 0) (j := 1) dX2_row_5 rfl rfl ?_
  refine r_iload_n E (i := 2) (j := 3) dX2_row_6 rfl rfl ?_
  refine cl_X2_36 E (m_X2_hasRoomFor hc8) dX2_row_7 ⟨Nat.le_of_ble_eq_true rfl, Nat.le_of_ble_eq_true rfl⟩ ⟨by first | decide | omega | (dsimp only; omega), by first | decide | omega | (dsimp only; omega)⟩ (by decide) rfl g7 ?_
  refine r_if_eq E (tgt := 36) dX2_row_10 (by decide) (fun c11 => ?_) (fun c11 => ?_)
  · have h := ift c11 h
    obtain ⟨rfl, rfl, rfl, rfl⟩ := lf4 h
    refine r_aload_n E (x := r4) (i := 3) (j := 0) dX2_row_36 rfl rfl ?_
    exact r_aret E dX2_row_37 (Or.inl ⟨_, rfl⟩)
  · have h := iff' c11 h
    obtain ⟨g12, h⟩ := ck h
    obtain ⟨a13, e14, h⟩ := nn h
    obtain ⟨g15, h⟩ := ck h
    obtain ⟨g16, h⟩ := ck h
    obtain ⟨g17, h⟩ := ck h
    obtain ⟨g18, h⟩ := ck h
    obtain ⟨rfl, rfl, rfl, rfl⟩ := lf4 h
    refine r_aload_n E (x := some h0) (i := 0) (j := 1) dX2_row_13 rfl rfl ?_
    refine r_dup E dX2_row_14 (va_rf_cat _) ?_
    refine gf_X2_29 E (x := gi s9 301 h0) dX2_row_15 rfl g12 rfl ?_
    refine r_iload_n E (i := 2) (j := 3) dX2_row_18 rfl rfl ?_
    refine r_iadd E dX2_row_19 ?_
    refine pf_X2_29 E dX2_row_20 rfl g12 ?_
    refine r_aload_n E (x := r4) (i := 3) (j := 0) dX2_row_23 rfl rfl ?_
    refine r_iload_n E (i := 1) (j := 2) dX2_row_24 rfl rfl ?_
    refine pf_X2_40 E dX2_row_25 e14 g15 ?_
    refine r_aload_n E (x := r4) (i := 3) (j := 0) dX2_row_28 rfl rfl ?_
    refine r_iload_n E (i := 2) (j := 3) dX2_row_29 rfl rfl ?_
    refine r_anewT E dX2_row_30 wm_2_142 g16 g17 ⟨by first | decide | omega | (dsimp only; omega), by first | decide | omega | (dsimp only; omega)⟩ ?_
    refine pf_X2_43 E dX2_row_33 e14 g18 ?_
    refine r_aload_n E (x := r4) (i := 3) (j := 0) dX2_row_36 rfl rfl ?_
    exact r_aret E dX2_row_37 (Or.inl ⟨_, rfl⟩)
