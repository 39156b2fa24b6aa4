def ex_X1_useSlot (d : Dp) (σ : Sg) (h0 : Nat) (q1 : Option Nat) : Option (Option Nat × Sg) := (Option.bind q1 fun a1 => (if gc σ a1 = 2 then (Option.bind (gp σ 103 a1) fun a4 => (if gc σ a4 = 5 then (b2 (ex_X3_get d σ a4 (0 : Int32)) fun r9 s8 => (if gc s8 h0 = 3 then (b2 (ex_X1_isSlot d s8 h0 r9) fun r13 s12 => (if r13 = (0 : Int32) then (if gc s12 a1 = 2 then (Option.bind (gp s12 103 a1) fun a33 => (if gc s12 a33 = 5 then (if gc s12 h0 = 3 then (b2 (ex_X1_failAt d s12 h0 (gi s12 400 a33) (2 : Int32)) fun r39 s38 => some (r39, s38)) else none) else none)) else none) else (if gc s12 a1 = 2 then (Option.bind (gp s12 103 a1) fun a16 => (if gc s12 a16 = 5 then (if (gi s12 401 a16) = (2 : Int32) then (if gc s12 h0 = 3 then (Option.bind (gp s12 202 h0) fun a26 => (if gc s12 a26 = 12 then (if ¬ (r9 < 0 ∨ gl s12 a26 ≤ Int32.toNatClampNeg r9) then (if (gp s12 106 a1) = none ∨ gc s12 (Option.getD (gp s12 106 a1) 0) = 7 then (if ¬ (r9 < 0 ∨ gl s12 a26 ≤ Int32.toNatClampNeg r9) then some (ap (wp s12 a26 (Int32.toNatClampNeg r9) (gp s12 106 a1)) a26 (Int32.toNatClampNeg r9), (wp s12 a26 (Int32.toNatClampNeg r9) (gp s12 106 a1))) else none) else none) else none) else none)) else none) else (if gc s12 h0 = 3 then (Option.bind (gp s12 202 h0) fun a21 => (if gc s12 a21 = 12 then (if ¬ (r9 < 0 ∨ gl s12 a21 ≤ Int32.toNatClampNeg r9) then some (ap s12 a21 (Int32.toNatClampNeg r9), s12) else none) else none)) else none)) else none)) else none))) else none)) else none)) else none))
set_option maxHeartbeats 4000000 in
set_option maxRecDepth 20000 in
theorem m_X1_useSlot {l : Launch} {d : Dp} {σ σ' : Sg} {h0 : Nat} {q1 : Option Nat} {r : Option Nat} (h : ex_X1_useSlot d σ h0 q1 = some (r, σ')) : Mt l d yX1_useSlot cX1_useSlot 3 (some (.object "FrameTalk$Thing")) 1 22 σ [.ref h0, va_rf (q1)] (some (va_rf r)) σ' 0 0 := by
  refine mt_start (own := RX1) (lv0 := [(0, va_rf (some h0)), (1, va_rf (q1))]) (by decide) rfl (by simp only [lg_sl, List.flatMap_cons, List.flatMap_nil, va_rf_cat]; exact Nat.le_of_ble_eq_true rfl) (by first | rfl | (simp only [lv_args, va_rf_cat]; rfl)) ?_
  intro p e s m args below meth c E hnm
  unfold ex_X1_useSlot at h
  obtain ⟨a1, e2, h⟩ := nn h
  obtain ⟨g3, h⟩ := ck h
  obtain ⟨a4, e5, h⟩ := nn h
  obtain ⟨g6, h⟩ := ck h
  obtain ⟨r9, s8, hc7, h⟩ := nb2 h
  obtain ⟨g10, h⟩ := ck h
  obtain ⟨r13, s12, hc11, h⟩ := nb2 h
  refine r_aload_n E (x := q1) (i := 1) (j := 1) dX1_useSlot_0 rfl rfl ?_
  refine gf_X1_139 E (x := gp σ 103 a1) dX1_useSlot_1 e2 g3 rfl ?_
  refine r_iconst E dX1_useSlot_4 (v := 0) (by decide) ?_
  refine cl_X1_143 E (m_X3_get hc7) dX1_useSlot_5 ⟨Nat.le_of_ble_eq_true rfl, Nat.le_of_ble_eq_true rfl⟩ ⟨by first | decide | omega | (dsimp only; omega), by first | decide | omega | (dsimp only; omega)⟩ (by decide) e5 g6 ?_
  refine r_istore_n E (i := 2) (lv' := [(2, .int (r9)), (0, va_rf (some h0)), (1, va_rf (q1))]) dX1_useSlot_8 rfl (by decide) (by first | rfl | (simp only [List.filter_cons, List.filter_nil, va_rf_cat]; rfl)) ?_
  refine r_aload_n E (x := some h0) (i := 0) (j := 1) dX1_useSlot_9 rfl rfl ?_
  refine r_iload_n E (i := 2) (j := 0) dX1_useSlot_10 rfl rfl ?_
  refine cl_X1_47 E (m_X1_isSlot hc11) dX1_useSlot_11 ⟨Nat.le_of_ble_eq_true rfl, Nat.le_of_ble_eq_true rfl⟩ ⟨by first | decide | omega | (dsimp only; omega), by first | decide | omega | (dsimp only; omega)⟩ (by decide) rfl g10 ?_
  refine r_if_ne E (tgt := 30) dX1_useSlot_14 (by decide) (fun c14 => ?_) (fun c14 => ?_)
  · have h := iff' c14 h
    obtain ⟨g15, h⟩ := ck h
    obtain ⟨a16, e17, h⟩ := nn h
    obtain ⟨g18, h⟩ := ck h
    refine r_aload_n E (x := q1) (i := 1) (j := 2) dX1_useSlot_30 rfl rfl ?_
    refine gf_X1_139 E (x := gp s12 103 a1) dX1_useSlot_31 e2 g15 rfl ?_
    refine gf_X1_151 E (x := gi s12 401 a16) dX1_useSlot_34 e17 g18 rfl ?_
    refine r_iconst E dX1_useSlot_37 (v := 2) (by decide) ?_
    refine r_icmp_ne E (tgt := 51) dX1_useSlot_38 (by decide) (fun c19 => ?_) (fun c19 => ?_)
    · have h := iff' c19 h
      obtain ⟨g20, h⟩ := ck h
      obtain ⟨a21, e22, h⟩ := nn h
      obtain ⟨g23, h⟩ := ck h
      obtain ⟨g24, h⟩ := ck h
      obtain ⟨rfl, rfl⟩ := lf2 h
      refine r_aload_n E (x := some h0) (i := 0) (j := 1) dX1_useSlot_51 rfl rfl ?_
      refine gf_X1_27 E (x := gp s12 202 h0) dX1_useSlot_52 rfl g20 rfl ?_
      refine r_iload_n E (i := 2) (j := 0) dX1_useSlot_55 rfl rfl ?_
      refine r_aaldT E dX1_useSlot_56 e22 g23 g24 ?_
      exact r_aret E dX1_useSlot_57 (Or.inl ⟨_, rfl⟩)
    · have h := ift c19 h
      obtain ⟨g25, h⟩ := ck h
      obtain ⟨a26, e27, h⟩ := nn h
      obtain ⟨g28, h⟩ := ck h
      obtain ⟨g29, h⟩ := ck h
      obtain ⟨g30, h⟩ := ck h
      obtain ⟨g31, h⟩ := ck h
      obtain ⟨rfl, rfl⟩ := lf2 h
      refine r_aload_n E (x := some h0) (i := 0) (j := 1) dX1_useSlot_41 rfl rfl ?_
      refine gf_X1_27 E (x := gp s12 202 h0) dX1_useSlot_42 rfl g25 rfl ?_
      refine r_iload_n E (i := 2) (j := 0) dX1_useSlot_45 rfl rfl ?_
      refine r_aload_n E (x := q1) (i := 1) (j := 2) dX1_useSlot_46 rfl rfl ?_
      refine gf_X1_197 E (x := gp s12 106 a1) dX1_useSlot_47 e2 g15 rfl ?_
      refine r_aastX E dX1_useSlot_50 e27 g28 g29 g30 ?_
      refine r_aload_n E (x := some h0) (i := 0) (j := 1) dX1_useSlot_51 rfl rfl ?_
      refine gf_X1_27 E (x := gp s12 202 h0) dX1_useSlot_52 rfl g25 rfl ?_
      refine r_iload_n E (i := 2) (j := 0) dX1_useSlot_55 rfl rfl ?_
      refine r_aaldT E dX1_useSlot_56 e27 g28 g31 ?_
      exact r_aret E dX1_useSlot_57 (Or.inl ⟨_, rfl⟩)
  · have h := ift c14 h
    obtain ⟨g32, h⟩ := ck h
    obtain ⟨a33, e34, h⟩ := nn h
    obtain ⟨g35, h⟩ := ck h
    obtain ⟨g36, h⟩ := ck h
    obtain ⟨r39, s38, hc37, h⟩ := nb2 h
    obtain ⟨rfl, rfl⟩ := lf2 h
    refine r_aload_n E (x := some h0) (i := 0) (j := 1) dX1_useSlot_17 rfl rfl ?_
    refine r_aload_n E (x := q1) (i := 1) (j := 2) dX1_useSlot_18 rfl rfl ?_
    refine gf_X1_139 E (x := gp s12 103 a1) dX1_useSlot_19 e2 g32 rfl ?_
    refine gf_X1_120 E (x := gi s12 400 a33) dX1_useSlot_22 e34 g35 rfl ?_
    refine r_iconst E dX1_useSlot_25 (v := 2) (by decide) ?_
    refine cl_X1_85 E (m_X1_failAt hc37) dX1_useSlot_26 ⟨Nat.le_of_ble_eq_true rfl, Nat.le_of_ble_eq_true rfl⟩ ⟨by first | decide | omega | (dsimp only; omega), by first | decide | omega | (dsimp only; omega)⟩ (by decide) rfl g36 ?_
    exact r_aret E dX1_useSlot_29 (Or.inl ⟨_, rfl⟩)
def ex_X2_withFields (d : Dp) (σ : Sg) (h0 : Nat) (p1 : Int32) (q2 : Option Nat) (q3 : Option Nat) : Option (Option Nat × Sg × Nat × Nat) := (if gc (nw σ 7) h0 = 4 then (b2 (ex_X5_init d (si (nw σ 7) 300 h0 ((gi (nw σ 7) 300 h0) + (1 : Int32))) (hs σ) (gi (nw σ 7) 300 h0) p1) fun r4 s3 => (if gc s3 (hs σ) = 7 then some (some (hs σ), (sp (sp s3 603 (hs σ) q2) 604 (hs σ) q3), 0 + 1, 0 + 7) else none)) else none)
set_option maxHeartbeats 4000000 in
set_option maxRecDepth 20000 in
theorem m_X2_withFields {l : Launch} {d : Dp} {σ σ' : Sg} {h0 : Nat} {p1 : Int32} {q2 : Option Nat} {q3 : Option Nat} {r : Option Nat} {kF nF : Nat} (h : ex_X2_withFields d σ h0 p1 q2 q3 = some (r, σ', kF, nF)) : Mt l d yX2_withFields cX2_withFields 5 (some (.object "FrameTalk$Thing")) 2 42 σ [.ref h0, .int (p1), va_rf (q2), va_rf (q3)] (some (va_rf r)) σ' kF nF := by
  refine mt_start (own := RX2) (lv0 := [(0, va_rf (some h0)), (1, .int (p1)), (2, va_rf (q2)), (3, va_rf (q3))]) (by decide) rfl (by simp only [lg_sl, List.flatMap_cons, List.flatMap_nil, va_rf_cat]; exact Nat.le_of_ble_eq_true rfl) (by first | rfl | (simp only [lv_args, va_rf_cat]; rfl)) ?_
  intro p e s m args below meth c E hnm
  unfold ex_X2_withFields at h
  obtain ⟨g1, h⟩ := ck h
  obtain ⟨r4, s3, hc2, h⟩ := nb2 h
  obtain ⟨g5, h⟩ := ck h
  obtain ⟨rfl, rfl, rfl, rfl⟩ := lf4 h
  refine nw_X2_7 E dX2_withFields_0 ⟨by first | decide | omega | (dsimp only; omega), by first | decide | omega | (dsimp only; omega)⟩ ?_
  refine r_dup E dX2_withFields_3 (va_rf_cat _) ?_
  refine r_aload_n E (x := some h0) (i := 0) (j := 0) dX2_withFields_4 rfl rfl ?_
  refine r_dup E dX2_withFields_5 (va_rf_cat _) ?_
  refine gf_X2_9 E (x := gi (nw σ 7) 300 h0) dX2_withFields_6 rfl g1 rfl ?_
  refine r_dup_x1 E dX2_withFields_9 rfl (va_rf_cat _) ?_
  refine r_iconst E dX2_withFields_10 (v := 1) (by decide) ?_
  refine r_iadd E dX2_withFields_11 ?_
  refine pf_X2_9 E dX2_withFields_12 rfl g1 ?_
  refine r_iload_n E (i := 1) (j := 1) dX2_withFields_15 rfl rfl ?_
  refine cl_X2_15 E (m_X5_init hc2) dX2_withFields_16 ⟨Nat.le_of_ble_eq_true rfl, Nat.le_of_ble_eq_true rfl⟩ ⟨by first | decide | omega | (dsimp only; omega), by first | decide | omega | (dsimp only; omega)⟩ (by simp only [List.map_cons, List.map_nil, va_rf_cat]; exact Nat.le_of_ble_eq_true rfl) rfl ?_
  refine r_astore E (lv' := [(4, va_rf (some (hs σ))), (0, va_rf (some h0)), (1, .int (p1)), (2, va_rf (q2)), (3, va_rf (q3))]) dX2_withFields_19 (by decide) (by first | rfl | (simp only [List.filter_cons, List.filter_nil, va_rf_cat]; rfl)) ?_
  refine r_aload E (x := some (hs σ)) (j := 0) dX2_withFields_21 rfl ?_
  refine r_aload_n E (x := q2) (i := 2) (j := 3) dX2_withFields_23 rfl rfl ?_
  refine pf_X2_22 E dX2_withFields_24 rfl g5 ?_
  refine r_aload E (x := some (hs σ)) (j := 0) dX2_withFields_27 rfl ?_
  refine r_aload_n E (x := q3) (i := 3) (j := 4) dX2_withFields_29 rfl rfl ?_
  refine pf_X2_26 E dX2_withFields_30 rfl g5 ?_
  refine r_aload E (x := some (hs σ)) (j := 0) dX2_withFields_33 rfl ?_
  exact r_aret E dX2_withFields_35 (Or.inl ⟨_, rfl⟩)
def ex_X1_field (d : Dp) (σ : Sg) (h0 : Nat) (q1 : Option Nat) : Option (Option Nat × Sg) := (Option.bind q1 fun a1 => (if gc σ a1 = 2 then (if gc σ h0 = 3 then (b2 (ex_X1_lacks d σ h0 q1 (gp σ 105 a1) (2 : Int32)) fun r7 s6 => (if r7 = (0 : Int32) then (if gc s6 a1 = 2 then (Option.bind (gp s6 103 a1) fun a10 => (if gc s6 a10 = 5 then (b2 (ex_X3_get d s6 a10 (1 : Int32)) fun r15 s14 => (if r15 = (0 : Int32) then (if gc s14 a1 = 2 then (Option.bind (gp s14 105 a1) fun a22 => (if gc s14 a22 = 7 then some (gp s14 603 a22, s14) else none)) else none) else (if gc s14 a1 = 2 then (Option.bind (gp s14 105 a1) fun a18 => (if gc s14 a18 = 7 then some (gp s14 604 a18, s14) else none)) else none))) else none)) else none) else some (none, s6))) else none) else none))
set_option maxHeartbeats 4000000 in
set_option maxRecDepth 20000 in
theorem m_X1_field {l : Launch} {d : Dp} {σ σ' : Sg} {h0 : Nat} {q1 : Option Nat} {r : Option Nat} (h : ex_X1_field d σ h0 q1 = some (r, σ')) : Mt l d yX1_field cX1_field 2 (some (.object "FrameTalk$Thing")) 2 45 σ [.ref h0, va_rf (q1)] (some (va_rf r)) σ' 0 0 := by
  refine mt_start (own := RX1) (lv0 := [(0, va_rf (some h0)), (1, va_rf (q1))]) (by decide) rfl (by simp only [lg_sl, List.flatMap_cons, List.flatMap_nil, va_rf_cat]; exact Nat.le_of_ble_eq_true rfl) (by first | rfl | (simp only [lv_args, va_rf_cat]; rfl)) ?_
  intro p e s m args below meth c E hnm
  unfold ex_X1_field at h
  obtain ⟨a1, e2, h⟩ := nn h
  obtain ⟨g3, h⟩ := ck h
  obtain ⟨g4, h⟩ := ck h
  obtain ⟨r7, s6, hc5, h⟩ := nb2 h
  refine r_aload_n E (x := some h0) (i := 0) (j := 0) dX1_field_0 rfl rfl ?_
  refine r_aload_n E (x := q1) (i := 1) (j := 1) dX1_field_1 rfl rfl ?_
  refine r_aload_n E (x := q1) (i := 1) (j := 1) dX1_field_2 rfl rfl ?_
  refine gf_X1_166 E (x := gp σ 105 a1) dX1_field_3 e2 g3 rfl ?_
  refine r_iconst E dX1_field_6 (v := 2) (by decide) ?_
  refine cl_X1_169 E (m_X1_lacks hc5) dX1_field_7 ⟨Nat.le_of_ble_eq_true rfl, Nat.le_of_ble_eq_true rfl⟩ ⟨by first | decide | omega | (dsimp only; omega), by first | decide | omega | (dsimp only; omega)⟩ (by decide) rfl g4 ?_
  refine r_if_eq E (tgt := 15) dX1_field_10 (by decide) (fun c8 => ?_) (fun c8 => ?_)
  · have h := ift c8 h
    obtain ⟨g9, h⟩ := ck h
    obtain ⟨a10, e11, h⟩ := nn h
    obtain ⟨g12, h⟩ := ck h
    obtain ⟨r15, s14, hc13, h⟩ := nb2 h
    refine r_aload_n E (x := q1) (i := 1) (j := 1) dX1_field_15 rfl rfl ?_
    refine gf_X1_139 E (x := gp s6 103 a1) dX1_field_16 e2 g9 rfl ?_
    refine r_iconst E dX1_field_19 (v := 1) (by decide) ?_
    refine cl_X1_143 E (m_X3_get hc13) dX1_field_20 ⟨Nat.le_of_ble_eq_true rfl, Nat.le_of_ble_eq_true rfl⟩ ⟨by first | decide | omega | (dsimp only; omega), by first | decide | omega | (dsimp only; omega)⟩ (by decide) e11 g12 ?_
    refine r_if_ne E (tgt := 36) dX1_field_23 (by decide) (fun c16 => ?_) (fun c16 => ?_)
    · have h := iff' c16 h
      obtain ⟨g17, h⟩ := ck h
      obtain ⟨a18, e19, h⟩ := nn h
      obtain ⟨g20, h⟩ := ck h
      obtain ⟨rfl, rfl⟩ := lf2 h
      refine r_aload_n E (x := q1) (i := 1) (j := 1) dX1_field_36 rfl rfl ?_
      refine gf_X1_166 E (x := gp s14 105 a1) dX1_field_37 e2 g17 rfl ?_
      refine gf_X1_233 E (x := gp s14 604 a18) dX1_field_40 e19 g20 rfl ?_
      exact r_aret E dX1_field_43 (Or.inl ⟨_, rfl⟩)
    · have h := ift c16 h
      obtain ⟨g21, h⟩ := ck h
      obtain ⟨a22, e23, h⟩ := nn h
      obtain ⟨g24, h⟩ := ck h
      obtain ⟨rfl, rfl⟩ := lf2 h
      refine r_aload_n E (x := q1) (i := 1) (j := 1) dX1_field_26 rfl rfl ?_
      refine gf_X1_166 E (x := gp s14 105 a1) dX1_field_27 e2 g21 rfl ?_
      refine gf_X1_230 E (x := gp s14 603 a22) dX1_field_30 e23 g24 rfl ?_
      refine r_goto E (tgt := 43) dX1_field_33 (by decide) ?_
      exact r_aret E dX1_field_43 (Or.inl ⟨_, rfl⟩)
  · have h := iff' c8 h
    obtain ⟨rfl, rfl⟩ := lf2 h
    refine r_null E dX1_field_13 ?_
    exact r_aret E dX1_field_14 (Or.inl ⟨_, rfl⟩)
def ex_X1_store (d : Dp) (σ : Sg) (h0 : Nat) (q1 : Option Nat) : Option (Option Nat × Sg) := (Option.bind q1 fun a1 => (if gc σ a1 = 2 then (if gc σ h0 = 3 then (b2 (ex_X1_lacks d σ h0 q1 (gp σ 105 a1) (2 : Int32)) fun r7 s6 => (if r7 = (0 : Int32) then (if gc s6 a1 = 2 then (Option.bind (gp s6 103 a1) fun a10 => (if gc s6 a10 = 5 then (b2 (ex_X3_get d s6 a10 (1 : Int32)) fun r15 s14 => (if r15 = (0 : Int32) then (if gc s14 a1 = 2 then (Option.bind (gp s14 105 a1) fun a22 => (if gc s14 a22 = 7 then some (gp s14 107 a1, (sp s14 603 a22 (gp s14 107 a1))) else none)) else none) else (if gc s14 a1 = 2 then (Option.bind (gp s14 105 a1) fun a18 => (if gc s14 a18 = 7 then some (gp s14 107 a1, (sp s14 604 a18 (gp s14 107 a1))) else none)) else none))) else none)) else none) else some (none, s6))) else none) else none))
set_option maxHeartbeats 4000000 in
set_option maxRecDepth 20000 in
theorem m_X1_store {l : Launch} {d : Dp} {σ σ' : Sg} {h0 : Nat} {q1 : Option Nat} {r : Option Nat} (h : ex_X1_store d σ h0 q1 = some (r, σ')) : Mt l d yX1_store cX1_store 2 (some (.object "FrameTalk$Thing")) 2 45 σ [.ref h0, va_rf (q1)] (some (va_rf r)) σ' 0 0 := by
  refine mt_start (own := RX1) (lv0 := [(0, va_rf (some h0)), (1, va_rf (q1))]) (by decide) rfl (by simp only [lg_sl, List.flatMap_cons, List.flatMap_nil, va_rf_cat]; exact Nat.le_of_ble_eq_true rfl) (by first | rfl | (simp only [lv_args, va_rf_cat]; rfl)) ?_
  intro p e s m args below meth c E hnm
  unfold ex_X1_store at h
  obtain ⟨a1, e2, h⟩ := nn h
  obtain ⟨g3, h⟩ := ck h
  obtain ⟨g4, h⟩ := ck h
  obtain ⟨r7, s6, hc5, h⟩ := nb2 h
  refine r_aload_n E (x := some h0) (i := 0) (j := 0) dX1_store_0 rfl rfl ?_
  refine r_aload_n E (x := q1) (i := 1) (j := 1) dX1_store_1 rfl rfl ?_
  refine r_aload_n E (x := q1) (i := 1) (j := 1) dX1_store_2 rfl rfl ?_
  refine gf_X1_166 E (x := gp σ 105 a1) dX1_store_3 e2 g3 rfl ?_
  refine r_iconst E dX1_store_6 (v := 2) (by decide) ?_
  refine cl_X1_169 E (m_X1_lacks hc5) dX1_store_7 ⟨Nat.le_of_ble_eq_true rfl, Nat.le_of_ble_eq_true rfl⟩ ⟨by first | decide | omega | (dsimp only; omega), by first | decide | omega | (dsimp only; omega)⟩ (by decide) rfl g4 ?_
  refine r_if_eq E (tgt := 15) dX1_store_10 (by decide) (fun c8 => ?_) (fun c8 => ?_)
  · have h := ift c8 h
    obtain ⟨g9, h⟩ := ck h
    obtain ⟨a10, e11, h⟩ := nn h
    obtain ⟨g12, h⟩ := ck h
    obtain ⟨r15, s14, hc13, h⟩ := nb2 h
    refine r_aload_n E (x := q1) (i := 1) (j := 1) dX1_store_15 rfl rfl ?_
    refine gf_X1_139 E (x := gp s6 103 a1) dX1_store_16 e2 g9 rfl ?_
    refine r_iconst E dX1_store_19 (v := 1) (by decide) ?_
    refine cl_X1_143 E (m_X3_get hc13) dX1_store_20 ⟨Nat.le_of_ble_eq_true rfl, Nat.le_of_ble_eq_true rfl⟩ ⟨by first | decide | omega | (dsimp only; omega), by first | decide | omega | (dsimp only; omega)⟩ (by decide) e11 g12 ?_
    refine r_if_ne E (tgt := 40) dX1_store_23 (by decide) (fun c16 => ?_) (fun c16 => ?_)
    · have h := iff' c16 h
      obtain ⟨g17, h⟩ := ck h
      obtain ⟨a18, e19, h⟩ := nn h
      obtain ⟨g20, h⟩ := ck h
      obtain ⟨rfl, rfl⟩ := lf2 h
      refine r_aload_n E (x := q1) (i := 1) (j := 1) dX1_store_40 rfl rfl ?_
      refine gf_X1_166 E (x := gp s14 105 a1) dX1_store_41 e2 g17 rfl ?_
      refine r_aload_n E (x := q1) (i := 1) (j := 1) dX1_store_44 rfl rfl ?_
      refine gf_X1_236 E (x := gp s14 107 a1) dX1_store_45 e2 g17 rfl ?_
      refine pf_X1_233 E dX1_store_48 e19 g20 ?_
      refine r_aload_n E (x := q1) (i := 1) (j := 1) dX1_store_51 rfl rfl ?_
      refine gf_X1_236 E (x := gp s14 107 a1) dX1_store_52 e2 g17 rfl ?_
      exact r_aret E dX1_store_55 (Or.inl ⟨_, rfl⟩)
    · have h := ift c16 h
      obtain ⟨g21, h⟩ := ck h
      obtain ⟨a22, e23, h⟩ := nn h
      obtain ⟨g24, h⟩ := ck h
      obtain ⟨rfl, rfl⟩ := lf2 h
      refine r_aload_n E (x := q1) (i := 1) (j := 1) dX1_store_26 rfl rfl ?_
      refine gf_X1_166 E (x := gp s14 105 a1) dX1_store_27 e2 g21 rfl ?_
      refine r_aload_n E (x := q1) (i := 1) (j := 1) dX1_store_30 rfl rfl ?_
      refine gf_X1_236 E (x := gp s14 107 a1) dX1_store_31 e2 g21 rfl ?_
      refine pf_X1_230 E dX1_store_34 e23 g24 ?_
      refine r_goto E (tgt := 51) dX1_store_37 (by decide) ?_
      refine r_aload_n E (x := q1) (i := 1) (j := 1) dX1_store_51 rfl rfl ?_
      refine gf_X1_236 E (x := gp s14 107 a1) dX1_store_52 e2 g21 rfl ?_
      exact r_aret E dX1_store_55 (Or.inl ⟨_, rfl⟩)
  · have h := iff' c8 h
    obtain ⟨rfl, rfl⟩ := lf2 h
    refine r_null E dX1_store_13 ?_
    exact r_aret E dX1_store_14 (Or.inl ⟨_, rfl⟩)
