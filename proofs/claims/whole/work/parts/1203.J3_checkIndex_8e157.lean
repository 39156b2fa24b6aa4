def ex_J3_checkIndex_8e157 (d : Dp) (σ : Sg) (p1 : Int32) (p2 : Int32) (q3 : Option Nat) : Option (Int32 × Sg) := (if p1 < (0 : Int32) then none else (if p1 < p2 then some (p1, σ) else none))
set_option maxHeartbeats 4000000 in
set_option maxRecDepth 20000 in
theorem m_J3_checkIndex_8e157 {l : Launch} {d : Dp} {σ σ' : Sg} {p1 : Int32} {p2 : Int32} {q3 : Option Nat} {r : Int32} (h : ex_J3_checkIndex_8e157 d σ p1 p2 q3 = some (r, σ')) : Mt l d yJ3_checkIndex_8e157 cJ3_checkIndex_8e157 3 (some .int) 0 0 σ [.int (p1), .int (p2), va_rf (q3)] (some (.int r)) σ' 0 0 := by
  refine mt_start (own := RJ3) (lv0 := [(0, .int (p1)), (1, .int (p2)), (2, va_rf (q3))]) (by decide) rfl (by simp only [lg_sl, List.flatMap_cons, List.flatMap_nil, va_rf_cat]; exact Nat.le_of_ble_eq_true rfl) (by first | rfl | (simp only [lv_args, va_rf_cat]; rfl)) ?_
  intro p e s m args below meth c E hnm
  unfold ex_J3_checkIndex_8e157 at h
  refine r_iload_n E (i := 0) (j := 0) dJ3_checkIndex_8e157_0 rfl rfl ?_
  refine r_if_lt E (tgt := 9) dJ3_checkIndex_8e157_1 (by decide) (fun c1 => ?_) (fun c1 => ?_)
  · have h := ift c1 h
    cases h
  · have h := iff' c1 h
    refine r_iload_n E (i := 0) (j := 0) dJ3_checkIndex_8e157_4 rfl rfl ?_
    refine r_iload_n E (i := 1) (j := 1) dJ3_checkIndex_8e157_5 rfl rfl ?_
    refine r_icmp_lt E (tgt := 16) dJ3_checkIndex_8e157_6 (by decide) (fun c2 => ?_) (fun c2 => ?_)
    · have h := ift c2 h
      obtain ⟨rfl, rfl⟩ := lf2 h
      refine r_iload_n E (i := 0) (j := 0) dJ3_checkIndex_8e157_16 rfl rfl ?_
      exact r_iret E dJ3_checkIndex_8e157_17
    · have h := iff' c2 h
      cases h
def ex_J15_checkIndex_7cf53 (d : Dp) (σ : Sg) (p1 : Int32) (p2 : Int32) : Option (Int32 × Sg) := (b2 (ex_J3_checkIndex_8e157 d σ p1 p2 none) fun r3 s2 => some (r3, s2))
set_option maxHeartbeats 4000000 in
set_option maxRecDepth 20000 in
theorem m_J15_checkIndex_7cf53 {l : Launch} {d : Dp} {σ σ' : Sg} {p1 : Int32} {p2 : Int32} {r : Int32} (h : ex_J15_checkIndex_7cf53 d σ p1 p2 = some (r, σ')) : Mt l d yJ15_checkIndex_7cf53 cJ15_checkIndex_7cf53 2 (some .int) 1 22 σ [.int (p1), .int (p2)] (some (.int r)) σ' 0 0 := by
  refine mt_start (own := RJ15) (lv0 := [(0, .int (p1)), (1, .int (p2))]) (by decide) rfl (by simp only [lg_sl, List.flatMap_cons, List.flatMap_nil, va_rf_cat]; exact Nat.le_of_ble_eq_true rfl) (by first | rfl | (simp only [lv_args, va_rf_cat]; rfl)) ?_
  intro p e s m args below meth c E hnm
  unfold ex_J15_checkIndex_7cf53 at h
  obtain ⟨r3, s2, hc1, h⟩ := nb2 h
  obtain ⟨rfl, rfl⟩ := lf2 h
  refine r_iload_n E (i := 0) (j := 0) dJ15_checkIndex_7cf53_0 rfl rfl ?_
  refine r_iload_n E (i := 1) (j := 1) dJ15_checkIndex_7cf53_1 rfl rfl ?_
  refine r_null E dJ15_checkIndex_7cf53_2 ?_
  refine cl_J15_105 E (m_J3_checkIndex_8e157 hc1) dJ15_checkIndex_7cf53_3 ⟨Nat.le_of_ble_eq_true rfl, Nat.le_of_ble_eq_true rfl⟩ ⟨by first | decide | omega | (dsimp only; omega), by first | decide | omega | (dsimp only; omega)⟩ (by decide) ?_
  exact r_iret E dJ15_checkIndex_7cf53_6
def ex_Jx4a65c_elementData_915e3 (d : Dp) (σ : Sg) (h0 : Nat) (p1 : Int32) : Option (Option Nat × Sg) := (if gc σ h0 = 1 then (Option.bind (gp σ 1 h0) fun a2 => (if gc σ a2 = 13 then (if ¬ (p1 < 0 ∨ gl σ a2 ≤ Int32.toNatClampNeg p1) then some (ap σ a2 (Int32.toNatClampNeg p1), σ) else none) else none)) else none)
set_option maxHeartbeats 4000000 in
set_option maxRecDepth 20000 in
theorem m_Jx4a65c_elementData_915e3 {l : Launch} {d : Dp} {σ σ' : Sg} {h0 : Nat} {p1 : Int32} {r : Option Nat} (h : ex_Jx4a65c_elementData_915e3 d σ h0 p1 = some (r, σ')) : Mt l d yJx4a65c_elementData_915e3 cJx4a65c_elementData_915e3 2 (some (.object "java/lang/Object")) 0 0 σ [.ref h0, .int (p1)] (some (va_rf r)) σ' 0 0 := by
  refine mt_start (own := RJx4a65c) (lv0 := [(0, va_rf (some h0)), (1, .int (p1))]) (by decide) rfl (by simp only [lg_sl, List.flatMap_cons, List.flatMap_nil, va_rf_cat]; exact Nat.le_of_ble_eq_true rfl) (by first | rfl | (simp only [lv_args, va_rf_cat]; rfl)) ?_
  intro p e s m args below meth c E hnm
  unfold ex_Jx4a65c_elementData_915e3 at h
  obtain ⟨g1, h⟩ := ck h
  obtain ⟨a2, e3, h⟩ := nn h
  obtain ⟨g4, h⟩ := ck h
  obtain ⟨g5, h⟩ := ck h
  obtain ⟨rfl, rfl⟩ := lf2 h
  refine r_aload_n E (x := some h0) (i := 0) (j := 0) dJx4a65c_elementData_915e3_0 rfl rfl ?_
  refine gf_Jx4a65c_9 E (x := gp σ 1 h0) dJx4a65c_elementData_915e3_1 rfl g1 rfl ?_
  refine r_iload_n E (i := 1) (j := 1) dJx4a65c_elementData_915e3_4 rfl rfl ?_
  refine r_aaldO E dJx4a65c_elementData_915e3_5 e3 g4 g5 ?_
  exact r_aret E dJx4a65c_elementData_915e3_6 (Or.inl ⟨_, rfl⟩)
def ex_Jx4a65c_get_915e3 (d : Dp) (σ : Sg) (h0 : Nat) (p1 : Int32) : Option (Option Nat × Sg) := (if gc σ h0 = 1 then (b2 (ex_J15_checkIndex_7cf53 d σ p1 (gi σ 2 h0)) fun r4 s3 => (if gc s3 h0 = 1 then (b2 (ex_Jx4a65c_elementData_915e3 d s3 h0 p1) fun r8 s7 => some (r8, s7)) else none)) else none)
set_option maxHeartbeats 4000000 in
set_option maxRecDepth 20000 in
theorem m_Jx4a65c_get_915e3 {l : Launch} {d : Dp} {σ σ' : Sg} {h0 : Nat} {p1 : Int32} {r : Option Nat} (h : ex_Jx4a65c_get_915e3 d σ h0 p1 = some (r, σ')) : Mt l d yJx4a65c_get_915e3 cJx4a65c_get_915e3 2 (some (.object "java/lang/Object")) 2 43 σ [.ref h0, .int (p1)] (some (va_rf r)) σ' 0 0 := by
  refine mt_start (own := RJx4a65c) (lv0 := [(0, va_rf (some h0)), (1, .int (p1))]) (by decide) rfl (by simp only [lg_sl, List.flatMap_cons, List.flatMap_nil, va_rf_cat]; exact Nat.le_of_ble_eq_true rfl) (by first | rfl | (simp only [lv_args, va_rf_cat]; rfl)) ?_
  intro p e s m args below meth c E hnm
  unfold ex_Jx4a65c_get_915e3 at h
  obtain ⟨g1, h⟩ := ck h
  obtain ⟨r4, s3, hc2, h⟩ := nb2 h
  obtain ⟨g5, h⟩ := ck h
  obtain ⟨r8, s7, hc6, h⟩ := nb2 h
  obtain ⟨rfl, rfl⟩ := lf2 h
  refine r_iload_n E (i := 1) (j := 1) dJx4a65c_get_915e3_0 rfl rfl ?_
  refine r_aload_n E (x := some h0) (i := 0) (j := 0) dJx4a65c_get_915e3_1 rfl rfl ?_
  refine gf_Jx4a65c_48 E (x := gi σ 2 h0) dJx4a65c_get_915e3_2 rfl g1 rfl ?_
  refine cl_Jx4a65c_118 E (m_J15_checkIndex_7cf53 hc2) dJx4a65c_get_915e3_5 ⟨Nat.le_of_ble_eq_true rfl, Nat.le_of_ble_eq_true rfl⟩ ⟨by first | decide | omega | (dsimp only; omega), by first | decide | omega | (dsimp only; omega)⟩ (by decide) ?_
  refine r_pop E dJx4a65c_get_915e3_8 rfl ?_
  refine r_aload_n E (x := some h0) (i := 0) (j := 0) dJx4a65c_get_915e3_9 rfl rfl ?_
  refine r_iload_n E (i := 1) (j := 1) dJx4a65c_get_915e3_10 rfl rfl ?_
  refine cl_Jx4a65c_123 E (m_Jx4a65c_elementData_915e3 hc6) dJx4a65c_get_915e3_11 ⟨Nat.le_of_ble_eq_true rfl, Nat.le_of_ble_eq_true rfl⟩ ⟨by first | decide | omega | (dsimp only; omega), by first | decide | omega | (dsimp only; omega)⟩ (by decide) rfl g5 ?_
  exact r_aret E dJx4a65c_get_915e3_14 (Or.inl ⟨_, rfl⟩)
def ex_X4_at (d : Dp) (σ : Sg) (h0 : Nat) (p1 : Int32) : Option (Option Nat × Sg) := (if p1 < (0 : Int32) then some (none, σ) else (if gc σ h0 = 6 then (Option.bind (gp σ 500 h0) fun a3 => (if gc σ a3 = 1 then (b2 (ex_Jx4a65c_size_8abf5 d σ a3) fun r8 s7 => (if r8 ≤ p1 then some (none, s7) else (if gc s7 h0 = 6 then (Option.bind (gp s7 500 h0) fun a11 => (if gc s7 a11 = 1 then (b2 (ex_Jx4a65c_get_915e3 d s7 a11 p1) fun r16 s15 => (if r16 = none ∨ gc s15 (Option.getD r16 0) = 5 then some (r16, s15) else none)) else none)) else none))) else none)) else none))
set_option maxHeartbeats 4000000 in
set_option maxRecDepth 20000 in
theorem m_X4_at {l : Launch} {d : Dp} {σ σ' : Sg} {h0 : Nat} {p1 : Int32} {r : Option Nat} (h : ex_X4_at d σ h0 p1 = some (r, σ')) : Mt l d yX4_at cX4_at 2 (some (.object "FrameTalk$Node")) 3 64 σ [.ref h0, .int (p1)] (some (va_rf r)) σ' 0 0 := by
  refine mt_start (own := RX4) (lv0 := [(0, va_rf (some h0)), (1, .int (p1))]) (by decide) rfl (by simp only [lg_sl, List.flatMap_cons, List.flatMap_nil, va_rf_cat]; exact Nat.le_of_ble_eq_true rfl) (by first | rfl | (simp only [lv_args, va_rf_cat]; rfl)) ?_
  intro p e s m args below meth c E hnm
  unfold ex_X4_at at h
  refine r_iload_n E (i := 1) (j := 1) dX4_at_0 rfl rfl ?_
  refine r_if_lt E (tgt := 29) dX4_at_1 (by decide) (fun c1 => ?_) (fun c1 => ?_)
  · have h := ift c1 h
    obtain ⟨rfl, rfl⟩ := lf2 h
    refine r_null E dX4_at_29 ?_
    exact r_aret E dX4_at_30 (Or.inl ⟨_, rfl⟩)
  · have h := iff' c1 h
    obtain ⟨g2, h⟩ := ck h
    obtain ⟨a3, e4, h⟩ := nn h
    obtain ⟨g5, h⟩ := ck h
    obtain ⟨r8, s7, hc6, h⟩ := nb2 h
    refine r_iload_n E (i := 1) (j := 1) dX4_at_4 rfl rfl ?_
    refine r_aload_n E (x := some h0) (i := 0) (j := 0) dX4_at_5 rfl rfl ?_
    refine gf_X4_12 E (x := gp σ 500 h0) dX4_at_6 rfl g2 rfl ?_
    refine cl_X4_18 E (m_Jx4a65c_size_8abf5 hc6) dX4_at_9 ⟨Nat.le_of_ble_eq_true rfl, Nat.le_of_ble_eq_true rfl⟩ ⟨by first | decide | omega | (dsimp only; omega), by first | decide | omega | (dsimp only; omega)⟩ (Nat.le_of_ble_eq_true rfl) e4 g5 ?_
    refine r_icmp_ge E (tgt := 29) dX4_at_12 (by decide) (fun c9 => ?_) (fun c9 => ?_)
    · have h := ift c9 h
      obtain ⟨rfl, rfl⟩ := lf2 h
      refine r_null E dX4_at_29 ?_
      exact r_aret E dX4_at_30 (Or.inl ⟨_, rfl⟩)
    · have h := iff' c9 h
      obtain ⟨g10, h⟩ := ck h
      obtain ⟨a11, e12, h⟩ := nn h
      obtain ⟨g13, h⟩ := ck h
      obtain ⟨r16, s15, hc14, h⟩ := nb2 h
      obtain ⟨g17, h⟩ := ck h
      obtain ⟨rfl, rfl⟩ := lf2 h
      refine r_aload_n E (x := some h0) (i := 0) (j := 0) dX4_at_15 rfl rfl ?_
      refine gf_X4_12 E (x := gp s7 500 h0) dX4_at_16 rfl g10 rfl ?_
      refine r_iload_n E (i := 1) (j := 1) dX4_at_19 rfl rfl ?_
      refine cl_X4_22 E (m_Jx4a65c_get_915e3 hc14) dX4_at_20 ⟨Nat.le_of_ble_eq_true rfl, Nat.le_of_ble_eq_true rfl⟩ ⟨by first | decide | omega | (dsimp only; omega), by first | decide | omega | (dsimp only; omega)⟩ (by decide) e12 g13 ?_
      refine r_castX (ci := 4) E dX4_at_23 wm_1_192 rfl (by decide) g17 ?_
      refine r_goto E (tgt := 30) dX4_at_26 (by decide) ?_
      exact r_aret E dX4_at_30 (Or.inl ⟨_, rfl⟩)
def ex_X1_workPart (d : Dp) (σ : Sg) (h0 : Nat) (q1 : Option Nat) (p2 : Int32) : Option (Unit × Sg × Nat × Nat) := (Option.bind q1 fun a1 => (if gc σ a1 = 2 then (if gc σ h0 = 3 then (Option.bind (gp σ 103 a1) fun a5 => (if gc σ a5 = 5 then (b2 (ex_X3_get d (si σ 104 a1 p2) a5 p2) fun r10 s9 => (Option.bind (gp σ 200 h0) fun a11 => (if gc s9 a11 = 6 then (b2 (ex_X4_at d s9 a11 r10) fun r16 s15 => (if r16 = none then (if gc s15 a1 = 2 then (Option.bind (gp s15 103 a1) fun a25 => (if gc s15 a25 = 5 then (if gc s15 h0 = 3 then (b2 (ex_X1_failAt d s15 h0 (gi s15 400 a25) (1 : Int32)) fun r31 s30 => some ((), s30, 0, 0)) else none) else none)) else none) else (if gc s15 h0 = 3 then (b4 (ex_X1_open d s15 h0 r16) fun r21 s20 k22 n23 => some ((), s20, 0 + k22, 0 + n23)) else none))) else none))) else none)) else none) else none))
set_option maxHeartbeats 4000000 in
set_option maxRecDepth 20000 in
theorem m_X1_workPart {l : Launch} {d : Dp} {σ σ' : Sg} {h0 : Nat} {q1 : Option Nat} {p2 : Int32} {r : Unit} {kF nF : Nat} (h : ex_X1_workPart d σ h0 q1 p2 = some (r, σ', kF, nF)) : Mt l d yX1_workPart cX1_workPart 4 none 4 85 σ [.ref h0, va_rf (q1), .int (p2)] none σ' kF nF := by
  refine mt_start (own := RX1) (lv0 := [(0, va_rf (some h0)), (1, va_rf (q1)), (2, .int (p2))]) (by decide) rfl (by simp only [lg_sl, List.flatMap_cons, List.flatMap_nil, va_rf_cat]; exact Nat.le_of_ble_eq_true rfl) (by first | rfl | (simp only [lv_args, va_rf_cat]; rfl)) ?_
  intro p e s m args below meth c E hnm
  unfold ex_X1_workPart at h
  obtain ⟨a1, e2, h⟩ := nn h
  obtain ⟨g3, h⟩ := ck h
  obtain ⟨g4, h⟩ := ck h
  obtain ⟨a5, e6, h⟩ := nn h
  obtain ⟨g7, h⟩ := ck h
  obtain ⟨r10, s9, hc8, h⟩ := nb2 h
  obtain ⟨a11, e12, h⟩ := nn h
  obtain ⟨g13, h⟩ := ck h
  obtain ⟨r16, s15, hc14, h⟩ := nb2 h
  refine r_aload_n E (x := q1) (i := 1) (j := 1) dX1_workPart_0 rfl rfl ?_
  refine r_iload_n E (i := 2) (j := 2) dX1_workPart_1 rfl rfl ?_
  refine pf_X1_136 E dX1_workPart_2 e2 g3 ?_
  refine r_aload_n E (x := some h0) (i := 0) (j := 0) dX1_workPart_5 rfl rfl ?_
  refine gf_X1_12 E (x := gp σ 200 h0) dX1_workPart_6 rfl g4 rfl ?_
  refine r_aload_n E (x := q1) (i := 1) (j := 1) dX1_workPart_9 rfl rfl ?_
  refine gf_X1_139 E (x := gp σ 103 a1) dX1_workPart_10 e2 g3 rfl ?_
  refine r_iload_n E (i := 2) (j := 2) dX1_workPart_13 rfl rfl ?_
  refine cl_X1_143 E (m_X3_get hc8) dX1_workPart_14 ⟨Nat.le_of_ble_eq_true rfl, Nat.le_of_ble_eq_true rfl⟩ ⟨by first | decide | omega | (dsimp only; omega), by first | decide | omega | (dsimp only; omega)⟩ (by simp only [List.map_cons, List.map_nil, va_rf_cat]; exact Nat.le_of_ble_eq_true rfl) e6 g7 ?_
  refine cl_X1_147 E (m_X4_at hc14) dX1_workPart_17 ⟨Nat.le_of_ble_eq_true rfl, Nat.le_of_ble_eq_true rfl⟩ ⟨by first | decide | omega | (dsimp only; omega), by first | decide | omega | (dsimp only; omega)⟩ (by decide) e12 g13 ?_
  refine r_astore_n E (i := 3) (lv' := [(3, va_rf (r16)), (0, va_rf (some h0)), (1, va_rf (q1)), (2, .int (p2))]) dX1_workPart_20 rfl (by decide) (by first | rfl | (simp only [List.filter_cons, List.filter_nil, va_rf_cat]; rfl)) ?_
  refine r_aload_n E (x := r16) (i := 3) (j := 0) dX1_workPart_21 rfl rfl ?_
  refine r_ifnonnull E (o := r16) (tgt := 41) dX1_workPart_22 (by decide) (fun c17 => ?_) (fun c17 => ?_)
  · have h := iff' c17 h
    obtain ⟨g18, h⟩ := ck h
    obtain ⟨r21, s20, k22, n23, hc19, h⟩ := nb4 h
    obtain ⟨rfl, rfl, rfl, rfl⟩ := lf4 h
    refine r_aload_n E (x := some h0) (i := 0) (j := 1) dX1_workPart_41 rfl rfl ?_
    refine r_aload_n E (x := r16) (i := 3) (j := 0) dX1_workPart_42 rfl rfl ?_
    refine cl_X1_89 E (m_X1_open hc19) dX1_workPart_43 ⟨Nat.le_of_ble_eq_true rfl, Nat.le_of_ble_eq_true rfl⟩ ⟨by first | decide | omega | (dsimp only; omega), by first | decide | omega | (dsimp only; omega)⟩ (by decide) rfl g18 ?_
    exact r_vret E dX1_workPart_46
  · have h := ift c17 h
    obtain ⟨g24, h⟩ := ck h
    obtain ⟨a25, e26, h⟩ := nn h
    obtain ⟨g27, h⟩ := ck h
    obtain ⟨g28, h⟩ := ck h
    obtain ⟨r31, s30, hc29, h⟩ := nb2 h
    obtain ⟨rfl, rfl, rfl, rfl⟩ := lf4 h
    refine r_aload_n E (x := some h0) (i := 0) (j := 1) dX1_workPart_25 rfl rfl ?_
    refine r_aload_n E (x := q1) (i := 1) (j := 2) dX1_workPart_26 rfl rfl ?_
    refine gf_X1_139 E (x := gp s15 103 a1) dX1_workPart_27 e2 g24 rfl ?_
    refine gf_X1_120 E (x := gi s15 400 a25) dX1_workPart_30 e26 g27 rfl ?_
    refine r_iconst E dX1_workPart_33 (v := 1) (by decide) ?_
    refine cl_X1_85 E (m_X1_failAt hc29) dX1_workPart_34 ⟨Nat.le_of_ble_eq_true rfl, Nat.le_of_ble_eq_true rfl⟩ ⟨by first | decide | omega | (dsimp only; omega), by first | decide | omega | (dsimp only; omega)⟩ (by decide) rfl g28 ?_
    refine r_pop E dX1_workPart_37 (va_rf_cat _) ?_
    refine r_goto E (tgt := 46) dX1_workPart_38 (by decide) ?_
    exact r_vret E dX1_workPart_46
def ex_X1_passFault (d : Dp) (σ : Sg) (h0 : Nat) (q1 : Option Nat) : Option (Unit × Sg × Nat × Nat) := (if gc σ h0 = 3 then (b2 (ex_X1_takesFault d σ h0 q1) fun r4 s3 => (if r4 = (0 : Int32) then (Option.bind q1 fun a30 => (if gc s3 a30 = 2 then (if gc s3 h0 = 3 then some ((), (sp s3 204 h0 (gp s3 100 a30)), 0, 0) else none) else none)) else (if gc s3 h0 = 3 then (Option.bind (gp s3 201 h0) fun a7 => (if gc s3 a7 = 4 then (b4 (ex_X2_withValue d s3 a7 (1 : Int32) (Int32.toInt64 (gi s3 211 h0))) fun r12 s11 k13 n14 => (Option.bind (gp s3 202 h0) fun a15 => (if gc s11 a15 = 12 then (if ¬ ((0 : Int32) < 0 ∨ gl s11 a15 ≤ Int32.toNatClampNeg (0 : Int32)) then (if r12 = none ∨ gc s11 (Option.getD r12 0) = 7 then (if gc s11 h0 = 3 then (b2 (ex_X1_clearFault d (wp s11 a15 (Int32.toNatClampNeg (0 : Int32)) r12) h0) fun r23 s22 => (if gc s22 h0 = 3 then (b4 (ex_X1_workPart d s22 h0 q1 (2 : Int32)) fun r27 s26 k28 n29 => some ((), s26, 0 + k13 + k28, 0 + n14 + n29)) else none)) else none) else none) else none) else none))) else none)) else none))) else none)
set_option maxHeartbeats 4000000 in
set_option maxRecDepth 20000 in
theorem m_X1_passFault {l : Launch} {d : Dp} {σ σ' : Sg} {h0 : Nat} {q1 : Option Nat} {r : Unit} {kF nF : Nat} (h : ex_X1_passFault d σ h0 q1 = some (r, σ', kF, nF)) : Mt l d yX1_passFault cX1_passFault 2 none 5 108 σ [.ref h0, va_rf (q1)] none σ' kF nF := by
  refine mt_start (own := RX1) (lv0 := [(0, va_rf (some h0)), (1, va_rf (q1))]) (by decide) rfl (by simp only [lg_sl, List.flatMap_cons, List.flatMap_nil, va_rf_cat]; exact Nat.le_of_ble_eq_true rfl) (by first | rfl | (simp only [lv_args, va_rf_cat]; rfl)) ?_
  intro p e s m args below meth c E hnm
  unfold ex_X1_passFault at h
  obtain ⟨g1, h⟩ := ck h
  obtain ⟨r4, s3, hc2, h⟩ := nb2 h
  refine r_aload_n E (x := some h0) (i := 0) (j := 0) dX1_passFault_0 rfl rfl ?_
  refine r_aload_n E (x := q1) (i := 1) (j := 1) dX1_passFault_1 rfl rfl ?_
  refine cl_X1_180 E (m_X1_takesFault hc2) dX1_passFault_2 ⟨Nat.le_of_ble_eq_true rfl, Nat.le_of_ble_eq_true rfl⟩ ⟨by first | decide | omega | (dsimp only; omega), by first | decide | omega | (dsimp only; omega)⟩ (by decide) rfl g1 ?_
  refine r_if_ne E (tgt := 17) dX1_passFault_5 (by decide) (fun c5 => ?_) (fun c5 => ?_)
  · have h := iff' c5 h
    obtain ⟨g6, h⟩ := ck h
    obtain ⟨a7, e8, h⟩ := nn h
    obtain ⟨g9, h⟩ := ck h
    obtain ⟨r12, s11, k13, n14, hc10, h⟩ := nb4 h
    obtain ⟨a15, e16, h⟩ := nn h
    obtain ⟨g17, h⟩ := ck h
    obtain ⟨g18, h⟩ := ck h
    obtain ⟨g19, h⟩ := ck h
    obtain ⟨g20, h⟩ := ck h
    obtain ⟨r23, s22, hc21, h⟩ := nb2 h
    obtain ⟨g24, h⟩ := ck h
    obtain ⟨r27, s26, k28, n29, hc25, h⟩ := nb4 h
    obtain ⟨rfl, rfl, rfl, rfl⟩ := lf4 h
    refine r_aload_n E (x := some h0) (i := 0) (j := 0) dX1_passFault_17 rfl rfl ?_
    refine gf_X1_27 E (x := gp s3 202 h0) dX1_passFault_18 rfl g6 rfl ?_
    refine r_iconst E dX1_passFault_21 (v := 0) (by decide) ?_
    refine r_aload_n E (x := some h0) (i := 0) (j := 0) dX1_passFault_22 rfl rfl ?_
    refine gf_X1_21 E (x := gp s3 201 h0) dX1_passFault_23 rfl g6 rfl ?_
    refine r_iconst E dX1_passFault_26 (v := 1) (by decide) ?_
    refine r_aload_n E (x := some h0) (i := 0) (j := 0) dX1_passFault_27 rfl rfl ?_
    refine gf_X1_95 E (x := gi s3 211 h0) dX1_passFault_28 rfl g6 rfl ?_
    refine r_i2l E dX1_passFault_31 ?_
    refine cl_X1_184 E (m_X2_withValue hc10) dX1_passFault_32 ⟨Nat.le_of_ble_eq_true rfl, Nat.le_of_ble_eq_true rfl⟩ ⟨by first | decide | omega | (dsimp only; omega), by first | decide | omega | (dsimp only; omega)⟩ (by simp only [List.map_cons, List.map_nil, va_rf_cat]; exact Nat.le_of_ble_eq_true rfl) e8 g9 ?_
    refine r_aastX E dX1_passFault_35 e16 g17 g18 g19 ?_
    refine r_aload_n E (x := some h0) (i := 0) (j := 0) dX1_passFault_36 rfl rfl ?_
    refine cl_X1_78 E (m_X1_clearFault hc21) dX1_passFault_37 ⟨Nat.le_of_ble_eq_true rfl, Nat.le_of_ble_eq_true rfl⟩ ⟨by first | decide | omega | (dsimp only; omega), by first | decide | omega | (dsimp only; omega)⟩ (by decide) rfl g20 ?_
    refine r_aload_n E (x := some h0) (i := 0) (j := 0) dX1_passFault_40 rfl rfl ?_
    refine r_aload_n E (x := q1) (i := 1) (j := 1) dX1_passFault_41 rfl rfl ?_
    refine r_iconst E dX1_passFault_42 (v := 2) (by decide) ?_
    refine cl_X1_114 E (m_X1_workPart hc25) dX1_passFault_43 ⟨Nat.le_of_ble_eq_true rfl, Nat.le_of_ble_eq_true rfl⟩ ⟨by first | decide | omega | (dsimp only; omega), by first | decide | omega | (dsimp only; omega)⟩ (by decide) rfl g24 ?_
    exact r_vret E dX1_passFault_46
  · have h := ift c5 h
    obtain ⟨a30, e31, h⟩ := nn h
    obtain ⟨g32, h⟩ := ck h
    obtain ⟨g33, h⟩ := ck h
    obtain ⟨rfl, rfl, rfl, rfl⟩ := lf4 h
    refine r_aload_n E (x := some h0) (i := 0) (j := 0) dX1_passFault_8 rfl rfl ?_
    refine r_aload_n E (x := q1) (i := 1) (j := 1) dX1_passFault_9 rfl rfl ?_
    refine gf_X1_129 E (x := gp s3 100 a30) dX1_passFault_10 e31 g32 rfl ?_
    refine pf_X1_40 E dX1_passFault_13 rfl g33 ?_
    exact r_vret E dX1_passFault_16
