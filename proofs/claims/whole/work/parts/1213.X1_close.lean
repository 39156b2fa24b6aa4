def ex_X1_close (d : Dp) (σ : Sg) (h0 : Nat) (q1 : Option Nat) (q2 : Option Nat) : Option (Unit × Sg) := (if gc σ h0 = 3 then (if (gi σ 211 h0) = (0 : Int32) then (Option.bind q1 fun a3 => (if gc σ a3 = 2 then (Option.bind (gp (sp σ 204 h0 (gp σ 100 a3)) 204 h0) fun a6 => (if gc σ a6 = 2 then (b2 (ex_X0_receive d (sp σ 204 h0 (gp σ 100 a3)) a6 q2) fun r11 s10 => some ((), s10)) else none)) else none)) else some ((), σ)) else none)
set_option maxHeartbeats 4000000 in
set_option maxRecDepth 20000 in
theorem m_X1_close {l : Launch} {d : Dp} {σ σ' : Sg} {h0 : Nat} {q1 : Option Nat} {q2 : Option Nat} {r : Unit} (h : ex_X1_close d σ h0 q1 q2 = some (r, σ')) : Mt l d yX1_close cX1_close 3 none 1 21 σ [.ref h0, va_rf (q1), va_rf (q2)] none σ' 0 0 := by
  refine mt_start (own := RX1) (lv0 := [(0, va_rf (some h0)), (1, va_rf (q1)), (2, va_rf (q2))]) (by decide) rfl (by simp only [lg_sl, List.flatMap_cons, List.flatMap_nil, va_rf_cat]; exact Nat.le_of_ble_eq_true rfl) (by first | rfl | (simp only [lv_args, va_rf_cat]; rfl)) ?_
  intro p e s m args below meth c E hnm
  unfold ex_X1_close at h
  obtain ⟨g1, h⟩ := ck h
  refine r_aload_n E (x := some h0) (i := 0) (j := 0) dX1_close_0 rfl rfl ?_
  refine gf_X1_95 E (x := gi σ 211 h0) dX1_close_1 rfl g1 rfl ?_
  refine r_if_ne E (tgt := 23) dX1_close_4 (by decide) (fun c2 => ?_) (fun c2 => ?_)
  · have h := iff' c2 h
    obtain ⟨rfl, rfl⟩ := lf2 h
    exact r_vret E dX1_close_23
  · have h := ift c2 h
    obtain ⟨a3, e4, h⟩ := nn h
    obtain ⟨g5, h⟩ := ck h
    obtain ⟨a6, e7, h⟩ := nn h
    obtain ⟨g8, h⟩ := ck h
    obtain ⟨r11, s10, hc9, h⟩ := nb2 h
    obtain ⟨rfl, rfl⟩ := lf2 h
    refine r_aload_n E (x := some h0) (i := 0) (j := 0) dX1_close_7 rfl rfl ?_
    refine r_aload_n E (x := q1) (i := 1) (j := 1) dX1_close_8 rfl rfl ?_
    refine gf_X1_129 E (x := gp σ 100 a3) dX1_close_9 e4 g5 rfl ?_
    refine pf_X1_40 E dX1_close_12 rfl g1 ?_
    refine r_aload_n E (x := some h0) (i := 0) (j := 0) dX1_close_15 rfl rfl ?_
    refine gf_X1_40 E (x := gp (sp σ 204 h0 (gp σ 100 a3)) 204 h0) dX1_close_16 rfl g1 rfl ?_
    refine r_aload_n E (x := q2) (i := 2) (j := 2) dX1_close_19 rfl rfl ?_
    refine cl_X1_132 E (m_X0_receive hc9) dX1_close_20 ⟨Nat.le_of_ble_eq_true rfl, Nat.le_of_ble_eq_true rfl⟩ ⟨by first | decide | omega | (dsimp only; omega), by first | decide | omega | (dsimp only; omega)⟩ (by decide) e7 g8 ?_
    exact r_vret E dX1_close_23
def ex_X1_takeTurn (d : Dp) (σ : Sg) (h0 : Nat) : Option (Unit × Sg × Nat × Nat) := (if gc σ h0 = 3 then (if (gi σ 211 h0) = (0 : Int32) then (b2 (ex_X1_nextPart d σ h0 (gp σ 204 h0)) fun r5 s4 => (if gc s4 h0 = 3 then (if (gi s4 211 h0) = (0 : Int32) then (if r5 = (3 : Int32) then (b4 (ex_X1_finish d s4 h0 (gp σ 204 h0)) fun r16 s15 k17 n18 => (if gc s15 h0 = 3 then (b2 (ex_X1_close d s15 h0 (gp σ 204 h0) r16) fun r22 s21 => some ((), s21, 0 + k17, 0 + n18)) else none)) else (b4 (ex_X1_workPart d s4 h0 (gp σ 204 h0) r5) fun r11 s10 k12 n13 => some ((), s10, 0 + k12, 0 + n13))) else some ((), s4, 0, 0)) else none)) else (b4 (ex_X1_passFault d σ h0 (gp σ 204 h0)) fun r25 s24 k26 n27 => some ((), s24, 0 + k26, 0 + n27))) else none)
set_option maxHeartbeats 4000000 in
set_option maxRecDepth 20000 in
theorem m_X1_takeTurn {l : Launch} {d : Dp} {σ σ' : Sg} {h0 : Nat} {r : Unit} {kF nF : Nat} (h : ex_X1_takeTurn d σ h0 = some (r, σ', kF, nF)) : Mt l d yX1_takeTurn cX1_takeTurn 3 none 6 137 σ [.ref h0] none σ' kF nF := by
  refine mt_start (own := RX1) (lv0 := [(0, va_rf (some h0))]) (by decide) rfl (by simp only [lg_sl, List.flatMap_cons, List.flatMap_nil, va_rf_cat]; exact Nat.le_of_ble_eq_true rfl) (by first | rfl | (simp only [lv_args, va_rf_cat]; rfl)) ?_
  intro p e s m args below meth c E hnm
  unfold ex_X1_takeTurn at h
  obtain ⟨g1, h⟩ := ck h
  refine r_aload_n E (x := some h0) (i := 0) (j := 0) dX1_takeTurn_0 rfl rfl ?_
  refine gf_X1_40 E (x := gp σ 204 h0) dX1_takeTurn_1 rfl g1 rfl ?_
  refine r_astore_n E (i := 1) (lv' := [(1, va_rf (gp σ 204 h0)), (0, va_rf (some h0))]) dX1_takeTurn_4 rfl (by decide) (by first | rfl | (simp only [List.filter_cons, List.filter_nil, va_rf_cat]; rfl)) ?_
  refine r_aload_n E (x := some h0) (i := 0) (j := 1) dX1_takeTurn_5 rfl rfl ?_
  refine gf_X1_95 E (x := gi σ 211 h0) dX1_takeTurn_6 rfl g1 rfl ?_
  refine r_if_eq E (tgt := 18) dX1_takeTurn_9 (by decide) (fun c2 => ?_) (fun c2 => ?_)
  · have h := ift c2 h
    obtain ⟨r5, s4, hc3, h⟩ := nb2 h
    obtain ⟨g6, h⟩ := ck h
    refine r_aload_n E (x := some h0) (i := 0) (j := 1) dX1_takeTurn_18 rfl rfl ?_
    refine r_aload_n E (x := gp σ 204 h0) (i := 1) (j := 0) dX1_takeTurn_19 rfl rfl ?_
    refine cl_X1_102 E (m_X1_nextPart hc3) dX1_takeTurn_20 ⟨Nat.le_of_ble_eq_true rfl, Nat.le_of_ble_eq_true rfl⟩ ⟨by first | decide | omega | (dsimp only; omega), by first | decide | omega | (dsimp only; omega)⟩ (by decide) rfl g1 ?_
    refine r_istore_n E (i := 2) (lv' := [(2, .int (r5)), (1, va_rf (gp σ 204 h0)), (0, va_rf (some h0))]) dX1_takeTurn_23 rfl (by decide) (by first | rfl | (simp only [List.filter_cons, List.filter_nil, va_rf_cat]; rfl)) ?_
    refine r_aload_n E (x := some h0) (i := 0) (j := 2) dX1_takeTurn_24 rfl rfl ?_
    refine gf_X1_95 E (x := gi s4 211 h0) dX1_takeTurn_25 rfl g6 rfl ?_
    refine r_if_eq E (tgt := 32) dX1_takeTurn_28 (by decide) (fun c7 => ?_) (fun c7 => ?_)
    · have h := ift c7 h
      refine r_iload_n E (i := 2) (j := 0) dX1_takeTurn_32 rfl rfl ?_
      refine r_iconst E dX1_takeTurn_33 (v := 3) (by decide) ?_
      refine r_icmp_ne E (tgt := 50) dX1_takeTurn_34 (by decide) (fun c8 => ?_) (fun c8 => ?_)
      · have h := iff' c8 h
        obtain ⟨r11, s10, k12, n13, hc9, h⟩ := nb4 h
        obtain ⟨rfl, rfl, rfl, rfl⟩ := lf4 h
        refine r_aload_n E (x := some h0) (i := 0) (j := 2) dX1_takeTurn_50 rfl rfl ?_
        refine r_aload_n E (x := gp σ 204 h0) (i := 1) (j := 1) dX1_takeTurn_51 rfl rfl ?_
        refine r_iload_n E (i := 2) (j := 0) dX1_takeTurn_52 rfl rfl ?_
        refine cl_X1_114 E (m_X1_workPart hc9) dX1_takeTurn_53 ⟨Nat.le_of_ble_eq_true rfl, Nat.le_of_ble_eq_true rfl⟩ ⟨by first | decide | omega | (dsimp only; omega), by first | decide | omega | (dsimp only; omega)⟩ (by decide) rfl g6 ?_
        exact r_vret E dX1_takeTurn_56
      · have h := ift c8 h
        obtain ⟨r16, s15, k17, n18, hc14, h⟩ := nb4 h
        obtain ⟨g19, h⟩ := ck h
        obtain ⟨r22, s21, hc20, h⟩ := nb2 h
        obtain ⟨rfl, rfl, rfl, rfl⟩ := lf4 h
        refine r_aload_n E (x := some h0) (i := 0) (j := 2) dX1_takeTurn_37 rfl rfl ?_
        refine r_aload_n E (x := gp σ 204 h0) (i := 1) (j := 1) dX1_takeTurn_38 rfl rfl ?_
        refine r_aload_n E (x := some h0) (i := 0) (j := 2) dX1_takeTurn_39 rfl rfl ?_
        refine r_aload_n E (x := gp σ 204 h0) (i := 1) (j := 1) dX1_takeTurn_40 rfl rfl ?_
        refine cl_X1_106 E (m_X1_finish hc14) dX1_takeTurn_41 ⟨Nat.le_of_ble_eq_true rfl, Nat.le_of_ble_eq_true rfl⟩ ⟨by first | decide | omega | (dsimp only; omega), by first | decide | omega | (dsimp only; omega)⟩ (by simp only [List.map_cons, List.map_nil, va_rf_cat]; exact Nat.le_of_ble_eq_true rfl) rfl g6 ?_
        refine cl_X1_110 E (m_X1_close hc20) dX1_takeTurn_44 ⟨Nat.le_of_ble_eq_true rfl, Nat.le_of_ble_eq_true rfl⟩ ⟨by first | decide | omega | (dsimp only; omega), by first | decide | omega | (dsimp only; omega)⟩ (by decide) rfl g19 ?_
        refine r_goto E (tgt := 56) dX1_takeTurn_47 (by decide) ?_
        exact r_vret E dX1_takeTurn_56
    · have h := iff' c7 h
      obtain ⟨rfl, rfl, rfl, rfl⟩ := lf4 h
      exact r_vret E dX1_takeTurn_31
  · have h := iff' c2 h
    obtain ⟨r25, s24, k26, n27, hc23, h⟩ := nb4 h
    obtain ⟨rfl, rfl, rfl, rfl⟩ := lf4 h
    refine r_aload_n E (x := some h0) (i := 0) (j := 1) dX1_takeTurn_12 rfl rfl ?_
    refine r_aload_n E (x := gp σ 204 h0) (i := 1) (j := 0) dX1_takeTurn_13 rfl rfl ?_
    refine cl_X1_98 E (m_X1_passFault hc23) dX1_takeTurn_14 ⟨Nat.le_of_ble_eq_true rfl, Nat.le_of_ble_eq_true rfl⟩ ⟨by first | decide | omega | (dsimp only; omega), by first | decide | omega | (dsimp only; omega)⟩ (by decide) rfl g1 ?_
    exact r_vret E dX1_takeTurn_17
def ex_X1_end (d : Dp) (σ : Sg) (h0 : Nat) : Option (Int32 × Sg) := (if gc σ h0 = 3 then (if (gi σ 209 h0) = (0 : Int32) then (if (gi σ 211 h0) = (0 : Int32) then (Option.bind (gp σ 203 h0) fun a4 => (if gc σ a4 = 2 then some ((0 : Int32), (sp (si σ 207 h0 ((gi σ 207 h0) + (gi σ 210 h0))) 206 h0 (gp σ 108 a4))) else none)) else some ((1 : Int32) + (gi σ 211 h0), (si σ 207 h0 ((gi σ 207 h0) + (gi σ 210 h0))))) else some ((-1 : Int32), (si σ 207 h0 ((gi σ 207 h0) + (gi σ 210 h0))))) else none)
set_option maxHeartbeats 4000000 in
set_option maxRecDepth 20000 in
theorem m_X1_end {l : Launch} {d : Dp} {σ σ' : Sg} {h0 : Nat} {r : Int32} (h : ex_X1_end d σ h0 = some (r, σ')) : Mt l d yX1_end cX1_end 1 (some .int) 0 0 σ [.ref h0] (some (.int r)) σ' 0 0 := by
  refine mt_start (own := RX1) (lv0 := [(0, va_rf (some h0))]) (by decide) rfl (by simp only [lg_sl, List.flatMap_cons, List.flatMap_nil, va_rf_cat]; exact Nat.le_of_ble_eq_true rfl) (by first | rfl | (simp only [lv_args, va_rf_cat]; rfl)) ?_
  intro p e s m args below meth c E hnm
  unfold ex_X1_end at h
  obtain ⟨g1, h⟩ := ck h
  refine r_aload_n E (x := some h0) (i := 0) (j := 0) dX1_end_0 rfl rfl ?_
  refine r_dup E dX1_end_1 (va_rf_cat _) ?_
  refine gf_X1_59 E (x := gi σ 207 h0) dX1_end_2 rfl g1 rfl ?_
  refine r_aload_n E (x := some h0) (i := 0) (j := 0) dX1_end_5 rfl rfl ?_
  refine gf_X1_71 E (x := gi σ 210 h0) dX1_end_6 rfl g1 rfl ?_
  refine r_iadd E dX1_end_9 ?_
  refine pf_X1_59 E dX1_end_10 rfl g1 ?_
  refine r_aload_n E (x := some h0) (i := 0) (j := 0) dX1_end_13 rfl rfl ?_
  refine gf_X1_74 E (x := gi σ 209 h0) dX1_end_14 rfl g1 rfl ?_
  refine r_if_eq E (tgt := 22) dX1_end_17 (by decide) (fun c2 => ?_) (fun c2 => ?_)
  · have h := ift c2 h
    refine r_aload_n E (x := some h0) (i := 0) (j := 0) dX1_end_22 rfl rfl ?_
    refine gf_X1_95 E (x := gi σ 211 h0) dX1_end_23 rfl g1 rfl ?_
    refine r_if_eq E (tgt := 36) dX1_end_26 (by decide) (fun c3 => ?_) (fun c3 => ?_)
    · have h := ift c3 h
      obtain ⟨a4, e5, h⟩ := nn h
      obtain ⟨g6, h⟩ := ck h
      obtain ⟨rfl, rfl⟩ := lf2 h
      refine r_aload_n E (x := some h0) (i := 0) (j := 0) dX1_end_36 rfl rfl ?_
      refine r_aload_n E (x := some h0) (i := 0) (j := 0) dX1_end_37 rfl rfl ?_
      refine gf_X1_36 E (x := gp σ 203 h0) dX1_end_38 rfl g1 rfl ?_
      refine gf_X1_117 E (x := gp σ 108 a4) dX1_end_41 e5 g6 rfl ?_
      refine pf_X1_51 E dX1_end_44 rfl g1 ?_
      refine r_iconst E dX1_end_47 (v := 0) (by decide) ?_
      exact r_iret E dX1_end_48
    · have h := iff' c3 h
      obtain ⟨rfl, rfl⟩ := lf2 h
      refine r_iconst E dX1_end_29 (v := 1) (by decide) ?_
      refine r_aload_n E (x := some h0) (i := 0) (j := 0) dX1_end_30 rfl rfl ?_
      refine gf_X1_95 E (x := gi σ 211 h0) dX1_end_31 rfl g1 rfl ?_
      refine r_iadd E dX1_end_34 ?_
      exact r_iret E dX1_end_35
  · have h := iff' c2 h
    obtain ⟨rfl, rfl⟩ := lf2 h
    refine r_iconst E dX1_end_20 (v := -1) (by decide) ?_
    exact r_iret E dX1_end_21
def ex_X3_init (d : Dp) (σ : Sg) (h0 : Nat) (p1 : Int32) (p2 : Int32) (p3 : Int64) : Option (Unit × Sg) := (if gc σ h0 = 5 then some ((), (sj (si (si (si (si (si σ 403 h0 (-1 : Int32)) 404 h0 (-1 : Int32)) 405 h0 (-1 : Int32)) 400 h0 p1) 401 h0 p2) 402 h0 p3)) else none)
set_option maxHeartbeats 4000000 in
set_option maxRecDepth 20000 in
theorem m_X3_init {l : Launch} {d : Dp} {σ σ' : Sg} {h0 : Nat} {p1 : Int32} {p2 : Int32} {p3 : Int64} {r : Unit} (h : ex_X3_init d σ h0 p1 p2 p3 = some (r, σ')) : Mt l d yX3_init cX3_init 5 none 1 20 σ [.ref h0, .int (p1), .int (p2), .long (p3)] none σ' 0 0 := by
  refine mt_start (own := RX3) (lv0 := [(0, va_rf (some h0)), (1, .int (p1)), (2, .int (p2)), (3, .long (p3))]) (by decide) rfl (by simp only [lg_sl, List.flatMap_cons, List.flatMap_nil, va_rf_cat]; exact Nat.le_of_ble_eq_true rfl) (by first | rfl | (simp only [lv_args, va_rf_cat]; rfl)) ?_
  intro p e s m args below meth c E hnm
  unfold ex_X3_init at h
  obtain ⟨g1, h⟩ := ck h
  obtain ⟨rfl, rfl⟩ := lf2 h
  refine r_aload_n E (x := some h0) (i := 0) (j := 0) dX3_init_0 rfl rfl ?_
  refine r_objInit E dX3_init_1 wm_1_197 wm_1_24 wm_1_25 rfl ⟨Nat.le_of_ble_eq_true rfl, Nat.le_of_ble_eq_true rfl⟩ ?_
  refine r_aload_n E (x := some h0) (i := 0) (j := 0) dX3_init_4 rfl rfl ?_
  refine r_iconst E dX3_init_5 (v := -1) (by decide) ?_
  refine pf_X3_11 E dX3_init_6 rfl g1 ?_
  refine r_aload_n E (x := some h0) (i := 0) (j := 0) dX3_init_9 rfl rfl ?_
  refine r_iconst E dX3_init_10 (v := -1) (by decide) ?_
  refine pf_X3_15 E dX3_init_11 rfl g1 ?_
  refine r_aload_n E (x := some h0) (i := 0) (j := 0) dX3_init_14 rfl rfl ?_
  refine r_iconst E dX3_init_15 (v := -1) (by decide) ?_
  refine pf_X3_18 E dX3_init_16 rfl g1 ?_
  refine r_aload_n E (x := some h0) (i := 0) (j := 0) dX3_init_19 rfl rfl ?_
  refine r_iload_n E (i := 1) (j := 1) dX3_init_20 rfl rfl ?_
  refine pf_X3_21 E hnm dX3_init_21 rfl g1 ?_
  refine r_aload_n E (x := some h0) (i := 0) (j := 0) dX3_init_24 rfl rfl ?_
  refine r_iload_n E (i := 2) (j := 2) dX3_init_25 rfl rfl ?_
  refine pf_X3_24 E hnm dX3_init_26 rfl g1 ?_
  refine r_aload_n E (x := some h0) (i := 0) (j := 0) dX3_init_29 rfl rfl ?_
  refine r_lload_n E (i := 3) (j := 3) dX3_init_30 rfl rfl ?_
  refine pf_X3_27 E hnm dX3_init_31 rfl g1 ?_
  exact r_vret E dX3_init_34
def ex_X3_set (d : Dp) (σ : Sg) (h0 : Nat) (p1 : Int32) (p2 : Int32) : Option (Unit × Sg) := (if p1 = 0 then (if gc σ h0 = 5 then some ((), (si σ 403 h0 p2)) else none) else (if p1 = 1 then (if gc σ h0 = 5 then some ((), (si σ 404 h0 p2)) else none) else (if gc σ h0 = 5 then some ((), (si σ 405 h0 p2)) else none)))
set_option maxHeartbeats 4000000 in
set_option maxRecDepth 20000 in
theorem m_X3_set {l : Launch} {d : Dp} {σ σ' : Sg} {h0 : Nat} {p1 : Int32} {p2 : Int32} {r : Unit} (h : ex_X3_set d σ h0 p1 p2 = some (r, σ')) : Mt l d yX3_set cX3_set 3 none 0 0 σ [.ref h0, .int (p1), .int (p2)] none σ' 0 0 := by
  refine mt_start (own := RX3) (lv0 := [(0, va_rf (some h0)), (1, .int (p1)), (2, .int (p2))]) (by decide) rfl (by simp only [lg_sl, List.flatMap_cons, List.flatMap_nil, va_rf_cat]; exact Nat.le_of_ble_eq_true rfl) (by first | rfl | (simp only [lv_args, va_rf_cat]; rfl)) ?_
  intro p e s m args below meth c E hnm
  unfold ex_X3_set at h
  refine r_iload_n E (i := 1) (j := 1) dX3_set_0 rfl rfl ?_
  by_cases c1 : p1 = 0
  · have h := ift c1 h
    obtain ⟨g2, h⟩ := ck h
    obtain ⟨rfl, rfl⟩ := lf2 h
    refine r_look E (off := 27) (tgt := 28) dX3_set_1 (by decide) (by rw [c1]; decide) (by decide) ?_
    refine r_aload_n E (x := some h0) (i := 0) (j := 0) dX3_set_28 rfl rfl ?_
    refine r_iload_n E (i := 2) (j := 2) dX3_set_29 rfl rfl ?_
    refine pf_X3_11 E dX3_set_30 rfl g2 ?_
    refine r_goto E (tgt := 49) dX3_set_33 (by decide) ?_
    exact r_vret E dX3_set_49
  · have h := iff' c1 h
    by_cases c3 : p1 = 1
    · have h := ift c3 h
      obtain ⟨g4, h⟩ := ck h
      obtain ⟨rfl, rfl⟩ := lf2 h
      refine r_look E (off := 35) (tgt := 36) dX3_set_1 (by decide) (by rw [c3]; decide) (by decide) ?_
      refine r_aload_n E (x := some h0) (i := 0) (j := 0) dX3_set_36 rfl rfl ?_
      refine r_iload_n E (i := 2) (j := 2) dX3_set_37 rfl rfl ?_
      refine pf_X3_15 E dX3_set_38 rfl g4 ?_
      refine r_goto E (tgt := 49) dX3_set_41 (by decide) ?_
      exact r_vret E dX3_set_49
    · have h := iff' c3 h
      obtain ⟨g5, h⟩ := ck h
      obtain ⟨rfl, rfl⟩ := lf2 h
      refine r_look E (off := 43) (tgt := 44) dX3_set_1 (by decide) ((lv_osw (k := 0) c1 (by decide)).trans ((lv_osw (k := 1) c3 (by decide)).trans rfl)) (by decide) ?_
      refine r_aload_n E (x := some h0) (i := 0) (j := 0) dX3_set_44 rfl rfl ?_
      refine r_iload_n E (i := 2) (j := 2) dX3_set_45 rfl rfl ?_
      refine pf_X3_18 E dX3_set_46 rfl g5 ?_
      exact r_vret E dX3_set_49
def ex_J8_newLength_cabcc (d : Dp) (σ : Sg) (p1 : Int32) (p2 : Int32) (p3 : Int32) : Option (Int32 × Sg × Nat × Nat) := (if (p1 + (if p2 < p3 then p3 else p2)) ≤ (0 : Int32) then none else (if (2147483639 : Int32) < (p1 + (if p2 < p3 then p3 else p2)) then none else some (p1 + (if p2 < p3 then p3 else p2), σ, 0, 0)))
set_option maxHeartbeats 4000000 in
set_option maxRecDepth 20000 in
theorem m_J8_newLength_cabcc {l : Launch} {d : Dp} {σ σ' : Sg} {p1 : Int32} {p2 : Int32} {p3 : Int32} {r : Int32} {kF nF : Nat} (h : ex_J8_newLength_cabcc d σ p1 p2 p3 = some (r, σ', kF, nF)) : Mt l d yJ8_newLength_cabcc cJ8_newLength_cabcc 4 (some .int) 1 21 σ [.int (p1), .int (p2), .int (p3)] (some (.int r)) σ' kF nF := by
  refine mt_start (own := RJ8) (lv0 := [(0, .int (p1)), (1, .int (p2)), (2, .int (p3))]) (by decide) rfl (by simp only [lg_sl, List.flatMap_cons, List.flatMap_nil, va_rf_cat]; exact Nat.le_of_ble_eq_true rfl) (by first | rfl | (simp only [lv_args, va_rf_cat]; rfl)) ?_
  intro p e s m args below meth c E hnm
  unfold ex_J8_newLength_cabcc at h
  refine r_iload_n E (i := 0) (j := 0) dJ8_newLength_cabcc_0 rfl rfl ?_
  refine r_iload_n E (i := 1) (j := 1) dJ8_newLength_cabcc_1 rfl rfl ?_
  refine r_iload_n E (i := 2) (j := 2) dJ8_newLength_cabcc_2 rfl rfl ?_
  refine r_mmax E dJ8_newLength_cabcc_3 wm_2_4 wm_2_5 wm_1_12 wm_2_6 ⟨Nat.le_of_ble_eq_true rfl, Nat.le_of_ble_eq_true rfl⟩ (Nat.le_of_ble_eq_true rfl) (by first | decide | omega | (dsimp only; omega)) (by first | decide | omega | (dsimp only; omega)) ?_
  refine r_iadd E dJ8_newLength_cabcc_6 ?_
  refine r_istore_n E (i := 3) (lv' := [(3, .int (p1 + (if p2 < p3 then p3 else p2))), (0, .int (p1)), (1, .int (p2)), (2, .int (p3))]) dJ8_newLength_cabcc_7 rfl (by decide) (by first | rfl | (simp only [List.filter_cons, List.filter_nil, va_rf_cat]; rfl)) ?_
  refine r_iconst E dJ8_newLength_cabcc_8 (v := 0) (by decide) ?_
  refine r_iload_n E (i := 3) (j := 0) dJ8_newLength_cabcc_9 rfl rfl ?_
  refine r_icmp_ge E (tgt := 21) dJ8_newLength_cabcc_10 (by decide) (fun c1 => ?_) (fun c1 => ?_)
  · have h := ift c1 h
    cases h
  · have h := iff' c1 h
    refine r_iload_n E (i := 3) (j := 0) dJ8_newLength_cabcc_13 rfl rfl ?_
    refine r_ldc E dJ8_newLength_cabcc_14 (v := 2147483639) wm_2_7 ?_
    refine r_icmp_gt E (tgt := 21) dJ8_newLength_cabcc_16 (by decide) (fun c2 => ?_) (fun c2 => ?_)
    · have h := ift c2 h
      cases h
    · have h := iff' c2 h
      obtain ⟨rfl, rfl, rfl, rfl⟩ := lf4 h
      refine r_iload_n E (i := 3) (j := 0) dJ8_newLength_cabcc_19 rfl rfl ?_
      exact r_iret E dJ8_newLength_cabcc_20
