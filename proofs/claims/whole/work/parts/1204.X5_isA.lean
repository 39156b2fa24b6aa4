def ex_X5_isA (d : Dp) (σ : Sg) (h0 : Nat) (p1 : Int32) : Option (Int32 × Sg) := (if gc σ h0 = 7 then (if (gi σ 601 h0) = p1 then some ((1 : Int32), σ) else (if p1 = (2 : Int32) then (if (gi σ 601 h0) = (3 : Int32) then some ((1 : Int32), σ) else some ((0 : Int32), σ)) else some ((0 : Int32), σ))) else none)
set_option maxHeartbeats 4000000 in
set_option maxRecDepth 20000 in
theorem m_X5_isA {l : Launch} {d : Dp} {σ σ' : Sg} {h0 : Nat} {p1 : Int32} {r : Int32} (h : ex_X5_isA d σ h0 p1 = some (r, σ')) : Mt l d yX5_isA cX5_isA 2 (some .boolean) 0 0 σ [.ref h0, .int (p1)] (some (.int r)) σ' 0 0 := by
  refine mt_start (own := RX5) (lv0 := [(0, va_rf (some h0)), (1, .int (p1))]) (by decide) rfl (by simp only [lg_sl, List.flatMap_cons, List.flatMap_nil, va_rf_cat]; exact Nat.le_of_ble_eq_true rfl) (by first | rfl | (simp only [lv_args, va_rf_cat]; rfl)) ?_
  intro p e s m args below meth c E hnm
  unfold ex_X5_isA at h
  obtain ⟨g1, h⟩ := ck h
  refine r_aload_n E (x := some h0) (i := 0) (j := 0) dX5_isA_0 rfl rfl ?_
  refine gf_X5_15 E (x := gi σ 601 h0) dX5_isA_1 rfl g1 rfl ?_
  refine r_iload_n E (i := 1) (j := 1) dX5_isA_4 rfl rfl ?_
  refine r_icmp_eq E (tgt := 21) dX5_isA_5 (by decide) (fun c2 => ?_) (fun c2 => ?_)
  · have h := ift c2 h
    obtain ⟨rfl, rfl⟩ := lf2 h
    refine r_iconst E dX5_isA_21 (v := 1) (by decide) ?_
    refine r_goto E (tgt := 26) dX5_isA_22 (by decide) ?_
    exact r_zret E dX5_isA_26 (by decide)
  · have h := iff' c2 h
    refine r_iload_n E (i := 1) (j := 1) dX5_isA_8 rfl rfl ?_
    refine r_iconst E dX5_isA_9 (v := 2) (by decide) ?_
    refine r_icmp_ne E (tgt := 25) dX5_isA_10 (by decide) (fun c3 => ?_) (fun c3 => ?_)
    · have h := iff' c3 h
      obtain ⟨rfl, rfl⟩ := lf2 h
      refine r_iconst E dX5_isA_25 (v := 0) (by decide) ?_
      exact r_zret E dX5_isA_26 (by decide)
    · have h := ift c3 h
      refine r_aload_n E (x := some h0) (i := 0) (j := 0) dX5_isA_13 rfl rfl ?_
      refine gf_X5_15 E (x := gi σ 601 h0) dX5_isA_14 rfl g1 rfl ?_
      refine r_iconst E dX5_isA_17 (v := 3) (by decide) ?_
      refine r_icmp_ne E (tgt := 25) dX5_isA_18 (by decide) (fun c4 => ?_) (fun c4 => ?_)
      · have h := iff' c4 h
        obtain ⟨rfl, rfl⟩ := lf2 h
        refine r_iconst E dX5_isA_25 (v := 0) (by decide) ?_
        exact r_zret E dX5_isA_26 (by decide)
      · have h := ift c4 h
        obtain ⟨rfl, rfl⟩ := lf2 h
        refine r_iconst E dX5_isA_21 (v := 1) (by decide) ?_
        refine r_goto E (tgt := 26) dX5_isA_22 (by decide) ?_
        exact r_zret E dX5_isA_26 (by decide)
def ex_X1_lacks (d : Dp) (σ : Sg) (h0 : Nat) (q1 : Option Nat) (q2 : Option Nat) (p3 : Int32) : Option (Int32 × Sg) := (if q2 = none then (Option.bind q1 fun a19 => (if gc σ a19 = 2 then (Option.bind (gp σ 103 a19) fun a22 => (if gc σ a22 = 5 then (if gc σ h0 = 3 then (b2 (ex_X1_failAt d σ h0 (gi σ 400 a22) (1 : Int32)) fun r28 s27 => some ((1 : Int32), s27)) else none) else none)) else none)) else (Option.bind q2 fun a2 => (if gc σ a2 = 7 then (b2 (ex_X5_isA d σ a2 p3) fun r7 s6 => (if r7 = (0 : Int32) then (Option.bind q1 fun a9 => (if gc s6 a9 = 2 then (Option.bind (gp s6 103 a9) fun a12 => (if gc s6 a12 = 5 then (if gc s6 h0 = 3 then (b2 (ex_X1_failAt d s6 h0 (gi s6 400 a12) (3 : Int32)) fun r18 s17 => some ((1 : Int32), s17)) else none) else none)) else none)) else some ((0 : Int32), s6))) else none)))
set_option maxHeartbeats 4000000 in
set_option maxRecDepth 20000 in
theorem m_X1_lacks {l : Launch} {d : Dp} {σ σ' : Sg} {h0 : Nat} {q1 : Option Nat} {q2 : Option Nat} {p3 : Int32} {r : Int32} (h : ex_X1_lacks d σ h0 q1 q2 p3 = some (r, σ')) : Mt l d yX1_lacks cX1_lacks 4 (some .boolean) 1 22 σ [.ref h0, va_rf (q1), va_rf (q2), .int (p3)] (some (.int r)) σ' 0 0 := by
  refine mt_start (own := RX1) (lv0 := [(0, va_rf (some h0)), (1, va_rf (q1)), (2, va_rf (q2)), (3, .int (p3))]) (by decide) rfl (by simp only [lg_sl, List.flatMap_cons, List.flatMap_nil, va_rf_cat]; exact Nat.le_of_ble_eq_true rfl) (by first | rfl | (simp only [lv_args, va_rf_cat]; rfl)) ?_
  intro p e s m args below meth c E hnm
  unfold ex_X1_lacks at h
  refine r_aload_n E (x := q2) (i := 2) (j := 2) dX1_lacks_0 rfl rfl ?_
  refine r_ifnonnull E (o := q2) (tgt := 19) dX1_lacks_1 (by decide) (fun c1 => ?_) (fun c1 => ?_)
  · have h := iff' c1 h
    obtain ⟨a2, e3, h⟩ := nn h
    obtain ⟨g4, h⟩ := ck h
    obtain ⟨r7, s6, hc5, h⟩ := nb2 h
    refine r_aload_n E (x := q2) (i := 2) (j := 2) dX1_lacks_19 rfl rfl ?_
    refine r_iload_n E (i := 3) (j := 3) dX1_lacks_20 rfl rfl ?_
    refine cl_X1_188 E (m_X5_isA hc5) dX1_lacks_21 ⟨Nat.le_of_ble_eq_true rfl, Nat.le_of_ble_eq_true rfl⟩ ⟨by first | decide | omega | (dsimp only; omega), by first | decide | omega | (dsimp only; omega)⟩ (by decide) e3 g4 ?_
    refine r_if_ne E (tgt := 42) dX1_lacks_24 (by decide) (fun c8 => ?_) (fun c8 => ?_)
    · have h := iff' c8 h
      obtain ⟨rfl, rfl⟩ := lf2 h
      refine r_iconst E dX1_lacks_42 (v := 0) (by decide) ?_
      exact r_zret E dX1_lacks_43 (by decide)
    · have h := ift c8 h
      obtain ⟨a9, e10, h⟩ := nn h
      obtain ⟨g11, h⟩ := ck h
      obtain ⟨a12, e13, h⟩ := nn h
      obtain ⟨g14, h⟩ := ck h
      obtain ⟨g15, h⟩ := ck h
      obtain ⟨r18, s17, hc16, h⟩ := nb2 h
      obtain ⟨rfl, rfl⟩ := lf2 h
      refine r_aload_n E (x := some h0) (i := 0) (j := 0) dX1_lacks_27 rfl rfl ?_
      refine r_aload_n E (x := q1) (i := 1) (j := 1) dX1_lacks_28 rfl rfl ?_
      refine gf_X1_139 E (x := gp s6 103 a9) dX1_lacks_29 e10 g11 rfl ?_
      refine gf_X1_120 E (x := gi s6 400 a12) dX1_lacks_32 e13 g14 rfl ?_
      refine r_iconst E dX1_lacks_35 (v := 3) (by decide) ?_
      refine cl_X1_85 E (m_X1_failAt hc16) dX1_lacks_36 ⟨Nat.le_of_ble_eq_true rfl, Nat.le_of_ble_eq_true rfl⟩ ⟨by first | decide | omega | (dsimp only; omega), by first | decide | omega | (dsimp only; omega)⟩ (by decide) rfl g15 ?_
      refine r_pop E dX1_lacks_39 (va_rf_cat _) ?_
      refine r_iconst E dX1_lacks_40 (v := 1) (by decide) ?_
      exact r_zret E dX1_lacks_41 (by decide)
  · have h := ift c1 h
    obtain ⟨a19, e20, h⟩ := nn h
    obtain ⟨g21, h⟩ := ck h
    obtain ⟨a22, e23, h⟩ := nn h
    obtain ⟨g24, h⟩ := ck h
    obtain ⟨g25, h⟩ := ck h
    obtain ⟨r28, s27, hc26, h⟩ := nb2 h
    obtain ⟨rfl, rfl⟩ := lf2 h
    refine r_aload_n E (x := some h0) (i := 0) (j := 0) dX1_lacks_4 rfl rfl ?_
    refine r_aload_n E (x := q1) (i := 1) (j := 1) dX1_lacks_5 rfl rfl ?_
    refine gf_X1_139 E (x := gp σ 103 a19) dX1_lacks_6 e20 g21 rfl ?_
    refine gf_X1_120 E (x := gi σ 400 a22) dX1_lacks_9 e23 g24 rfl ?_
    refine r_iconst E dX1_lacks_12 (v := 1) (by decide) ?_
    refine cl_X1_85 E (m_X1_failAt hc26) dX1_lacks_13 ⟨Nat.le_of_ble_eq_true rfl, Nat.le_of_ble_eq_true rfl⟩ ⟨by first | decide | omega | (dsimp only; omega), by first | decide | omega | (dsimp only; omega)⟩ (by decide) rfl g25 ?_
    refine r_pop E dX1_lacks_16 (va_rf_cat _) ?_
    refine r_iconst E dX1_lacks_17 (v := 1) (by decide) ?_
    exact r_zret E dX1_lacks_18 (by decide)
def ex_X1_nextOfIf (d : Dp) (σ : Sg) (h0 : Nat) (q1 : Option Nat) : Option (Int32 × Sg) := (Option.bind q1 fun a1 => (if gc σ a1 = 2 then (if (gi σ 104 a1) = (-1 : Int32) then some ((0 : Int32), σ) else (if (gi σ 104 a1) = (0 : Int32) then (if gc σ h0 = 3 then (b2 (ex_X1_lacks d σ h0 q1 (gp σ 105 a1) (1 : Int32)) fun r9 s8 => (if r9 = (0 : Int32) then (if gc s8 a1 = 2 then (Option.bind (gp s8 105 a1) fun a12 => (if gc s8 a12 = 7 then (if (lg_cmp (gj s8 602 a12) (0 : Int64)) = (0 : Int32) then some ((2 : Int32), s8) else some ((1 : Int32), s8)) else none)) else none) else some ((3 : Int32), s8))) else none) else some ((3 : Int32), σ))) else none))
set_option maxHeartbeats 4000000 in
set_option maxRecDepth 20000 in
theorem m_X1_nextOfIf {l : Launch} {d : Dp} {σ σ' : Sg} {h0 : Nat} {q1 : Option Nat} {r : Int32} (h : ex_X1_nextOfIf d σ h0 q1 = some (r, σ')) : Mt l d yX1_nextOfIf cX1_nextOfIf 2 (some .int) 2 45 σ [.ref h0, va_rf (q1)] (some (.int r)) σ' 0 0 := by
  refine mt_start (own := RX1) (lv0 := [(0, va_rf (some h0)), (1, va_rf (q1))]) (by decide) rfl (by simp only [lg_sl, List.flatMap_cons, List.flatMap_nil, va_rf_cat]; exact Nat.le_of_ble_eq_true rfl) (by first | rfl | (simp only [lv_args, va_rf_cat]; rfl)) ?_
  intro p e s m args below meth c E hnm
  unfold ex_X1_nextOfIf at h
  obtain ⟨a1, e2, h⟩ := nn h
  obtain ⟨g3, h⟩ := ck h
  refine r_aload_n E (x := q1) (i := 1) (j := 1) dX1_nextOfIf_0 rfl rfl ?_
  refine gf_X1_136 E (x := gi σ 104 a1) dX1_nextOfIf_1 e2 g3 rfl ?_
  refine r_iconst E dX1_nextOfIf_4 (v := -1) (by decide) ?_
  refine r_icmp_ne E (tgt := 10) dX1_nextOfIf_5 (by decide) (fun c4 => ?_) (fun c4 => ?_)
  · have h := iff' c4 h
    refine r_aload_n E (x := q1) (i := 1) (j := 1) dX1_nextOfIf_10 rfl rfl ?_
    refine gf_X1_136 E (x := gi σ 104 a1) dX1_nextOfIf_11 e2 g3 rfl ?_
    refine r_if_ne E (tgt := 30) dX1_nextOfIf_14 (by decide) (fun c5 => ?_) (fun c5 => ?_)
    · have h := iff' c5 h
      obtain ⟨rfl, rfl⟩ := lf2 h
      refine r_iconst E dX1_nextOfIf_30 (v := 3) (by decide) ?_
      exact r_iret E dX1_nextOfIf_31
    · have h := ift c5 h
      obtain ⟨g6, h⟩ := ck h
      obtain ⟨r9, s8, hc7, h⟩ := nb2 h
      refine r_aload_n E (x := some h0) (i := 0) (j := 0) dX1_nextOfIf_17 rfl rfl ?_
      refine r_aload_n E (x := q1) (i := 1) (j := 1) dX1_nextOfIf_18 rfl rfl ?_
      refine r_aload_n E (x := q1) (i := 1) (j := 1) dX1_nextOfIf_19 rfl rfl ?_
      refine gf_X1_166 E (x := gp σ 105 a1) dX1_nextOfIf_20 e2 g3 rfl ?_
      refine r_iconst E dX1_nextOfIf_23 (v := 1) (by decide) ?_
      refine cl_X1_169 E (m_X1_lacks hc7) dX1_nextOfIf_24 ⟨Nat.le_of_ble_eq_true rfl, Nat.le_of_ble_eq_true rfl⟩ ⟨by first | decide | omega | (dsimp only; omega), by first | decide | omega | (dsimp only; omega)⟩ (by decide) rfl g6 ?_
      refine r_if_eq E (tgt := 32) dX1_nextOfIf_27 (by decide) (fun c10 => ?_) (fun c10 => ?_)
      · have h := ift c10 h
        obtain ⟨g11, h⟩ := ck h
        obtain ⟨a12, e13, h⟩ := nn h
        obtain ⟨g14, h⟩ := ck h
        refine r_aload_n E (x := q1) (i := 1) (j := 1) dX1_nextOfIf_32 rfl rfl ?_
        refine gf_X1_166 E (x := gp s8 105 a1) dX1_nextOfIf_33 e2 g11 rfl ?_
        refine gf_X1_173 E (x := gj s8 602 a12) dX1_nextOfIf_36 e13 g14 rfl ?_
        refine r_lconst E dX1_nextOfIf_39 (v := 0) (by decide) ?_
        refine r_lcmp E dX1_nextOfIf_40 ?_
        refine r_if_eq E (tgt := 48) dX1_nextOfIf_41 (by decide) (fun c15 => ?_) (fun c15 => ?_)
        · have h := ift c15 h
          obtain ⟨rfl, rfl⟩ := lf2 h
          refine r_iconst E dX1_nextOfIf_48 (v := 2) (by decide) ?_
          exact r_iret E dX1_nextOfIf_49
        · have h := iff' c15 h
          obtain ⟨rfl, rfl⟩ := lf2 h
          refine r_iconst E dX1_nextOfIf_44 (v := 1) (by decide) ?_
          refine r_goto E (tgt := 49) dX1_nextOfIf_45 (by decide) ?_
          exact r_iret E dX1_nextOfIf_49
      · have h := iff' c10 h
        obtain ⟨rfl, rfl⟩ := lf2 h
        refine r_iconst E dX1_nextOfIf_30 (v := 3) (by decide) ?_
        exact r_iret E dX1_nextOfIf_31
  · have h := ift c4 h
    obtain ⟨rfl, rfl⟩ := lf2 h
    refine r_iconst E dX1_nextOfIf_8 (v := 0) (by decide) ?_
    exact r_iret E dX1_nextOfIf_9
def ex_X1_nextOfTimes (d : Dp) (σ : Sg) (h0 : Nat) (q1 : Option Nat) : Option (Int32 × Sg) := (Option.bind q1 fun a1 => (if gc σ a1 = 2 then (if (gi σ 104 a1) = (-1 : Int32) then some ((0 : Int32), σ) else (if (gi σ 104 a1) = (0 : Int32) then (if gc σ h0 = 3 then (b2 (ex_X1_lacks d σ h0 q1 (gp σ 105 a1) (1 : Int32)) fun r10 s9 => (if r10 = (0 : Int32) then (if gc s9 a1 = 2 then (Option.bind (gp s9 105 a1) fun a13 => (if gc s9 a13 = 7 then (if (0 : Int32) ≤ (lg_cmp (gj (sj s9 109 a1 (gj s9 602 a13)) 109 a1) (1 : Int64)) then some ((1 : Int32), (sj (sp (sj s9 109 a1 (gj s9 602 a13)) 108 a1 none) 109 a1 ((gj (sj s9 109 a1 (gj s9 602 a13)) 109 a1) - (1 : Int64)))) else some ((3 : Int32), (sp (sj s9 109 a1 (gj s9 602 a13)) 108 a1 none))) else none)) else none) else some ((3 : Int32), s9))) else none) else (if (0 : Int32) ≤ (lg_cmp (gj σ 109 a1) (1 : Int64)) then some ((1 : Int32), (sj σ 109 a1 ((gj σ 109 a1) - (1 : Int64)))) else some ((3 : Int32), σ)))) else none))
set_option maxHeartbeats 4000000 in
set_option maxRecDepth 20000 in
theorem m_X1_nextOfTimes {l : Launch} {d : Dp} {σ σ' : Sg} {h0 : Nat} {q1 : Option Nat} {r : Int32} (h : ex_X1_nextOfTimes d σ h0 q1 = some (r, σ')) : Mt l d yX1_nextOfTimes cX1_nextOfTimes 2 (some .int) 2 45 σ [.ref h0, va_rf (q1)] (some (.int r)) σ' 0 0 := by
  refine mt_start (own := RX1) (lv0 := [(0, va_rf (some h0)), (1, va_rf (q1))]) (by decide) rfl (by simp only [lg_sl, List.flatMap_cons, List.flatMap_nil, va_rf_cat]; exact Nat.le_of_ble_eq_true rfl) (by first | rfl | (simp only [lv_args, va_rf_cat]; rfl)) ?_
  intro p e s m args below meth c E hnm
  unfold ex_X1_nextOfTimes at h
  obtain ⟨a1, e2, h⟩ := nn h
  obtain ⟨g3, h⟩ := ck h
  refine r_aload_n E (x := q1) (i := 1) (j := 1) dX1_nextOfTimes_0 rfl rfl ?_
  refine gf_X1_136 E (x := gi σ 104 a1) dX1_nextOfTimes_1 e2 g3 rfl ?_
  refine r_iconst E dX1_nextOfTimes_4 (v := -1) (by decide) ?_
  refine r_icmp_ne E (tgt := 10) dX1_nextOfTimes_5 (by decide) (fun c4 => ?_) (fun c4 => ?_)
  · have h := iff' c4 h
    refine r_aload_n E (x := q1) (i := 1) (j := 1) dX1_nextOfTimes_10 rfl rfl ?_
    refine gf_X1_136 E (x := gi σ 104 a1) dX1_nextOfTimes_11 e2 g3 rfl ?_
    refine r_if_ne E (tgt := 48) dX1_nextOfTimes_14 (by decide) (fun c5 => ?_) (fun c5 => ?_)
    · have h := iff' c5 h
      refine r_aload_n E (x := q1) (i := 1) (j := 1) dX1_nextOfTimes_48 rfl rfl ?_
      refine gf_X1_177 E (x := gj σ 109 a1) dX1_nextOfTimes_49 e2 g3 rfl ?_
      refine r_lconst E dX1_nextOfTimes_52 (v := 1) (by decide) ?_
      refine r_lcmp E dX1_nextOfTimes_53 ?_
      refine r_if_ge E (tgt := 59) dX1_nextOfTimes_54 (by decide) (fun c6 => ?_) (fun c6 => ?_)
      · have h := ift c6 h
        obtain ⟨rfl, rfl⟩ := lf2 h
        refine r_aload_n E (x := q1) (i := 1) (j := 1) dX1_nextOfTimes_59 rfl rfl ?_
        refine r_dup E dX1_nextOfTimes_60 (va_rf_cat _) ?_
        refine gf_X1_177 E (x := gj σ 109 a1) dX1_nextOfTimes_61 e2 g3 rfl ?_
        refine r_lconst E dX1_nextOfTimes_64 (v := 1) (by decide) ?_
        refine r_lsub E dX1_nextOfTimes_65 ?_
        refine pf_X1_177 E dX1_nextOfTimes_66 e2 g3 ?_
        refine r_iconst E dX1_nextOfTimes_69 (v := 1) (by decide) ?_
        exact r_iret E dX1_nextOfTimes_70
      · have h := iff' c6 h
        obtain ⟨rfl, rfl⟩ := lf2 h
        refine r_iconst E dX1_nextOfTimes_57 (v := 3) (by decide) ?_
        exact r_iret E dX1_nextOfTimes_58
    · have h := ift c5 h
      obtain ⟨g7, h⟩ := ck h
      obtain ⟨r10, s9, hc8, h⟩ := nb2 h
      refine r_aload_n E (x := some h0) (i := 0) (j := 0) dX1_nextOfTimes_17 rfl rfl ?_
      refine r_aload_n E (x := q1) (i := 1) (j := 1) dX1_nextOfTimes_18 rfl rfl ?_
      refine r_aload_n E (x := q1) (i := 1) (j := 1) dX1_nextOfTimes_19 rfl rfl ?_
      refine gf_X1_166 E (x := gp σ 105 a1) dX1_nextOfTimes_20 e2 g3 rfl ?_
      refine r_iconst E dX1_nextOfTimes_23 (v := 1) (by decide) ?_
      refine cl_X1_169 E (m_X1_lacks hc8) dX1_nextOfTimes_24 ⟨Nat.le_of_ble_eq_true rfl, Nat.le_of_ble_eq_true rfl⟩ ⟨by first | decide | omega | (dsimp only; omega), by first | decide | omega | (dsimp only; omega)⟩ (by decide) rfl g7 ?_
      refine r_if_eq E (tgt := 32) dX1_nextOfTimes_27 (by decide) (fun c11 => ?_) (fun c11 => ?_)
      · have h := ift c11 h
        obtain ⟨g12, h⟩ := ck h
        obtain ⟨a13, e14, h⟩ := nn h
        obtain ⟨g15, h⟩ := ck h
        refine r_aload_n E (x := q1) (i := 1) (j := 1) dX1_nextOfTimes_32 rfl rfl ?_
        refine r_aload_n E (x := q1) (i := 1) (j := 1) dX1_nextOfTimes_33 rfl rfl ?_
        refine gf_X1_166 E (x := gp s9 105 a1) dX1_nextOfTimes_34 e2 g12 rfl ?_
        refine gf_X1_173 E (x := gj s9 602 a13) dX1_nextOfTimes_37 e14 g15 rfl ?_
        refine pf_X1_177 E dX1_nextOfTimes_40 e2 g12 ?_
        refine r_aload_n E (x := q1) (i := 1) (j := 1) dX1_nextOfTimes_43 rfl rfl ?_
        refine r_null E dX1_nextOfTimes_44 ?_
        refine pf_X1_117 E dX1_nextOfTimes_45 e2 g12 ?_
        refine r_aload_n E (x := q1) (i := 1) (j := 1) dX1_nextOfTimes_48 rfl rfl ?_
        refine gf_X1_177 E (x := gj (sj s9 109 a1 (gj s9 602 a13)) 109 a1) dX1_nextOfTimes_49 e2 g12 rfl ?_
        refine r_lconst E dX1_nextOfTimes_52 (v := 1) (by decide) ?_
        refine r_lcmp E dX1_nextOfTimes_53 ?_
        refine r_if_ge E (tgt := 59) dX1_nextOfTimes_54 (by decide) (fun c16 => ?_) (fun c16 => ?_)
        · have h := ift c16 h
          obtain ⟨rfl, rfl⟩ := lf2 h
          refine r_aload_n E (x := q1) (i := 1) (j := 1) dX1_nextOfTimes_59 rfl rfl ?_
          refine r_dup E dX1_nextOfTimes_60 (va_rf_cat _) ?_
          refine gf_X1_177 E (x := gj (sj s9 109 a1 (gj s9 602 a13)) 109 a1) dX1_nextOfTimes_61 e2 g12 rfl ?_
          refine r_lconst E dX1_nextOfTimes_64 (v := 1) (by decide) ?_
          refine r_lsub E dX1_nextOfTimes_65 ?_
          refine pf_X1_177 E dX1_nextOfTimes_66 e2 g12 ?_
          refine r_iconst E dX1_nextOfTimes_69 (v := 1) (by decide) ?_
          exact r_iret E dX1_nextOfTimes_70
        · have h := iff' c16 h
          obtain ⟨rfl, rfl⟩ := lf2 h
          refine r_iconst E dX1_nextOfTimes_57 (v := 3) (by decide) ?_
          exact r_iret E dX1_nextOfTimes_58
      · have h := iff' c11 h
        obtain ⟨rfl, rfl⟩ := lf2 h
        refine r_iconst E dX1_nextOfTimes_30 (v := 3) (by decide) ?_
        exact r_iret E dX1_nextOfTimes_31
  · have h := ift c4 h
    obtain ⟨rfl, rfl⟩ := lf2 h
    refine r_iconst E dX1_nextOfTimes_8 (v := 0) (by decide) ?_
    exact r_iret E dX1_nextOfTimes_9
