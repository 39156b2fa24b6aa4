def ex_X5_isRowFor (d : Dp) (σ : Sg) (h0 : Nat) (q1 : Option Nat) : Option (Int32 × Sg) := (if gc σ h0 = 7 then (if (gi σ 605 h0) = 1 then (if q1 = none then some ((1 : Int32), σ) else (Option.bind q1 fun a4 => (if gc σ a4 = 7 then (b2 (ex_X5_isA d σ a4 (2 : Int32)) fun r9 s8 => (if r9 = (0 : Int32) then some ((0 : Int32), s8) else some ((1 : Int32), s8))) else none))) else (if (gi σ 605 h0) = 2 then (if q1 = none then some ((1 : Int32), σ) else (Option.bind q1 fun a13 => (if gc σ a13 = 7 then (b2 (ex_X5_isA d σ a13 (3 : Int32)) fun r18 s17 => (if r18 = (0 : Int32) then some ((0 : Int32), s17) else some ((1 : Int32), s17))) else none))) else some ((1 : Int32), σ))) else none)
set_option maxHeartbeats 4000000 in
set_option maxRecDepth 20000 in
theorem m_X5_isRowFor {l : Launch} {d : Dp} {σ σ' : Sg} {h0 : Nat} {q1 : Option Nat} {r : Int32} (h : ex_X5_isRowFor d σ h0 q1 = some (r, σ')) : Mt l d yX5_isRowFor cX5_isRowFor 2 (some .boolean) 1 21 σ [.ref h0, va_rf (q1)] (some (.int r)) σ' 0 0 := by
  refine mt_start (own := RX5) (lv0 := [(0, va_rf (some h0)), (1, va_rf (q1))]) (by decide) rfl (by simp only [lg_sl, List.flatMap_cons, List.flatMap_nil, va_rf_cat]; exact Nat.le_of_ble_eq_true rfl) (by first | rfl | (simp only [lv_args, va_rf_cat]; rfl)) ?_
  intro p e s m args below meth c E hnm
  unfold ex_X5_isRowFor at h
  obtain ⟨g1, h⟩ := ck h
  refine r_aload_n E (x := some h0) (i := 0) (j := 0) dX5_isRowFor_0 rfl rfl ?_
  refine gf_X5_22 E (x := gi σ 605 h0) dX5_isRowFor_1 rfl g1 rfl ?_
  by_cases c2 : (gi σ 605 h0) = 1
  · have h := ift c2 h
    refine r_look E (off := 28) (tgt := 32) dX5_isRowFor_4 (by decide) (by rw [c2]; decide) (by decide) ?_
    refine r_aload_n E (x := q1) (i := 1) (j := 1) dX5_isRowFor_32 rfl rfl ?_
    refine r_ifnull E (o := q1) (tgt := 44) dX5_isRowFor_33 (by decide) (fun c3 => ?_) (fun c3 => ?_)
    · have h := ift c3 h
      obtain ⟨rfl, rfl⟩ := lf2 h
      refine r_iconst E dX5_isRowFor_44 (v := 1) (by decide) ?_
      refine r_goto E (tgt := 49) dX5_isRowFor_45 (by decide) ?_
      exact r_zret E dX5_isRowFor_49 (by decide)
    · have h := iff' c3 h
      obtain ⟨a4, e5, h⟩ := nn h
      obtain ⟨g6, h⟩ := ck h
      obtain ⟨r9, s8, hc7, h⟩ := nb2 h
      refine r_aload_n E (x := q1) (i := 1) (j := 1) dX5_isRowFor_36 rfl rfl ?_
      refine r_iconst E dX5_isRowFor_37 (v := 2) (by decide) ?_
      refine cl_X5_25 E (m_X5_isA hc7) dX5_isRowFor_38 ⟨Nat.le_of_ble_eq_true rfl, Nat.le_of_ble_eq_true rfl⟩ ⟨by first | decide | omega | (dsimp only; omega), by first | decide | omega | (dsimp only; omega)⟩ (by decide) e5 g6 ?_
      refine r_if_eq E (tgt := 48) dX5_isRowFor_41 (by decide) (fun c10 => ?_) (fun c10 => ?_)
      · have h := ift c10 h
        obtain ⟨rfl, rfl⟩ := lf2 h
        refine r_iconst E dX5_isRowFor_48 (v := 0) (by decide) ?_
        exact r_zret E dX5_isRowFor_49 (by decide)
      · have h := iff' c10 h
        obtain ⟨rfl, rfl⟩ := lf2 h
        refine r_iconst E dX5_isRowFor_44 (v := 1) (by decide) ?_
        refine r_goto E (tgt := 49) dX5_isRowFor_45 (by decide) ?_
        exact r_zret E dX5_isRowFor_49 (by decide)
  · have h := iff' c2 h
    by_cases c11 : (gi σ 605 h0) = 2
    · have h := ift c11 h
      refine r_look E (off := 46) (tgt := 50) dX5_isRowFor_4 (by decide) (by rw [c11]; decide) (by decide) ?_
      refine r_aload_n E (x := q1) (i := 1) (j := 1) dX5_isRowFor_50 rfl rfl ?_
      refine r_ifnull E (o := q1) (tgt := 62) dX5_isRowFor_51 (by decide) (fun c12 => ?_) (fun c12 => ?_)
      · have h := ift c12 h
        obtain ⟨rfl, rfl⟩ := lf2 h
        refine r_iconst E dX5_isRowFor_62 (v := 1) (by decide) ?_
        refine r_goto E (tgt := 67) dX5_isRowFor_63 (by decide) ?_
        exact r_zret E dX5_isRowFor_67 (by decide)
      · have h := iff' c12 h
        obtain ⟨a13, e14, h⟩ := nn h
        obtain ⟨g15, h⟩ := ck h
        obtain ⟨r18, s17, hc16, h⟩ := nb2 h
        refine r_aload_n E (x := q1) (i := 1) (j := 1) dX5_isRowFor_54 rfl rfl ?_
        refine r_iconst E dX5_isRowFor_55 (v := 3) (by decide) ?_
        refine cl_X5_25 E (m_X5_isA hc16) dX5_isRowFor_56 ⟨Nat.le_of_ble_eq_true rfl, Nat.le_of_ble_eq_true rfl⟩ ⟨by first | decide | omega | (dsimp only; omega), by first | decide | omega | (dsimp only; omega)⟩ (by decide) e14 g15 ?_
        refine r_if_eq E (tgt := 66) dX5_isRowFor_59 (by decide) (fun c19 => ?_) (fun c19 => ?_)
        · have h := ift c19 h
          obtain ⟨rfl, rfl⟩ := lf2 h
          refine r_iconst E dX5_isRowFor_66 (v := 0) (by decide) ?_
          exact r_zret E dX5_isRowFor_67 (by decide)
        · have h := iff' c19 h
          obtain ⟨rfl, rfl⟩ := lf2 h
          refine r_iconst E dX5_isRowFor_62 (v := 1) (by decide) ?_
          refine r_goto E (tgt := 67) dX5_isRowFor_63 (by decide) ?_
          exact r_zret E dX5_isRowFor_67 (by decide)
    · have h := iff' c11 h
      obtain ⟨rfl, rfl⟩ := lf2 h
      refine r_look E (off := 64) (tgt := 68) dX5_isRowFor_4 (by decide) ((lv_osw (k := 1) c2 (by decide)).trans ((lv_osw (k := 2) c11 (by decide)).trans rfl)) (by decide) ?_
      refine r_iconst E dX5_isRowFor_68 (v := 1) (by decide) ?_
      exact r_zret E dX5_isRowFor_69 (by decide)
def ex_X1_put (d : Dp) (σ : Sg) (h0 : Nat) (q1 : Option Nat) : Option (Option Nat × Sg) := (if gc σ h0 = 3 then (b2 (ex_X1_lacksPlace d σ h0 q1) fun r4 s3 => (if r4 = (0 : Int32) then (Option.bind q1 fun a6 => (if gc s3 a6 = 2 then (Option.bind (gp s3 105 a6) fun a9 => (if gc s3 a9 = 7 then (b2 (ex_X5_isRowFor d s3 a9 (gp s3 107 a6)) fun r14 s13 => (if r14 = (0 : Int32) then (if gc s13 a6 = 2 then (Option.bind (gp s13 103 a6) fun a29 => (if gc s13 a29 = 5 then (if gc s13 h0 = 3 then (b2 (ex_X1_failAt d s13 h0 (gi s13 400 a29) (4 : Int32)) fun r35 s34 => some (r35, s34)) else none) else none)) else none) else (if gc s13 a6 = 2 then (Option.bind (gp s13 105 a6) fun a17 => (if gc s13 a17 = 7 then (Option.bind (gp s13 106 a6) fun a20 => (if gc s13 a20 = 7 then (Option.bind (gp s13 606 a17) fun a23 => (if gc s13 a23 = 12 then (if ¬ ((Int64.toInt32 (gj s13 602 a20)) < 0 ∨ gl s13 a23 ≤ Int32.toNatClampNeg (Int64.toInt32 (gj s13 602 a20))) then (if (gp s13 107 a6) = none ∨ gc s13 (Option.getD (gp s13 107 a6) 0) = 7 then some (gp s13 107 a6, (wp s13 a23 (Int32.toNatClampNeg (Int64.toInt32 (gj s13 602 a20))) (gp s13 107 a6))) else none) else none) else none)) else none)) else none)) else none))) else none)) else none)) else some (none, s3))) else none)
set_option maxHeartbeats 4000000 in
set_option maxRecDepth 20000 in
theorem m_X1_put {l : Launch} {d : Dp} {σ σ' : Sg} {h0 : Nat} {q1 : Option Nat} {r : Option Nat} (h : ex_X1_put d σ h0 q1 = some (r, σ')) : Mt l d yX1_put cX1_put 2 (some (.object "FrameTalk$Thing")) 3 66 σ [.ref h0, va_rf (q1)] (some (va_rf r)) σ' 0 0 := by
  refine mt_start (own := RX1) (lv0 := [(0, va_rf (some h0)), (1, va_rf (q1))]) (by decide) rfl (by simp only [lg_sl, List.flatMap_cons, List.flatMap_nil, va_rf_cat]; exact Nat.le_of_ble_eq_true rfl) (by first | rfl | (simp only [lv_args, va_rf_cat]; rfl)) ?_
  intro p e s m args below meth c E hnm
  unfold ex_X1_put at h
  obtain ⟨g1, h⟩ := ck h
  obtain ⟨r4, s3, hc2, h⟩ := nb2 h
  refine r_aload_n E (x := some h0) (i := 0) (j := 0) dX1_put_0 rfl rfl ?_
  refine r_aload_n E (x := q1) (i := 1) (j := 1) dX1_put_1 rfl rfl ?_
  refine cl_X1_258 E (m_X1_lacksPlace hc2) dX1_put_2 ⟨Nat.le_of_ble_eq_true rfl, Nat.le_of_ble_eq_true rfl⟩ ⟨by first | decide | omega | (dsimp only; omega), by first | decide | omega | (dsimp only; omega)⟩ (by decide) rfl g1 ?_
  refine r_if_eq E (tgt := 10) dX1_put_5 (by decide) (fun c5 => ?_) (fun c5 => ?_)
  · have h := ift c5 h
    obtain ⟨a6, e7, h⟩ := nn h
    obtain ⟨g8, h⟩ := ck h
    obtain ⟨a9, e10, h⟩ := nn h
    obtain ⟨g11, h⟩ := ck h
    obtain ⟨r14, s13, hc12, h⟩ := nb2 h
    refine r_aload_n E (x := q1) (i := 1) (j := 1) dX1_put_10 rfl rfl ?_
    refine gf_X1_166 E (x := gp s3 105 a6) dX1_put_11 e7 g8 rfl ?_
    refine r_aload_n E (x := q1) (i := 1) (j := 1) dX1_put_14 rfl rfl ?_
    refine gf_X1_236 E (x := gp s3 107 a6) dX1_put_15 e7 g8 rfl ?_
    refine cl_X1_261 E (m_X5_isRowFor hc12) dX1_put_18 ⟨Nat.le_of_ble_eq_true rfl, Nat.le_of_ble_eq_true rfl⟩ ⟨by first | decide | omega | (dsimp only; omega), by first | decide | omega | (dsimp only; omega)⟩ (by decide) e10 g11 ?_
    refine r_if_ne E (tgt := 37) dX1_put_21 (by decide) (fun c15 => ?_) (fun c15 => ?_)
    · have h := iff' c15 h
      obtain ⟨g16, h⟩ := ck h
      obtain ⟨a17, e18, h⟩ := nn h
      obtain ⟨g19, h⟩ := ck h
      obtain ⟨a20, e21, h⟩ := nn h
      obtain ⟨g22, h⟩ := ck h
      obtain ⟨a23, e24, h⟩ := nn h
      obtain ⟨g25, h⟩ := ck h
      obtain ⟨g26, h⟩ := ck h
      obtain ⟨g27, h⟩ := ck h
      obtain ⟨rfl, rfl⟩ := lf2 h
      refine r_aload_n E (x := q1) (i := 1) (j := 1) dX1_put_37 rfl rfl ?_
      refine gf_X1_166 E (x := gp s13 105 a6) dX1_put_38 e7 g16 rfl ?_
      refine gf_X1_255 E (x := gp s13 606 a17) dX1_put_41 e18 g19 rfl ?_
      refine r_aload_n E (x := q1) (i := 1) (j := 1) dX1_put_44 rfl rfl ?_
      refine gf_X1_197 E (x := gp s13 106 a6) dX1_put_45 e7 g16 rfl ?_
      refine gf_X1_173 E (x := gj s13 602 a20) dX1_put_48 e21 g22 rfl ?_
      refine r_l2i E dX1_put_51 ?_
      refine r_aload_n E (x := q1) (i := 1) (j := 1) dX1_put_52 rfl rfl ?_
      refine gf_X1_236 E (x := gp s13 107 a6) dX1_put_53 e7 g16 rfl ?_
      refine r_aastX E dX1_put_56 e24 g25 g26 g27 ?_
      refine r_aload_n E (x := q1) (i := 1) (j := 1) dX1_put_57 rfl rfl ?_
      refine gf_X1_236 E (x := gp s13 107 a6) dX1_put_58 e7 g16 rfl ?_
      exact r_aret E dX1_put_61 (Or.inl ⟨_, rfl⟩)
    · have h := ift c15 h
      obtain ⟨g28, h⟩ := ck h
      obtain ⟨a29, e30, h⟩ := nn h
      obtain ⟨g31, h⟩ := ck h
      obtain ⟨g32, h⟩ := ck h
      obtain ⟨r35, s34, hc33, h⟩ := nb2 h
      obtain ⟨rfl, rfl⟩ := lf2 h
      refine r_aload_n E (x := some h0) (i := 0) (j := 0) dX1_put_24 rfl rfl ?_
      refine r_aload_n E (x := q1) (i := 1) (j := 1) dX1_put_25 rfl rfl ?_
      refine gf_X1_139 E (x := gp s13 103 a6) dX1_put_26 e7 g28 rfl ?_
      refine gf_X1_120 E (x := gi s13 400 a29) dX1_put_29 e30 g31 rfl ?_
      refine r_iconst E dX1_put_32 (v := 4) (by decide) ?_
      refine cl_X1_85 E (m_X1_failAt hc33) dX1_put_33 ⟨Nat.le_of_ble_eq_true rfl, Nat.le_of_ble_eq_true rfl⟩ ⟨by first | decide | omega | (dsimp only; omega), by first | decide | omega | (dsimp only; omega)⟩ (by decide) rfl g32 ?_
      exact r_aret E dX1_put_36 (Or.inl ⟨_, rfl⟩)
  · have h := iff' c5 h
    obtain ⟨rfl, rfl⟩ := lf2 h
    refine r_null E dX1_put_8 ?_
    exact r_aret E dX1_put_9 (Or.inl ⟨_, rfl⟩)
def ex_X1_at (d : Dp) (σ : Sg) (h0 : Nat) (q1 : Option Nat) : Option (Option Nat × Sg) := (if gc σ h0 = 3 then (b2 (ex_X1_lacksPlace d σ h0 q1) fun r4 s3 => (if r4 = (0 : Int32) then (Option.bind q1 fun a6 => (if gc s3 a6 = 2 then (Option.bind (gp s3 105 a6) fun a9 => (if gc s3 a9 = 7 then (Option.bind (gp s3 106 a6) fun a12 => (if gc s3 a12 = 7 then (Option.bind (gp s3 606 a9) fun a15 => (if gc s3 a15 = 12 then (if ¬ ((Int64.toInt32 (gj s3 602 a12)) < 0 ∨ gl s3 a15 ≤ Int32.toNatClampNeg (Int64.toInt32 (gj s3 602 a12))) then some (ap s3 a15 (Int32.toNatClampNeg (Int64.toInt32 (gj s3 602 a12))), s3) else none) else none)) else none)) else none)) else none)) else some (none, s3))) else none)
set_option maxHeartbeats 4000000 in
set_option maxRecDepth 20000 in
theorem m_X1_at {l : Launch} {d : Dp} {σ σ' : Sg} {h0 : Nat} {q1 : Option Nat} {r : Option Nat} (h : ex_X1_at d σ h0 q1 = some (r, σ')) : Mt l d yX1_at cX1_at 2 (some (.object "FrameTalk$Thing")) 3 66 σ [.ref h0, va_rf (q1)] (some (va_rf r)) σ' 0 0 := by
  refine mt_start (own := RX1) (lv0 := [(0, va_rf (some h0)), (1, va_rf (q1))]) (by decide) rfl (by simp only [lg_sl, List.flatMap_cons, List.flatMap_nil, va_rf_cat]; exact Nat.le_of_ble_eq_true rfl) (by first | rfl | (simp only [lv_args, va_rf_cat]; rfl)) ?_
  intro p e s m args below meth c E hnm
  unfold ex_X1_at at h
  obtain ⟨g1, h⟩ := ck h
  obtain ⟨r4, s3, hc2, h⟩ := nb2 h
  refine r_aload_n E (x := some h0) (i := 0) (j := 0) dX1_at_0 rfl rfl ?_
  refine r_aload_n E (x := q1) (i := 1) (j := 1) dX1_at_1 rfl rfl ?_
  refine cl_X1_258 E (m_X1_lacksPlace hc2) dX1_at_2 ⟨Nat.le_of_ble_eq_true rfl, Nat.le_of_ble_eq_true rfl⟩ ⟨by first | decide | omega | (dsimp only; omega), by first | decide | omega | (dsimp only; omega)⟩ (by decide) rfl g1 ?_
  refine r_if_eq E (tgt := 12) dX1_at_5 (by decide) (fun c5 => ?_) (fun c5 => ?_)
  · have h := ift c5 h
    obtain ⟨a6, e7, h⟩ := nn h
    obtain ⟨g8, h⟩ := ck h
    obtain ⟨a9, e10, h⟩ := nn h
    obtain ⟨g11, h⟩ := ck h
    obtain ⟨a12, e13, h⟩ := nn h
    obtain ⟨g14, h⟩ := ck h
    obtain ⟨a15, e16, h⟩ := nn h
    obtain ⟨g17, h⟩ := ck h
    obtain ⟨g18, h⟩ := ck h
    obtain ⟨rfl, rfl⟩ := lf2 h
    refine r_aload_n E (x := q1) (i := 1) (j := 1) dX1_at_12 rfl rfl ?_
    refine gf_X1_166 E (x := gp s3 105 a6) dX1_at_13 e7 g8 rfl ?_
    refine gf_X1_255 E (x := gp s3 606 a9) dX1_at_16 e10 g11 rfl ?_
    refine r_aload_n E (x := q1) (i := 1) (j := 1) dX1_at_19 rfl rfl ?_
    refine gf_X1_197 E (x := gp s3 106 a6) dX1_at_20 e7 g8 rfl ?_
    refine gf_X1_173 E (x := gj s3 602 a12) dX1_at_23 e13 g14 rfl ?_
    refine r_l2i E dX1_at_26 ?_
    refine r_aaldT E dX1_at_27 e16 g17 g18 ?_
    exact r_aret E dX1_at_28 (Or.inl ⟨_, rfl⟩)
  · have h := iff' c5 h
    obtain ⟨rfl, rfl⟩ := lf2 h
    refine r_null E dX1_at_8 ?_
    refine r_goto E (tgt := 28) dX1_at_9 (by decide) ?_
    exact r_aret E dX1_at_28 (Or.inl ⟨_, rfl⟩)
def ex_X1_size (d : Dp) (σ : Sg) (h0 : Nat) (q1 : Option Nat) : Option (Option Nat × Sg × Nat × Nat) := (Option.bind q1 fun a1 => (if gc σ a1 = 2 then (if gc σ h0 = 3 then (b2 (ex_X1_lacks d σ h0 q1 (gp σ 105 a1) (5 : Int32)) fun r7 s6 => (if r7 = (0 : Int32) then (if gc s6 a1 = 2 then (Option.bind (gp s6 105 a1) fun a10 => (if gc s6 a10 = 7 then (if (gp s6 606 a10) = none then (Option.bind (gp s6 103 a1) fun a26 => (if gc s6 a26 = 5 then (if gc s6 h0 = 3 then (b2 (ex_X1_failAt d s6 h0 (gi s6 400 a26) (1 : Int32)) fun r32 s31 => some (r32, s31, 0, 0)) else none) else none)) else (if gc s6 h0 = 3 then (Option.bind (gp s6 606 a10) fun a15 => (if gc s6 a15 = 12 then (Option.bind (gp s6 201 h0) fun a18 => (if gc s6 a18 = 4 then (b4 (ex_X2_withValue d s6 a18 (1 : Int32) (Int32.toInt64 (Int32.ofNat (gl s6 a15)))) fun r23 s22 k24 n25 => some (r23, s22, 0 + k24, 0 + n25)) else none)) else none)) else none)) else none)) else none) else some (none, s6, 0, 0))) else none) else none))
set_option maxHeartbeats 4000000 in
set_option maxRecDepth 20000 in
theorem m_X1_size {l : Launch} {d : Dp} {σ σ' : Sg} {h0 : Nat} {q1 : Option Nat} {r : Option Nat} {kF nF : Nat} (h : ex_X1_size d σ h0 q1 = some (r, σ', kF, nF)) : Mt l d yX1_size cX1_size 2 (some (.object "FrameTalk$Thing")) 3 66 σ [.ref h0, va_rf (q1)] (some (va_rf r)) σ' kF nF := by
  refine mt_start (own := RX1) (lv0 := [(0, va_rf (some h0)), (1, va_rf (q1))]) (by decide) rfl (by simp only [lg_sl, List.flatMap_cons, List.flatMap_nil, va_rf_cat]; exact Nat.le_of_ble_eq_true rfl) (by first | rfl | (simp only [lv_args, va_rf_cat]; rfl)) ?_
  intro p e s m args below meth c E hnm
  unfold ex_X1_size at h
  obtain ⟨a1, e2, h⟩ := nn h
  obtain ⟨g3, h⟩ := ck h
  obtain ⟨g4, h⟩ := ck h
  obtain ⟨r7, s6, hc5, h⟩ := nb2 h
  refine r_aload_n E (x := some h0) (i := 0) (j := 0) dX1_size_0 rfl rfl ?_
  refine r_aload_n E (x := q1) (i := 1) (j := 1) dX1_size_1 rfl rfl ?_
  refine r_aload_n E (x := q1) (i := 1) (j := 1) dX1_size_2 rfl rfl ?_
  refine gf_X1_166 E (x := gp σ 105 a1) dX1_size_3 e2 g3 rfl ?_
  refine r_iconst E dX1_size_6 (v := 5) (by decide) ?_
  refine cl_X1_169 E (m_X1_lacks hc5) dX1_size_7 ⟨Nat.le_of_ble_eq_true rfl, Nat.le_of_ble_eq_true rfl⟩ ⟨by first | decide | omega | (dsimp only; omega), by first | decide | omega | (dsimp only; omega)⟩ (by decide) rfl g4 ?_
  refine r_if_eq E (tgt := 15) dX1_size_10 (by decide) (fun c8 => ?_) (fun c8 => ?_)
  · have h := ift c8 h
    obtain ⟨g9, h⟩ := ck h
    obtain ⟨a10, e11, h⟩ := nn h
    obtain ⟨g12, h⟩ := ck h
    refine r_aload_n E (x := q1) (i := 1) (j := 1) dX1_size_15 rfl rfl ?_
    refine gf_X1_166 E (x := gp s6 105 a1) dX1_size_16 e2 g9 rfl ?_
    refine gf_X1_255 E (x := gp s6 606 a10) dX1_size_19 e11 g12 rfl ?_
    refine r_ifnonnull E (o := gp s6 606 a10) (tgt := 38) dX1_size_22 (by decide) (fun c13 => ?_) (fun c13 => ?_)
    · have h := iff' c13 h
      obtain ⟨g14, h⟩ := ck h
      obtain ⟨a15, e16, h⟩ := nn h
      obtain ⟨g17, h⟩ := ck h
      obtain ⟨a18, e19, h⟩ := nn h
      obtain ⟨g20, h⟩ := ck h
      obtain ⟨r23, s22, k24, n25, hc21, h⟩ := nb4 h
      obtain ⟨rfl, rfl, rfl, rfl⟩ := lf4 h
      refine r_aload_n E (x := some h0) (i := 0) (j := 0) dX1_size_38 rfl rfl ?_
      refine gf_X1_21 E (x := gp s6 201 h0) dX1_size_39 rfl g14 rfl ?_
      refine r_iconst E dX1_size_42 (v := 1) (by decide) ?_
      refine r_aload_n E (x := q1) (i := 1) (j := 1) dX1_size_43 rfl rfl ?_
      refine gf_X1_166 E (x := gp s6 105 a1) dX1_size_44 e2 g9 rfl ?_
      refine gf_X1_255 E (x := gp s6 606 a10) dX1_size_47 e11 g12 rfl ?_
      refine r_alenT E dX1_size_50 e16 g17 ?_
      refine r_i2l E dX1_size_51 ?_
      refine cl_X1_184 E (m_X2_withValue hc21) dX1_size_52 ⟨Nat.le_of_ble_eq_true rfl, Nat.le_of_ble_eq_true rfl⟩ ⟨by first | decide | omega | (dsimp only; omega), by first | decide | omega | (dsimp only; omega)⟩ (by decide) e19 g20 ?_
      exact r_aret E dX1_size_55 (Or.inl ⟨_, rfl⟩)
    · have h := ift c13 h
      obtain ⟨a26, e27, h⟩ := nn h
      obtain ⟨g28, h⟩ := ck h
      obtain ⟨g29, h⟩ := ck h
      obtain ⟨r32, s31, hc30, h⟩ := nb2 h
      obtain ⟨rfl, rfl, rfl, rfl⟩ := lf4 h
      refine r_aload_n E (x := some h0) (i := 0) (j := 0) dX1_size_25 rfl rfl ?_
      refine r_aload_n E (x := q1) (i := 1) (j := 1) dX1_size_26 rfl rfl ?_
      refine gf_X1_139 E (x := gp s6 103 a1) dX1_size_27 e2 g9 rfl ?_
      refine gf_X1_120 E (x := gi s6 400 a26) dX1_size_30 e27 g28 rfl ?_
      refine r_iconst E dX1_size_33 (v := 1) (by decide) ?_
      refine cl_X1_85 E (m_X1_failAt hc30) dX1_size_34 ⟨Nat.le_of_ble_eq_true rfl, Nat.le_of_ble_eq_true rfl⟩ ⟨by first | decide | omega | (dsimp only; omega), by first | decide | omega | (dsimp only; omega)⟩ (by decide) rfl g29 ?_
      exact r_aret E dX1_size_37 (Or.inl ⟨_, rfl⟩)
  · have h := iff' c8 h
    obtain ⟨rfl, rfl, rfl, rfl⟩ := lf4 h
    refine r_null E dX1_size_13 ?_
    exact r_aret E dX1_size_14 (Or.inl ⟨_, rfl⟩)
