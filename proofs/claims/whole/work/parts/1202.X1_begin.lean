def ex_X1_begin (d : Dp) (σ : Sg) (h0 : Nat) (q1 : Option Nat) (p2 : Int32) : Option (Unit × Sg × Nat × Nat) := (if gc σ h0 = 3 then (b2 (ex_X1_clearFault d (si (si (si σ 208 h0 (if ((50000 : Int32) - (gi σ 207 h0)) < p2 then ((50000 : Int32) - (gi σ 207 h0)) else p2)) 210 h0 (0 : Int32)) 209 h0 (0 : Int32)) h0) fun r4 s3 => (if gc s3 h0 = 3 then (Option.bind (gp s3 203 h0) fun a6 => (if gc s3 a6 = 2 then (b2 (ex_X0_begin d (sp s3 206 h0 none) a6 none) fun r11 s10 => (if gc s10 h0 = 3 then (if q1 = none then (b2 (ex_X1_failAt d (sp s10 204 h0 (gp s10 203 h0)) h0 (-1 : Int32) (1 : Int32)) fun r21 s20 => some ((), s20, 0, 0)) else (b4 (ex_X1_open d (sp s10 204 h0 (gp s10 203 h0)) h0 q1) fun r16 s15 k17 n18 => some ((), s15, 0 + k17, 0 + n18))) else none)) else none)) else none)) else none)
set_option maxHeartbeats 4000000 in
set_option maxRecDepth 20000 in
theorem m_X1_begin {l : Launch} {d : Dp} {σ σ' : Sg} {h0 : Nat} {q1 : Option Nat} {p2 : Int32} {r : Unit} {kF nF : Nat} (h : ex_X1_begin d σ h0 q1 p2 = some (r, σ', kF, nF)) : Mt l d yX1_begin cX1_begin 3 none 4 83 σ [.ref h0, va_rf (q1), .int (p2)] none σ' kF nF := by
  refine mt_start (own := RX1) (lv0 := [(0, va_rf (some h0)), (1, va_rf (q1)), (2, .int (p2))]) (by decide) rfl (by simp only [lg_sl, List.flatMap_cons, List.flatMap_nil, va_rf_cat]; exact Nat.le_of_ble_eq_true rfl) (by first | rfl | (simp only [lv_args, va_rf_cat]; rfl)) ?_
  intro p e s m args below meth c E hnm
  unfold ex_X1_begin at h
  obtain ⟨g1, h⟩ := ck h
  obtain ⟨r4, s3, hc2, h⟩ := nb2 h
  obtain ⟨g5, h⟩ := ck h
  obtain ⟨a6, e7, h⟩ := nn h
  obtain ⟨g8, h⟩ := ck h
  obtain ⟨r11, s10, hc9, h⟩ := nb2 h
  obtain ⟨g12, h⟩ := ck h
  refine r_aload_n E (x := some h0) (i := 0) (j := 0) dX1_begin_0 rfl rfl ?_
  refine r_iload_n E (i := 2) (j := 2) dX1_begin_1 rfl rfl ?_
  refine r_ldc E dX1_begin_2 (v := 50000) wm_2_93 ?_
  refine r_aload_n E (x := some h0) (i := 0) (j := 0) dX1_begin_4 rfl rfl ?_
  refine gf_X1_59 E (x := gi σ 207 h0) dX1_begin_5 rfl g1 rfl ?_
  refine r_isub E dX1_begin_8 ?_
  refine r_mmin E dX1_begin_9 wm_2_94 wm_2_34 wm_1_12 wm_2_35 ⟨Nat.le_of_ble_eq_true rfl, Nat.le_of_ble_eq_true rfl⟩ (by simp only [List.map_cons, List.map_nil, va_rf_cat]; exact Nat.le_of_ble_eq_true rfl) (by first | decide | omega | (dsimp only; omega)) (by first | decide | omega | (dsimp only; omega)) ?_
  refine pf_X1_68 E dX1_begin_12 rfl g1 ?_
  refine r_aload_n E (x := some h0) (i := 0) (j := 0) dX1_begin_15 rfl rfl ?_
  refine r_iconst E dX1_begin_16 (v := 0) (by decide) ?_
  refine pf_X1_71 E dX1_begin_17 rfl g1 ?_
  refine r_aload_n E (x := some h0) (i := 0) (j := 0) dX1_begin_20 rfl rfl ?_
  refine r_iconst E dX1_begin_21 (v := 0) (by decide) ?_
  refine pf_X1_74 E dX1_begin_22 rfl g1 ⟨by decide, by decide⟩ ?_
  refine r_aload_n E (x := some h0) (i := 0) (j := 0) dX1_begin_25 rfl rfl ?_
  refine cl_X1_78 E (m_X1_clearFault hc2) dX1_begin_26 ⟨Nat.le_of_ble_eq_true rfl, Nat.le_of_ble_eq_true rfl⟩ ⟨by first | decide | omega | (dsimp only; omega), by first | decide | omega | (dsimp only; omega)⟩ (by decide) rfl g1 ?_
  refine r_aload_n E (x := some h0) (i := 0) (j := 0) dX1_begin_29 rfl rfl ?_
  refine r_null E dX1_begin_30 ?_
  refine pf_X1_51 E dX1_begin_31 rfl g5 ?_
  refine r_aload_n E (x := some h0) (i := 0) (j := 0) dX1_begin_34 rfl rfl ?_
  refine gf_X1_36 E (x := gp s3 203 h0) dX1_begin_35 rfl g5 rfl ?_
  refine r_null E dX1_begin_38 ?_
  refine cl_X1_81 E (m_X0_begin hc9) dX1_begin_39 ⟨Nat.le_of_ble_eq_true rfl, Nat.le_of_ble_eq_true rfl⟩ ⟨by first | decide | omega | (dsimp only; omega), by first | decide | omega | (dsimp only; omega)⟩ (by decide) e7 g8 ?_
  refine r_aload_n E (x := some h0) (i := 0) (j := 0) dX1_begin_42 rfl rfl ?_
  refine r_aload_n E (x := some h0) (i := 0) (j := 0) dX1_begin_43 rfl rfl ?_
  refine gf_X1_36 E (x := gp s10 203 h0) dX1_begin_44 rfl g12 rfl ?_
  refine pf_X1_40 E dX1_begin_47 rfl g12 ?_
  refine r_aload_n E (x := q1) (i := 1) (j := 1) dX1_begin_50 rfl rfl ?_
  refine r_ifnonnull E (o := q1) (tgt := 64) dX1_begin_51 (by decide) (fun c13 => ?_) (fun c13 => ?_)
  · have h := iff' c13 h
    obtain ⟨r16, s15, k17, n18, hc14, h⟩ := nb4 h
    obtain ⟨rfl, rfl, rfl, rfl⟩ := lf4 h
    refine r_aload_n E (x := some h0) (i := 0) (j := 0) dX1_begin_64 rfl rfl ?_
    refine r_aload_n E (x := q1) (i := 1) (j := 1) dX1_begin_65 rfl rfl ?_
    refine cl_X1_89 E (m_X1_open hc14) dX1_begin_66 ⟨Nat.le_of_ble_eq_true rfl, Nat.le_of_ble_eq_true rfl⟩ ⟨by first | decide | omega | (dsimp only; omega), by first | decide | omega | (dsimp only; omega)⟩ (by decide) rfl g12 ?_
    exact r_vret E dX1_begin_69
  · have h := ift c13 h
    obtain ⟨r21, s20, hc19, h⟩ := nb2 h
    obtain ⟨rfl, rfl, rfl, rfl⟩ := lf4 h
    refine r_aload_n E (x := some h0) (i := 0) (j := 0) dX1_begin_54 rfl rfl ?_
    refine r_iconst E dX1_begin_55 (v := -1) (by decide) ?_
    refine r_iconst E dX1_begin_56 (v := 1) (by decide) ?_
    refine cl_X1_85 E (m_X1_failAt hc19) dX1_begin_57 ⟨Nat.le_of_ble_eq_true rfl, Nat.le_of_ble_eq_true rfl⟩ ⟨by first | decide | omega | (dsimp only; omega), by first | decide | omega | (dsimp only; omega)⟩ (by decide) rfl g12 ?_
    refine r_pop E dX1_begin_60 (va_rf_cat _) ?_
    refine r_goto E (tgt := 69) dX1_begin_61 (by decide) ?_
    exact r_vret E dX1_begin_69
def ex_X1_isAtWork (d : Dp) (σ : Sg) (h0 : Nat) : Option (Int32 × Sg) := (if gc σ h0 = 3 then (Option.bind (gp σ 204 h0) fun a2 => (if gc σ a2 = 2 then (if (gi σ 101 a2) ≤ (0 : Int32) then some ((0 : Int32), σ) else (if (gi σ 209 h0) = (0 : Int32) then some ((1 : Int32), σ) else some ((0 : Int32), σ))) else none)) else none)
set_option maxHeartbeats 4000000 in
set_option maxRecDepth 20000 in
theorem m_X1_isAtWork {l : Launch} {d : Dp} {σ σ' : Sg} {h0 : Nat} {r : Int32} (h : ex_X1_isAtWork d σ h0 = some (r, σ')) : Mt l d yX1_isAtWork cX1_isAtWork 1 (some .boolean) 0 0 σ [.ref h0] (some (.int r)) σ' 0 0 := by
  refine mt_start (own := RX1) (lv0 := [(0, va_rf (some h0))]) (by decide) rfl (by simp only [lg_sl, List.flatMap_cons, List.flatMap_nil, va_rf_cat]; exact Nat.le_of_ble_eq_true rfl) (by first | rfl | (simp only [lv_args, va_rf_cat]; rfl)) ?_
  intro p e s m args below meth c E hnm
  unfold ex_X1_isAtWork at h
  obtain ⟨g1, h⟩ := ck h
  obtain ⟨a2, e3, h⟩ := nn h
  obtain ⟨g4, h⟩ := ck h
  refine r_aload_n E (x := some h0) (i := 0) (j := 0) dX1_isAtWork_0 rfl rfl ?_
  refine gf_X1_40 E (x := gp σ 204 h0) dX1_isAtWork_1 rfl g1 rfl ?_
  refine gf_X1_92 E (x := gi σ 101 a2) dX1_isAtWork_4 e3 g4 rfl ?_
  refine r_if_le E (tgt := 21) dX1_isAtWork_7 (by decide) (fun c5 => ?_) (fun c5 => ?_)
  · have h := ift c5 h
    obtain ⟨rfl, rfl⟩ := lf2 h
    refine r_iconst E dX1_isAtWork_21 (v := 0) (by decide) ?_
    exact r_zret E dX1_isAtWork_22 (by decide)
  · have h := iff' c5 h
    refine r_aload_n E (x := some h0) (i := 0) (j := 0) dX1_isAtWork_10 rfl rfl ?_
    refine gf_X1_74 E (x := gi σ 209 h0) dX1_isAtWork_11 rfl g1 rfl ?_
    refine r_if_ne E (tgt := 21) dX1_isAtWork_14 (by decide) (fun c6 => ?_) (fun c6 => ?_)
    · have h := iff' c6 h
      obtain ⟨rfl, rfl⟩ := lf2 h
      refine r_iconst E dX1_isAtWork_21 (v := 0) (by decide) ?_
      exact r_zret E dX1_isAtWork_22 (by decide)
    · have h := ift c6 h
      obtain ⟨rfl, rfl⟩ := lf2 h
      refine r_iconst E dX1_isAtWork_17 (v := 1) (by decide) ?_
      refine r_goto E (tgt := 22) dX1_isAtWork_18 (by decide) ?_
      exact r_zret E dX1_isAtWork_22 (by decide)
def ex_X3_get (d : Dp) (σ : Sg) (h0 : Nat) (p1 : Int32) : Option (Int32 × Sg) := (if p1 = 0 then (if gc σ h0 = 5 then some (gi σ 403 h0, σ) else none) else (if p1 = 1 then (if gc σ h0 = 5 then some (gi σ 404 h0, σ) else none) else (if gc σ h0 = 5 then some (gi σ 405 h0, σ) else none)))
set_option maxHeartbeats 4000000 in
set_option maxRecDepth 20000 in
theorem m_X3_get {l : Launch} {d : Dp} {σ σ' : Sg} {h0 : Nat} {p1 : Int32} {r : Int32} (h : ex_X3_get d σ h0 p1 = some (r, σ')) : Mt l d yX3_get cX3_get 2 (some .int) 0 0 σ [.ref h0, .int (p1)] (some (.int r)) σ' 0 0 := by
  refine mt_start (own := RX3) (lv0 := [(0, va_rf (some h0)), (1, .int (p1))]) (by decide) rfl (by simp only [lg_sl, List.flatMap_cons, List.flatMap_nil, va_rf_cat]; exact Nat.le_of_ble_eq_true rfl) (by first | rfl | (simp only [lv_args, va_rf_cat]; rfl)) ?_
  intro p e s m args below meth c E hnm
  unfold ex_X3_get at h
  refine r_iload_n E (i := 1) (j := 1) dX3_get_0 rfl rfl ?_
  by_cases c1 : p1 = 0
  · have h := ift c1 h
    obtain ⟨g2, h⟩ := ck h
    obtain ⟨rfl, rfl⟩ := lf2 h
    refine r_look E (off := 27) (tgt := 28) dX3_get_1 (by decide) (by rw [c1]; decide) (by decide) ?_
    refine r_aload_n E (x := some h0) (i := 0) (j := 0) dX3_get_28 rfl rfl ?_
    refine gf_X3_11 E (x := gi σ 403 h0) dX3_get_29 rfl g2 rfl ?_
    exact r_iret E dX3_get_32
  · have h := iff' c1 h
    by_cases c3 : p1 = 1
    · have h := ift c3 h
      obtain ⟨g4, h⟩ := ck h
      obtain ⟨rfl, rfl⟩ := lf2 h
      refine r_look E (off := 32) (tgt := 33) dX3_get_1 (by decide) (by rw [c3]; decide) (by decide) ?_
      refine r_aload_n E (x := some h0) (i := 0) (j := 0) dX3_get_33 rfl rfl ?_
      refine gf_X3_15 E (x := gi σ 404 h0) dX3_get_34 rfl g4 rfl ?_
      exact r_iret E dX3_get_37
    · have h := iff' c3 h
      obtain ⟨g5, h⟩ := ck h
      obtain ⟨rfl, rfl⟩ := lf2 h
      refine r_look E (off := 37) (tgt := 38) dX3_get_1 (by decide) ((lv_osw (k := 0) c1 (by decide)).trans ((lv_osw (k := 1) c3 (by decide)).trans rfl)) (by decide) ?_
      refine r_aload_n E (x := some h0) (i := 0) (j := 0) dX3_get_38 rfl rfl ?_
      refine gf_X3_18 E (x := gi σ 405 h0) dX3_get_39 rfl g5 rfl ?_
      exact r_iret E dX3_get_42
def ex_X1_takesFault (d : Dp) (σ : Sg) (h0 : Nat) (q1 : Option Nat) : Option (Int32 × Sg) := (Option.bind q1 fun a1 => (if gc σ a1 = 2 then (Option.bind (gp σ 103 a1) fun a4 => (if gc σ a4 = 5 then (if (gi σ 401 a4) = (15 : Int32) then (if (gi σ 104 a1) = (0 : Int32) then (b2 (ex_X3_get d σ a4 (1 : Int32)) fun r11 s10 => (if r11 = (0 : Int32) then some ((1 : Int32), s10) else (if gc s10 h0 = 3 then (if r11 = (gi s10 211 h0) then some ((1 : Int32), s10) else some ((0 : Int32), s10)) else none))) else some ((0 : Int32), σ)) else some ((0 : Int32), σ)) else none)) else none))
set_option maxHeartbeats 4000000 in
set_option maxRecDepth 20000 in
theorem m_X1_takesFault {l : Launch} {d : Dp} {σ σ' : Sg} {h0 : Nat} {q1 : Option Nat} {r : Int32} (h : ex_X1_takesFault d σ h0 q1 = some (r, σ')) : Mt l d yX1_takesFault cX1_takesFault 3 (some .boolean) 1 21 σ [.ref h0, va_rf (q1)] (some (.int r)) σ' 0 0 := by
  refine mt_start (own := RX1) (lv0 := [(0, va_rf (some h0)), (1, va_rf (q1))]) (by decide) rfl (by simp only [lg_sl, List.flatMap_cons, List.flatMap_nil, va_rf_cat]; exact Nat.le_of_ble_eq_true rfl) (by first | rfl | (simp only [lv_args, va_rf_cat]; rfl)) ?_
  intro p e s m args below meth c E hnm
  unfold ex_X1_takesFault at h
  obtain ⟨a1, e2, h⟩ := nn h
  obtain ⟨g3, h⟩ := ck h
  obtain ⟨a4, e5, h⟩ := nn h
  obtain ⟨g6, h⟩ := ck h
  refine r_aload_n E (x := q1) (i := 1) (j := 1) dX1_takesFault_0 rfl rfl ?_
  refine gf_X1_139 E (x := gp σ 103 a1) dX1_takesFault_1 e2 g3 rfl ?_
  refine gf_X1_151 E (x := gi σ 401 a4) dX1_takesFault_4 e5 g6 rfl ?_
  refine r_bipush E dX1_takesFault_7 (v := 15) (by decide) ?_
  refine r_icmp_ne E (tgt := 19) dX1_takesFault_9 (by decide) (fun c7 => ?_) (fun c7 => ?_)
  · have h := iff' c7 h
    obtain ⟨rfl, rfl⟩ := lf2 h
    refine r_iconst E dX1_takesFault_19 (v := 0) (by decide) ?_
    exact r_zret E dX1_takesFault_20 (by decide)
  · have h := ift c7 h
    refine r_aload_n E (x := q1) (i := 1) (j := 1) dX1_takesFault_12 rfl rfl ?_
    refine gf_X1_136 E (x := gi σ 104 a1) dX1_takesFault_13 e2 g3 rfl ?_
    refine r_if_eq E (tgt := 21) dX1_takesFault_16 (by decide) (fun c8 => ?_) (fun c8 => ?_)
    · have h := ift c8 h
      obtain ⟨r11, s10, hc9, h⟩ := nb2 h
      refine r_aload_n E (x := q1) (i := 1) (j := 1) dX1_takesFault_21 rfl rfl ?_
      refine gf_X1_139 E (x := gp σ 103 a1) dX1_takesFault_22 e2 g3 rfl ?_
      refine r_iconst E dX1_takesFault_25 (v := 1) (by decide) ?_
      refine cl_X1_143 E (m_X3_get hc9) dX1_takesFault_26 ⟨Nat.le_of_ble_eq_true rfl, Nat.le_of_ble_eq_true rfl⟩ ⟨by first | decide | omega | (dsimp only; omega), by first | decide | omega | (dsimp only; omega)⟩ (by decide) e5 g6 ?_
      refine r_istore_n E (i := 2) (lv' := [(2, .int (r11)), (0, va_rf (some h0)), (1, va_rf (q1))]) dX1_takesFault_29 rfl (by decide) (by first | rfl | (simp only [List.filter_cons, List.filter_nil, va_rf_cat]; rfl)) ?_
      refine r_iload_n E (i := 2) (j := 0) dX1_takesFault_30 rfl rfl ?_
      refine r_if_eq E (tgt := 42) dX1_takesFault_31 (by decide) (fun c12 => ?_) (fun c12 => ?_)
      · have h := ift c12 h
        obtain ⟨rfl, rfl⟩ := lf2 h
        refine r_iconst E dX1_takesFault_42 (v := 1) (by decide) ?_
        refine r_goto E (tgt := 47) dX1_takesFault_43 (by decide) ?_
        exact r_zret E dX1_takesFault_47 (by decide)
      · have h := iff' c12 h
        obtain ⟨g13, h⟩ := ck h
        refine r_iload_n E (i := 2) (j := 0) dX1_takesFault_34 rfl rfl ?_
        refine r_aload_n E (x := some h0) (i := 0) (j := 1) dX1_takesFault_35 rfl rfl ?_
        refine gf_X1_95 E (x := gi s10 211 h0) dX1_takesFault_36 rfl g13 rfl ?_
        refine r_icmp_ne E (tgt := 46) dX1_takesFault_39 (by decide) (fun c14 => ?_) (fun c14 => ?_)
        · have h := iff' c14 h
          obtain ⟨rfl, rfl⟩ := lf2 h
          refine r_iconst E dX1_takesFault_46 (v := 0) (by decide) ?_
          exact r_zret E dX1_takesFault_47 (by decide)
        · have h := ift c14 h
          obtain ⟨rfl, rfl⟩ := lf2 h
          refine r_iconst E dX1_takesFault_42 (v := 1) (by decide) ?_
          refine r_goto E (tgt := 47) dX1_takesFault_43 (by decide) ?_
          exact r_zret E dX1_takesFault_47 (by decide)
    · have h := iff' c8 h
      obtain ⟨rfl, rfl⟩ := lf2 h
      refine r_iconst E dX1_takesFault_19 (v := 0) (by decide) ?_
      exact r_zret E dX1_takesFault_20 (by decide)
def ex_X5_init (d : Dp) (σ : Sg) (h0 : Nat) (p1 : Int32) (p2 : Int32) : Option (Unit × Sg) := (if gc σ h0 = 7 then some ((), (si (si σ 600 h0 p1) 601 h0 p2)) else none)
set_option maxHeartbeats 4000000 in
set_option maxRecDepth 20000 in
theorem m_X5_init {l : Launch} {d : Dp} {σ σ' : Sg} {h0 : Nat} {p1 : Int32} {p2 : Int32} {r : Unit} (h : ex_X5_init d σ h0 p1 p2 = some (r, σ')) : Mt l d yX5_init cX5_init 3 none 1 20 σ [.ref h0, .int (p1), .int (p2)] none σ' 0 0 := by
  refine mt_start (own := RX5) (lv0 := [(0, va_rf (some h0)), (1, .int (p1)), (2, .int (p2))]) (by decide) rfl (by simp only [lg_sl, List.flatMap_cons, List.flatMap_nil, va_rf_cat]; exact Nat.le_of_ble_eq_true rfl) (by first | rfl | (simp only [lv_args, va_rf_cat]; rfl)) ?_
  intro p e s m args below meth c E hnm
  unfold ex_X5_init at h
  obtain ⟨g1, h⟩ := ck h
  obtain ⟨rfl, rfl⟩ := lf2 h
  refine r_aload_n E (x := some h0) (i := 0) (j := 0) dX5_init_0 rfl rfl ?_
  refine r_objInit E dX5_init_1 wm_2_147 wm_1_24 wm_1_25 rfl ⟨Nat.le_of_ble_eq_true rfl, Nat.le_of_ble_eq_true rfl⟩ ?_
  refine r_aload_n E (x := some h0) (i := 0) (j := 0) dX5_init_4 rfl rfl ?_
  refine r_iload_n E (i := 1) (j := 1) dX5_init_5 rfl rfl ?_
  refine pf_X5_9 E hnm dX5_init_6 rfl g1 ?_
  refine r_aload_n E (x := some h0) (i := 0) (j := 0) dX5_init_9 rfl rfl ?_
  refine r_iload_n E (i := 2) (j := 2) dX5_init_10 rfl rfl ?_
  refine pf_X5_15 E hnm dX5_init_11 rfl g1 ?_
  exact r_vret E dX5_init_14
def ex_X2_withValue (d : Dp) (σ : Sg) (h0 : Nat) (p1 : Int32) (p2 : Int64) : Option (Option Nat × Sg × Nat × Nat) := (if gc (nw σ 7) h0 = 4 then (b2 (ex_X5_init d (si (nw σ 7) 300 h0 ((gi (nw σ 7) 300 h0) + (1 : Int32))) (hs σ) (gi (nw σ 7) 300 h0) p1) fun r4 s3 => (if gc s3 (hs σ) = 7 then some (some (hs σ), (sj s3 602 (hs σ) p2), 0 + 1, 0 + 7) else none)) else none)
set_option maxHeartbeats 4000000 in
set_option maxRecDepth 20000 in
theorem m_X2_withValue {l : Launch} {d : Dp} {σ σ' : Sg} {h0 : Nat} {p1 : Int32} {p2 : Int64} {r : Option Nat} {kF nF : Nat} (h : ex_X2_withValue d σ h0 p1 p2 = some (r, σ', kF, nF)) : Mt l d yX2_withValue cX2_withValue 5 (some (.object "FrameTalk$Thing")) 2 42 σ [.ref h0, .int (p1), .long (p2)] (some (va_rf r)) σ' kF nF := by
  refine mt_start (own := RX2) (lv0 := [(0, va_rf (some h0)), (1, .int (p1)), (2, .long (p2))]) (by decide) rfl (by simp only [lg_sl, List.flatMap_cons, List.flatMap_nil, va_rf_cat]; exact Nat.le_of_ble_eq_true rfl) (by first | rfl | (simp only [lv_args, va_rf_cat]; rfl)) ?_
  intro p e s m args below meth c E hnm
  unfold ex_X2_withValue at h
  obtain ⟨g1, h⟩ := ck h
  obtain ⟨r4, s3, hc2, h⟩ := nb2 h
  obtain ⟨g5, h⟩ := ck h
  obtain ⟨rfl, rfl, rfl, rfl⟩ := lf4 h
  refine nw_X2_7 E dX2_withValue_0 ⟨by first | decide | omega | (dsimp only; omega), by first | decide | omega | (dsimp only; omega)⟩ ?_
  refine r_dup E dX2_withValue_3 (va_rf_cat _) ?_
  refine r_aload_n E (x := some h0) (i := 0) (j := 0) dX2_withValue_4 rfl rfl ?_
  refine r_dup E dX2_withValue_5 (va_rf_cat _) ?_
  refine gf_X2_9 E (x := gi (nw σ 7) 300 h0) dX2_withValue_6 rfl g1 rfl ?_
  refine r_dup_x1 E dX2_withValue_9 rfl (va_rf_cat _) ?_
  refine r_iconst E dX2_withValue_10 (v := 1) (by decide) ?_
  refine r_iadd E dX2_withValue_11 ?_
  refine pf_X2_9 E dX2_withValue_12 rfl g1 ?_
  refine r_iload_n E (i := 1) (j := 1) dX2_withValue_15 rfl rfl ?_
  refine cl_X2_15 E (m_X5_init hc2) dX2_withValue_16 ⟨Nat.le_of_ble_eq_true rfl, Nat.le_of_ble_eq_true rfl⟩ ⟨by first | decide | omega | (dsimp only; omega), by first | decide | omega | (dsimp only; omega)⟩ (by simp only [List.map_cons, List.map_nil, va_rf_cat]; exact Nat.le_of_ble_eq_true rfl) rfl ?_
  refine r_astore E (lv' := [(4, va_rf (some (hs σ))), (0, va_rf (some h0)), (1, .int (p1)), (2, .long (p2))]) dX2_withValue_19 (by decide) (by first | rfl | (simp only [List.filter_cons, List.filter_nil, va_rf_cat]; rfl)) ?_
  refine r_aload E (x := some (hs σ)) (j := 0) dX2_withValue_21 rfl ?_
  refine r_lload_n E (i := 2) (j := 3) dX2_withValue_23 rfl rfl ?_
  refine pf_X2_18 E dX2_withValue_24 rfl g5 ?_
  refine r_aload E (x := some (hs σ)) (j := 0) dX2_withValue_27 rfl ?_
  exact r_aret E dX2_withValue_29 (Or.inl ⟨_, rfl⟩)
def ex_Jx4a65c_size_8abf5 (d : Dp) (σ : Sg) (h0 : Nat) : Option (Int32 × Sg) := (if gc σ h0 = 1 then some (gi σ 2 h0, σ) else none)
set_option maxHeartbeats 4000000 in
set_option maxRecDepth 20000 in
theorem m_Jx4a65c_size_8abf5 {l : Launch} {d : Dp} {σ σ' : Sg} {h0 : Nat} {r : Int32} (h : ex_Jx4a65c_size_8abf5 d σ h0 = some (r, σ')) : Mt l d yJx4a65c_size_8abf5 cJx4a65c_size_8abf5 1 (some .int) 0 0 σ [.ref h0] (some (.int r)) σ' 0 0 := by
  refine mt_start (own := RJx4a65c) (lv0 := [(0, va_rf (some h0))]) (by decide) rfl (by simp only [lg_sl, List.flatMap_cons, List.flatMap_nil, va_rf_cat]; exact Nat.le_of_ble_eq_true rfl) (by first | rfl | (simp only [lv_args, va_rf_cat]; rfl)) ?_
  intro p e s m args below meth c E hnm
  unfold ex_Jx4a65c_size_8abf5 at h
  obtain ⟨g1, h⟩ := ck h
  obtain ⟨rfl, rfl⟩ := lf2 h
  refine r_aload_n E (x := some h0) (i := 0) (j := 0) dJx4a65c_size_8abf5_0 rfl rfl ?_
  refine gf_Jx4a65c_48 E (x := gi σ 2 h0) dJx4a65c_size_8abf5_1 rfl g1 rfl ?_
  exact r_iret E dJx4a65c_size_8abf5_4
