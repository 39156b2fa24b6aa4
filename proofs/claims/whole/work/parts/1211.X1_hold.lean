def ex_X1_hold (d : Dp) (σ : Sg) (h0 : Nat) (q1 : Option Nat) : Option (Option Nat × Sg × Nat × Nat) := (Option.bind q1 fun a1 => (if gc σ a1 = 2 then (if gc σ h0 = 3 then (b2 (ex_X1_lacks d σ h0 q1 (gp σ 105 a1) (1 : Int32)) fun r7 s6 => (if r7 = (0 : Int32) then (if gc s6 h0 = 3 then (if gc s6 a1 = 2 then (Option.bind (gp s6 105 a1) fun a11 => (if gc s6 a11 = 7 then (Option.bind (gp s6 201 h0) fun a14 => (if gc s6 a14 = 4 then (b4 (ex_X2_withValue d s6 a14 (6 : Int32) (gj s6 602 a11)) fun r19 s18 k20 n21 => (if gc s18 h0 = 3 then some (gp (sp s18 205 h0 r19) 205 h0, (sp s18 205 h0 r19), 0 + k20, 0 + n21) else none)) else none)) else none)) else none) else none) else some (none, s6, 0, 0))) else none) else none))
set_option maxHeartbeats 4000000 in
set_option maxRecDepth 20000 in
theorem m_X1_hold {l : Launch} {d : Dp} {σ σ' : Sg} {h0 : Nat} {q1 : Option Nat} {r : Option Nat} {kF nF : Nat} (h : ex_X1_hold d σ h0 q1 = some (r, σ', kF, nF)) : Mt l d yX1_hold cX1_hold 2 (some (.object "FrameTalk$Thing")) 3 66 σ [.ref h0, va_rf (q1)] (some (va_rf r)) σ' kF nF := by
  refine mt_start (own := RX1) (lv0 := [(0, va_rf (some h0)), (1, va_rf (q1))]) (by decide) rfl (by simp only [lg_sl, List.flatMap_cons, List.flatMap_nil, va_rf_cat]; exact Nat.le_of_ble_eq_true rfl) (by first | rfl | (simp only [lv_args, va_rf_cat]; rfl)) ?_
  intro p e s m args below meth c E hnm
  unfold ex_X1_hold at h
  obtain ⟨a1, e2, h⟩ := nn h
  obtain ⟨g3, h⟩ := ck h
  obtain ⟨g4, h⟩ := ck h
  obtain ⟨r7, s6, hc5, h⟩ := nb2 h
  refine r_aload_n E (x := some h0) (i := 0) (j := 0) dX1_hold_0 rfl rfl ?_
  refine r_aload_n E (x := q1) (i := 1) (j := 1) dX1_hold_1 rfl rfl ?_
  refine r_aload_n E (x := q1) (i := 1) (j := 1) dX1_hold_2 rfl rfl ?_
  refine gf_X1_166 E (x := gp σ 105 a1) dX1_hold_3 e2 g3 rfl ?_
  refine r_iconst E dX1_hold_6 (v := 1) (by decide) ?_
  refine cl_X1_169 E (m_X1_lacks hc5) dX1_hold_7 ⟨Nat.le_of_ble_eq_true rfl, Nat.le_of_ble_eq_true rfl⟩ ⟨by first | decide | omega | (dsimp only; omega), by first | decide | omega | (dsimp only; omega)⟩ (by decide) rfl g4 ?_
  refine r_if_eq E (tgt := 15) dX1_hold_10 (by decide) (fun c8 => ?_) (fun c8 => ?_)
  · have h := ift c8 h
    obtain ⟨g9, h⟩ := ck h
    obtain ⟨g10, h⟩ := ck h
    obtain ⟨a11, e12, h⟩ := nn h
    obtain ⟨g13, h⟩ := ck h
    obtain ⟨a14, e15, h⟩ := nn h
    obtain ⟨g16, h⟩ := ck h
    obtain ⟨r19, s18, k20, n21, hc17, h⟩ := nb4 h
    obtain ⟨g22, h⟩ := ck h
    obtain ⟨rfl, rfl, rfl, rfl⟩ := lf4 h
    refine r_aload_n E (x := some h0) (i := 0) (j := 0) dX1_hold_15 rfl rfl ?_
    refine r_aload_n E (x := some h0) (i := 0) (j := 0) dX1_hold_16 rfl rfl ?_
    refine gf_X1_21 E (x := gp s6 201 h0) dX1_hold_17 rfl g9 rfl ?_
    refine r_bipush E dX1_hold_20 (v := 6) (by decide) ?_
    refine r_aload_n E (x := q1) (i := 1) (j := 1) dX1_hold_22 rfl rfl ?_
    refine gf_X1_166 E (x := gp s6 105 a1) dX1_hold_23 e2 g10 rfl ?_
    refine gf_X1_173 E (x := gj s6 602 a11) dX1_hold_26 e12 g13 rfl ?_
    refine cl_X1_184 E (m_X2_withValue hc17) dX1_hold_29 ⟨Nat.le_of_ble_eq_true rfl, Nat.le_of_ble_eq_true rfl⟩ ⟨by first | decide | omega | (dsimp only; omega), by first | decide | omega | (dsimp only; omega)⟩ (by simp only [List.map_cons, List.map_nil, va_rf_cat]; exact Nat.le_of_ble_eq_true rfl) e15 g16 ?_
    refine pf_X1_55 E dX1_hold_32 rfl g22 ?_
    refine r_aload_n E (x := some h0) (i := 0) (j := 0) dX1_hold_35 rfl rfl ?_
    refine gf_X1_55 E (x := gp (sp s18 205 h0 r19) 205 h0) dX1_hold_36 rfl g22 rfl ?_
    exact r_aret E dX1_hold_39 (Or.inl ⟨_, rfl⟩)
  · have h := iff' c8 h
    obtain ⟨rfl, rfl, rfl, rfl⟩ := lf4 h
    refine r_null E dX1_hold_13 ?_
    exact r_aret E dX1_hold_14 (Or.inl ⟨_, rfl⟩)
