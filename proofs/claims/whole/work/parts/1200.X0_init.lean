def ex_X0_init (d : Dp) (σ : Sg) (h0 : Nat) (q1 : Option Nat) (p2 : Int32) : Option (Unit × Sg) := (if gc σ h0 = 2 then some ((), (si (sp σ 100 h0 q1) 101 h0 p2)) else none)
set_option maxHeartbeats 4000000 in
set_option maxRecDepth 20000 in
theorem m_X0_init {l : Launch} {d : Dp} {σ σ' : Sg} {h0 : Nat} {q1 : Option Nat} {p2 : Int32} {r : Unit} (h : ex_X0_init d σ h0 q1 p2 = some (r, σ')) : Mt l d yX0_init cX0_init 3 none 1 20 σ [.ref h0, va_rf (q1), .int (p2)] none σ' 0 0 := by
  refine mt_start (own := RX0) (lv0 := [(0, va_rf (some h0)), (1, va_rf (q1)), (2, .int (p2))]) (by decide) rfl (by simp only [lg_sl, List.flatMap_cons, List.flatMap_nil, va_rf_cat]; exact Nat.le_of_ble_eq_true rfl) (by first | rfl | (simp only [lv_args, va_rf_cat]; rfl)) ?_
  intro p e s m args below meth c E hnm
  unfold ex_X0_init at h
  obtain ⟨g1, h⟩ := ck h
  obtain ⟨rfl, rfl⟩ := lf2 h
  refine r_aload_n E (x := some h0) (i := 0) (j := 0) dX0_init_0 rfl rfl ?_
  refine r_objInit E dX0_init_1 wm_1_88 wm_1_24 wm_1_25 rfl ⟨Nat.le_of_ble_eq_true rfl, Nat.le_of_ble_eq_true rfl⟩ ?_
  refine r_aload_n E (x := some h0) (i := 0) (j := 0) dX0_init_4 rfl rfl ?_
  refine r_aload_n E (x := q1) (i := 1) (j := 1) dX0_init_5 rfl rfl ?_
  refine pf_X0_7 E hnm dX0_init_6 rfl g1 ?_
  refine r_aload_n E (x := some h0) (i := 0) (j := 0) dX0_init_9 rfl rfl ?_
  refine r_iload_n E (i := 2) (j := 2) dX0_init_10 rfl rfl ?_
  refine pf_X0_13 E hnm dX0_init_11 rfl g1 ?_
  exact r_vret E dX0_init_14
def ex_X0_within (d : Dp) (σ : Sg) (h0 : Nat) : Option (Option Nat × Sg × Nat × Nat) := (if gc σ h0 = 2 then (if (gp σ 102 h0) = none then (if gc (nw σ 2) h0 = 2 then (b2 (ex_X0_init d (nw σ 2) (hs σ) (some h0) ((gi (nw σ 2) 101 h0) + (1 : Int32))) fun r6 s5 => (if gc s5 h0 = 2 then some (gp (sp s5 102 h0 (some (hs σ))) 102 h0, (sp s5 102 h0 (some (hs σ))), 0 + 1, 0 + 10) else none)) else none) else some (gp σ 102 h0, σ, 0, 0)) else none)
set_option maxHeartbeats 4000000 in
set_option maxRecDepth 20000 in
theorem m_X0_within {l : Launch} {d : Dp} {σ σ' : Sg} {h0 : Nat} {r : Option Nat} {kF nF : Nat} (h : ex_X0_within d σ h0 = some (r, σ', kF, nF)) : Mt l d yX0_within cX0_within 1 (some (.object "FrameTalk$Frame")) 2 42 σ [.ref h0] (some (va_rf r)) σ' kF nF := by
  refine mt_start (own := RX0) (lv0 := [(0, va_rf (some h0))]) (by decide) rfl (by simp only [lg_sl, List.flatMap_cons, List.flatMap_nil, va_rf_cat]; exact Nat.le_of_ble_eq_true rfl) (by first | rfl | (simp only [lv_args, va_rf_cat]; rfl)) ?_
  intro p e s m args below meth c E hnm
  unfold ex_X0_within at h
  obtain ⟨g1, h⟩ := ck h
  refine r_aload_n E (x := some h0) (i := 0) (j := 0) dX0_within_0 rfl rfl ?_
  refine gf_X0_17 E (x := gp σ 102 h0) dX0_within_1 rfl g1 rfl ?_
  refine r_ifnonnull E (o := gp σ 102 h0) (tgt := 25) dX0_within_4 (by decide) (fun c2 => ?_) (fun c2 => ?_)
  · have h := iff' c2 h
    obtain ⟨rfl, rfl, rfl, rfl⟩ := lf4 h
    refine r_aload_n E (x := some h0) (i := 0) (j := 0) dX0_within_25 rfl rfl ?_
    refine gf_X0_17 E (x := gp σ 102 h0) dX0_within_26 rfl g1 rfl ?_
    exact r_aret E dX0_within_29 (Or.inl ⟨_, rfl⟩)
  · have h := ift c2 h
    obtain ⟨g3, h⟩ := ck h
    obtain ⟨r6, s5, hc4, h⟩ := nb2 h
    obtain ⟨g7, h⟩ := ck h
    obtain ⟨rfl, rfl, rfl, rfl⟩ := lf4 h
    refine r_aload_n E (x := some h0) (i := 0) (j := 0) dX0_within_7 rfl rfl ?_
    refine nw_X0_8 E dX0_within_8 ⟨by first | decide | omega | (dsimp only; omega), by first | decide | omega | (dsimp only; omega)⟩ ?_
    refine r_dup E dX0_within_11 (va_rf_cat _) ?_
    refine r_aload_n E (x := some h0) (i := 0) (j := 0) dX0_within_12 rfl rfl ?_
    refine r_aload_n E (x := some h0) (i := 0) (j := 0) dX0_within_13 rfl rfl ?_
    refine gf_X0_13 E (x := gi (nw σ 2) 101 h0) dX0_within_14 rfl g3 rfl ?_
    refine r_iconst E dX0_within_17 (v := 1) (by decide) ?_
    refine r_iadd E dX0_within_18 ?_
    refine cl_X0_20 E (m_X0_init hc4) dX0_within_19 ⟨Nat.le_of_ble_eq_true rfl, Nat.le_of_ble_eq_true rfl⟩ ⟨by first | decide | omega | (dsimp only; omega), by first | decide | omega | (dsimp only; omega)⟩ (by simp only [List.map_cons, List.map_nil, va_rf_cat]; exact Nat.le_of_ble_eq_true rfl) rfl ?_
    refine pf_X0_17 E dX0_within_22 rfl g7 ?_
    refine r_aload_n E (x := some h0) (i := 0) (j := 0) dX0_within_25 rfl rfl ?_
    refine gf_X0_17 E (x := gp (sp s5 102 h0 (some (hs σ))) 102 h0) dX0_within_26 rfl g7 rfl ?_
    exact r_aret E dX0_within_29 (Or.inl ⟨_, rfl⟩)
def ex_X0_begin (d : Dp) (σ : Sg) (h0 : Nat) (q1 : Option Nat) : Option (Unit × Sg) := (if gc σ h0 = 2 then some ((), (sj (sp (sp (sp (sp (si (sp σ 103 h0 q1) 104 h0 (-1 : Int32)) 105 h0 none) 106 h0 none) 107 h0 none) 108 h0 none) 109 h0 (0 : Int64))) else none)
set_option maxHeartbeats 4000000 in
set_option maxRecDepth 20000 in
theorem m_X0_begin {l : Launch} {d : Dp} {σ σ' : Sg} {h0 : Nat} {q1 : Option Nat} {r : Unit} (h : ex_X0_begin d σ h0 q1 = some (r, σ')) : Mt l d yX0_begin cX0_begin 2 none 0 0 σ [.ref h0, va_rf (q1)] none σ' 0 0 := by
  refine mt_start (own := RX0) (lv0 := [(0, va_rf (some h0)), (1, va_rf (q1))]) (by decide) rfl (by simp only [lg_sl, List.flatMap_cons, List.flatMap_nil, va_rf_cat]; exact Nat.le_of_ble_eq_true rfl) (by first | rfl | (simp only [lv_args, va_rf_cat]; rfl)) ?_
  intro p e s m args below meth c E hnm
  unfold ex_X0_begin at h
  obtain ⟨g1, h⟩ := ck h
  obtain ⟨rfl, rfl⟩ := lf2 h
  refine r_aload_n E (x := some h0) (i := 0) (j := 0) dX0_begin_0 rfl rfl ?_
  refine r_aload_n E (x := q1) (i := 1) (j := 1) dX0_begin_1 rfl rfl ?_
  refine pf_X0_23 E dX0_begin_2 rfl g1 ?_
  refine r_aload_n E (x := some h0) (i := 0) (j := 0) dX0_begin_5 rfl rfl ?_
  refine r_iconst E dX0_begin_6 (v := -1) (by decide) ?_
  refine pf_X0_27 E dX0_begin_7 rfl g1 ?_
  refine r_aload_n E (x := some h0) (i := 0) (j := 0) dX0_begin_10 rfl rfl ?_
  refine r_null E dX0_begin_11 ?_
  refine pf_X0_30 E dX0_begin_12 rfl g1 ?_
  refine r_aload_n E (x := some h0) (i := 0) (j := 0) dX0_begin_15 rfl rfl ?_
  refine r_null E dX0_begin_16 ?_
  refine pf_X0_34 E dX0_begin_17 rfl g1 ?_
  refine r_aload_n E (x := some h0) (i := 0) (j := 0) dX0_begin_20 rfl rfl ?_
  refine r_null E dX0_begin_21 ?_
  refine pf_X0_37 E dX0_begin_22 rfl g1 ?_
  refine r_aload_n E (x := some h0) (i := 0) (j := 0) dX0_begin_25 rfl rfl ?_
  refine r_null E dX0_begin_26 ?_
  refine pf_X0_40 E dX0_begin_27 rfl g1 ?_
  refine r_aload_n E (x := some h0) (i := 0) (j := 0) dX0_begin_30 rfl rfl ?_
  refine r_lconst E dX0_begin_31 (v := 0) (by decide) ?_
  refine pf_X0_43 E dX0_begin_32 rfl g1 ?_
  exact r_vret E dX0_begin_35
def ex_X0_receive (d : Dp) (σ : Sg) (h0 : Nat) (q1 : Option Nat) : Option (Unit × Sg) := (if gc σ h0 = 2 then (if (gi σ 104 h0) = 0 then some ((), (sp (sp σ 108 h0 q1) 105 h0 q1)) else (if (gi σ 104 h0) = 1 then some ((), (sp (sp σ 108 h0 q1) 106 h0 q1)) else some ((), (sp (sp σ 108 h0 q1) 107 h0 q1)))) else none)
set_option maxHeartbeats 4000000 in
set_option maxRecDepth 20000 in
theorem m_X0_receive {l : Launch} {d : Dp} {σ σ' : Sg} {h0 : Nat} {q1 : Option Nat} {r : Unit} (h : ex_X0_receive d σ h0 q1 = some (r, σ')) : Mt l d yX0_receive cX0_receive 2 none 0 0 σ [.ref h0, va_rf (q1)] none σ' 0 0 := by
  refine mt_start (own := RX0) (lv0 := [(0, va_rf (some h0)), (1, va_rf (q1))]) (by decide) rfl (by simp only [lg_sl, List.flatMap_cons, List.flatMap_nil, va_rf_cat]; exact Nat.le_of_ble_eq_true rfl) (by first | rfl | (simp only [lv_args, va_rf_cat]; rfl)) ?_
  intro p e s m args below meth c E hnm
  unfold ex_X0_receive at h
  obtain ⟨g1, h⟩ := ck h
  refine r_aload_n E (x := some h0) (i := 0) (j := 0) dX0_receive_0 rfl rfl ?_
  refine r_aload_n E (x := q1) (i := 1) (j := 1) dX0_receive_1 rfl rfl ?_
  refine pf_X0_40 E dX0_receive_2 rfl g1 ?_
  refine r_aload_n E (x := some h0) (i := 0) (j := 0) dX0_receive_5 rfl rfl ?_
  refine gf_X0_27 E (x := gi σ 104 h0) dX0_receive_6 rfl g1 rfl ?_
  by_cases c2 : (gi σ 104 h0) = 0
  · have h := ift c2 h
    obtain ⟨rfl, rfl⟩ := lf2 h
    refine r_look E (off := 27) (tgt := 36) dX0_receive_9 (by decide) (by rw [c2]; decide) (by decide) ?_
    refine r_aload_n E (x := some h0) (i := 0) (j := 0) dX0_receive_36 rfl rfl ?_
    refine r_aload_n E (x := q1) (i := 1) (j := 1) dX0_receive_37 rfl rfl ?_
    refine pf_X0_30 E dX0_receive_38 rfl g1 ?_
    refine r_goto E (tgt := 57) dX0_receive_41 (by decide) ?_
    exact r_vret E dX0_receive_57
  · have h := iff' c2 h
    by_cases c3 : (gi σ 104 h0) = 1
    · have h := ift c3 h
      obtain ⟨rfl, rfl⟩ := lf2 h
      refine r_look E (off := 35) (tgt := 44) dX0_receive_9 (by decide) (by rw [c3]; decide) (by decide) ?_
      refine r_aload_n E (x := some h0) (i := 0) (j := 0) dX0_receive_44 rfl rfl ?_
      refine r_aload_n E (x := q1) (i := 1) (j := 1) dX0_receive_45 rfl rfl ?_
      refine pf_X0_34 E dX0_receive_46 rfl g1 ?_
      refine r_goto E (tgt := 57) dX0_receive_49 (by decide) ?_
      exact r_vret E dX0_receive_57
    · have h := iff' c3 h
      obtain ⟨rfl, rfl⟩ := lf2 h
      refine r_look E (off := 43) (tgt := 52) dX0_receive_9 (by decide) ((lv_osw (k := 0) c2 (by decide)).trans ((lv_osw (k := 1) c3 (by decide)).trans rfl)) (by decide) ?_
      refine r_aload_n E (x := some h0) (i := 0) (j := 0) dX0_receive_52 rfl rfl ?_
      refine r_aload_n E (x := q1) (i := 1) (j := 1) dX0_receive_53 rfl rfl ?_
      refine pf_X0_37 E dX0_receive_54 rfl g1 ?_
      exact r_vret E dX0_receive_57
def ex_Jxa1e45_init_da8c8 (d : Dp) (σ : Sg) (h0 : Nat) : Option (Unit × Sg) := some ((), σ)
set_option maxHeartbeats 4000000 in
set_option maxRecDepth 20000 in
theorem m_Jxa1e45_init_da8c8 {l : Launch} {d : Dp} {σ σ' : Sg} {h0 : Nat} {r : Unit} (h : ex_Jxa1e45_init_da8c8 d σ h0 = some (r, σ')) : Mt l d yJxa1e45_init_da8c8 cJxa1e45_init_da8c8 1 none 1 20 σ [.ref h0] none σ' 0 0 := by
  refine mt_start (own := RJxa1e45) (lv0 := [(0, va_rf (some h0))]) (by decide) rfl (by simp only [lg_sl, List.flatMap_cons, List.flatMap_nil, va_rf_cat]; exact Nat.le_of_ble_eq_true rfl) (by first | rfl | (simp only [lv_args, va_rf_cat]; rfl)) ?_
  intro p e s m args below meth c E hnm
  unfold ex_Jxa1e45_init_da8c8 at h
  obtain ⟨rfl, rfl⟩ := lf2 h
  refine r_aload_n E (x := some h0) (i := 0) (j := 0) dJxa1e45_init_da8c8_0 rfl rfl ?_
  refine r_objInit E dJxa1e45_init_da8c8_1 wm_1_49 wm_1_24 wm_1_25 rfl ⟨Nat.le_of_ble_eq_true rfl, Nat.le_of_ble_eq_true rfl⟩ ?_
  exact r_vret E dJxa1e45_init_da8c8_4
def ex_Jxc12de_init_da8c8 (d : Dp) (σ : Sg) (h0 : Nat) : Option (Unit × Sg) := (b2 (ex_Jxa1e45_init_da8c8 d σ h0) fun r3 s2 => (if gc s2 h0 = 1 then some ((), (si s2 0 h0 (0 : Int32))) else none))
set_option maxHeartbeats 4000000 in
set_option maxRecDepth 20000 in
theorem m_Jxc12de_init_da8c8 {l : Launch} {d : Dp} {σ σ' : Sg} {h0 : Nat} {r : Unit} (h : ex_Jxc12de_init_da8c8 d σ h0 = some (r, σ')) : Mt l d yJxc12de_init_da8c8 cJxc12de_init_da8c8 1 none 2 40 σ [.ref h0] none σ' 0 0 := by
  refine mt_start (own := RJxc12de) (lv0 := [(0, va_rf (some h0))]) (by decide) rfl (by simp only [lg_sl, List.flatMap_cons, List.flatMap_nil, va_rf_cat]; exact Nat.le_of_ble_eq_true rfl) (by first | rfl | (simp only [lv_args, va_rf_cat]; rfl)) ?_
  intro p e s m args below meth c E hnm
  unfold ex_Jxc12de_init_da8c8 at h
  obtain ⟨r3, s2, hc1, h⟩ := nb2 h
  obtain ⟨g4, h⟩ := ck h
  obtain ⟨rfl, rfl⟩ := lf2 h
  refine r_aload_n E (x := some h0) (i := 0) (j := 0) dJxc12de_init_da8c8_0 rfl rfl ?_
  refine cl_Jxc12de_1 E (m_Jxa1e45_init_da8c8 hc1) dJxc12de_init_da8c8_1 ⟨Nat.le_of_ble_eq_true rfl, Nat.le_of_ble_eq_true rfl⟩ ⟨by first | decide | omega | (dsimp only; omega), by first | decide | omega | (dsimp only; omega)⟩ (by decide) rfl ?_
  refine r_aload_n E (x := some h0) (i := 0) (j := 0) dJxc12de_init_da8c8_4 rfl rfl ?_
  refine r_iconst E dJxc12de_init_da8c8_5 (v := 0) (by decide) ?_
  refine pf_Jxc12de_7 E dJxc12de_init_da8c8_6 rfl g4 ?_
  exact r_vret E dJxc12de_init_da8c8_9
def ex_Jx4a65c_init_da8c8 (d : Dp) (σ : Sg) (h0 : Nat) : Option (Unit × Sg) := (b2 (ex_Jxc12de_init_da8c8 d σ h0) fun r3 s2 => (if gc s2 h0 = 1 then some ((), (sp s2 1 h0 (some (dfl d)))) else none))
set_option maxHeartbeats 4000000 in
set_option maxRecDepth 20000 in
theorem m_Jx4a65c_init_da8c8 {l : Launch} {d : Dp} {σ σ' : Sg} {h0 : Nat} {r : Unit} (h : ex_Jx4a65c_init_da8c8 d σ h0 = some (r, σ')) : Mt l d yJx4a65c_init_da8c8 cJx4a65c_init_da8c8 1 none 3 60 σ [.ref h0] none σ' 0 0 := by
  refine mt_start (own := RJx4a65c) (lv0 := [(0, va_rf (some h0))]) (by decide) rfl (by simp only [lg_sl, List.flatMap_cons, List.flatMap_nil, va_rf_cat]; exact Nat.le_of_ble_eq_true rfl) (by first | rfl | (simp only [lv_args, va_rf_cat]; rfl)) ?_
  intro p e s m args below meth c E hnm
  unfold ex_Jx4a65c_init_da8c8 at h
  obtain ⟨r3, s2, hc1, h⟩ := nb2 h
  obtain ⟨g4, h⟩ := ck h
  obtain ⟨rfl, rfl⟩ := lf2 h
  refine r_aload_n E (x := some h0) (i := 0) (j := 0) dJx4a65c_init_da8c8_0 rfl rfl ?_
  refine cl_Jx4a65c_1 E (m_Jxc12de_init_da8c8 hc1) dJx4a65c_init_da8c8_1 ⟨Nat.le_of_ble_eq_true rfl, Nat.le_of_ble_eq_true rfl⟩ ⟨by first | decide | omega | (dsimp only; omega), by first | decide | omega | (dsimp only; omega)⟩ (by decide) rfl ?_
  refine r_aload_n E (x := some h0) (i := 0) (j := 0) dJx4a65c_init_da8c8_4 rfl rfl ?_
  refine r_gets E dJx4a65c_init_da8c8_5 wm_1_50 ?_
  refine pf_Jx4a65c_9 E dJx4a65c_init_da8c8_8 rfl g4 ?_
  exact r_vret E dJx4a65c_init_da8c8_11
def ex_X4_init (d : Dp) (σ : Sg) (h0 : Nat) : Option (Unit × Sg × Nat × Nat) := (b2 (ex_Jx4a65c_init_da8c8 d (nw σ 1) (hs σ)) fun r3 s2 => (if gc s2 h0 = 6 then some ((), (sp s2 500 h0 (some (hs σ))), 0 + 1, 0 + 3) else none))
set_option maxHeartbeats 4000000 in
set_option maxRecDepth 20000 in
theorem m_X4_init {l : Launch} {d : Dp} {σ σ' : Sg} {h0 : Nat} {r : Unit} {kF nF : Nat} (h : ex_X4_init d σ h0 = some (r, σ', kF, nF)) : Mt l d yX4_init cX4_init 1 none 4 80 σ [.ref h0] none σ' kF nF := by
  refine mt_start (own := RX4) (lv0 := [(0, va_rf (some h0))]) (by decide) rfl (by simp only [lg_sl, List.flatMap_cons, List.flatMap_nil, va_rf_cat]; exact Nat.le_of_ble_eq_true rfl) (by first | rfl | (simp only [lv_args, va_rf_cat]; rfl)) ?_
  intro p e s m args below meth c E hnm
  unfold ex_X4_init at h
  obtain ⟨r3, s2, hc1, h⟩ := nb2 h
  obtain ⟨g4, h⟩ := ck h
  obtain ⟨rfl, rfl, rfl, rfl⟩ := lf4 h
  refine r_aload_n E (x := some h0) (i := 0) (j := 0) dX4_init_0 rfl rfl ?_
  refine r_objInit E dX4_init_1 wm_1_37 wm_1_24 wm_1_25 rfl ⟨Nat.le_of_ble_eq_true rfl, Nat.le_of_ble_eq_true rfl⟩ ?_
  refine r_aload_n E (x := some h0) (i := 0) (j := 0) dX4_init_4 rfl rfl ?_
  refine nw_X4_9 E dX4_init_5 ⟨by first | decide | omega | (dsimp only; omega), by first | decide | omega | (dsimp only; omega)⟩ ?_
  refine r_dup E dX4_init_8 (va_rf_cat _) ?_
  refine cl_X4_11 E (m_Jx4a65c_init_da8c8 hc1) dX4_init_9 ⟨Nat.le_of_ble_eq_true rfl, Nat.le_of_ble_eq_true rfl⟩ ⟨by first | decide | omega | (dsimp only; omega), by first | decide | omega | (dsimp only; omega)⟩ (by simp only [List.map_cons, List.map_nil, va_rf_cat]; exact Nat.le_of_ble_eq_true rfl) rfl ?_
  refine pf_X4_12 E hnm dX4_init_12 rfl g4 ?_
  exact r_vret E dX4_init_15
def ex_X2_init (d : Dp) (σ : Sg) (h0 : Nat) : Option (Unit × Sg) := some ((), σ)
set_option maxHeartbeats 4000000 in
set_option maxRecDepth 20000 in
theorem m_X2_init {l : Launch} {d : Dp} {σ σ' : Sg} {h0 : Nat} {r : Unit} (h : ex_X2_init d σ h0 = some (r, σ')) : Mt l d yX2_init cX2_init 1 none 1 20 σ [.ref h0] none σ' 0 0 := by
  refine mt_start (own := RX2) (lv0 := [(0, va_rf (some h0))]) (by decide) rfl (by simp only [lg_sl, List.flatMap_cons, List.flatMap_nil, va_rf_cat]; exact Nat.le_of_ble_eq_true rfl) (by first | rfl | (simp only [lv_args, va_rf_cat]; rfl)) ?_
  intro p e s m args below meth c E hnm
  unfold ex_X2_init at h
  obtain ⟨rfl, rfl⟩ := lf2 h
  refine r_aload_n E (x := some h0) (i := 0) (j := 0) dX2_init_0 rfl rfl ?_
  refine r_objInit E dX2_init_1 wm_1_73 wm_1_24 wm_1_25 rfl ⟨Nat.le_of_ble_eq_true rfl, Nat.le_of_ble_eq_true rfl⟩ ?_
  exact r_vret E dX2_init_4
def ex_X1_init (d : Dp) (σ : Sg) (h0 : Nat) : Option (Unit × Sg × Nat × Nat) := (b4 (ex_X4_init d (nw σ 6) (hs σ)) fun r3 s2 k4 n5 => (if gc s2 h0 = 3 then (b2 (ex_X2_init d (nw (sp s2 200 h0 (some (hs σ))) 4) (hs s2)) fun r9 s8 => (if gc s8 h0 = 3 then (if gc (na s8 12 (Int32.toNatClampNeg (256 : Int32))) h0 = 3 then (b2 (ex_X0_init d (nw (sp (na (sp s8 201 h0 (some (hs s2))) 12 (Int32.toNatClampNeg (256 : Int32))) 202 h0 (some (hs s8))) 2) (hs s8 + 1) none (0 : Int32)) fun r14 s13 => (if gc s13 h0 = 3 then some ((), (si (sp (sp s13 203 h0 (some (hs s8 + 1))) 204 h0 (gp (sp s13 203 h0 (some (hs s8 + 1))) 203 h0)) 212 h0 (-1 : Int32)), 0 + 1 + k4 + 1 + 1 + 1, 0 + 1 + n5 + 2 + Int32.toNatClampNeg (256 : Int32) + 10) else none)) else none) else none)) else none))
set_option maxHeartbeats 4000000 in
set_option maxRecDepth 20000 in
theorem m_X1_init {l : Launch} {d : Dp} {σ σ' : Sg} {h0 : Nat} {r : Unit} {kF nF : Nat} (h : ex_X1_init d σ h0 = some (r, σ', kF, nF)) : Mt l d yX1_init cX1_init 1 none 5 100 σ [.ref h0] none σ' kF nF := by
  refine mt_start (own := RX1) (lv0 := [(0, va_rf (some h0))]) (by decide) rfl (by simp only [lg_sl, List.flatMap_cons, List.flatMap_nil, va_rf_cat]; exact Nat.le_of_ble_eq_true rfl) (by first | rfl | (simp only [lv_args, va_rf_cat]; rfl)) ?_
  intro p e s m args below meth c E hnm
  unfold ex_X1_init at h
  obtain ⟨r3, s2, k4, n5, hc1, h⟩ := nb4 h
  obtain ⟨g6, h⟩ := ck h
  obtain ⟨r9, s8, hc7, h⟩ := nb2 h
  obtain ⟨g10, h⟩ := ck h
  obtain ⟨g11, h⟩ := ck h
  obtain ⟨r14, s13, hc12, h⟩ := nb2 h
  obtain ⟨g15, h⟩ := ck h
  obtain ⟨rfl, rfl, rfl, rfl⟩ := lf4 h
  refine r_aload_n E (x := some h0) (i := 0) (j := 0) dX1_init_0 rfl rfl ?_
  refine r_objInit E dX1_init_1 wm_1_31 wm_1_24 wm_1_25 rfl ⟨Nat.le_of_ble_eq_true rfl, Nat.le_of_ble_eq_true rfl⟩ ?_
  refine r_aload_n E (x := some h0) (i := 0) (j := 0) dX1_init_4 rfl rfl ?_
  refine nw_X1_9 E dX1_init_5 ⟨by first | decide | omega | (dsimp only; omega), by first | decide | omega | (dsimp only; omega)⟩ ?_
  refine r_dup E dX1_init_8 (va_rf_cat _) ?_
  refine cl_X1_11 E (m_X4_init hc1) dX1_init_9 ⟨Nat.le_of_ble_eq_true rfl, Nat.le_of_ble_eq_true rfl⟩ ⟨by first | decide | omega | (dsimp only; omega), by first | decide | omega | (dsimp only; omega)⟩ (by simp only [List.map_cons, List.map_nil, va_rf_cat]; exact Nat.le_of_ble_eq_true rfl) rfl ?_
  refine pf_X1_12 E hnm dX1_init_12 rfl g6 ?_
  refine r_aload_n E (x := some h0) (i := 0) (j := 0) dX1_init_15 rfl rfl ?_
  refine nw_X1_18 E dX1_init_16 ⟨by first | decide | omega | (dsimp only; omega), by first | decide | omega | (dsimp only; omega)⟩ ?_
  refine r_dup E dX1_init_19 (va_rf_cat _) ?_
  refine cl_X1_20 E (m_X2_init hc7) dX1_init_20 ⟨Nat.le_of_ble_eq_true rfl, Nat.le_of_ble_eq_true rfl⟩ ⟨by first | decide | omega | (dsimp only; omega), by first | decide | omega | (dsimp only; omega)⟩ (by simp only [List.map_cons, List.map_nil, va_rf_cat]; exact Nat.le_of_ble_eq_true rfl) rfl ?_
  refine pf_X1_21 E hnm dX1_init_23 rfl g10 ?_
  refine r_aload_n E (x := some h0) (i := 0) (j := 0) dX1_init_26 rfl rfl ?_
  refine r_sipush E dX1_init_27 (v := 256) (by decide) ?_
  refine r_anewT E dX1_init_30 wm_1_81 (by decide) (by decide) ⟨by first | decide | omega | (dsimp only; omega), by first | decide | omega | (dsimp only; omega)⟩ ?_
  refine pf_X1_27 E hnm dX1_init_33 rfl g11 ?_
  refine r_aload_n E (x := some h0) (i := 0) (j := 0) dX1_init_36 rfl rfl ?_
  refine nw_X1_31 E dX1_init_37 ⟨by first | decide | omega | (dsimp only; omega), by first | decide | omega | (dsimp only; omega)⟩ ?_
  refine r_dup E dX1_init_40 (va_rf_cat _) ?_
  refine r_null E dX1_init_41 ?_
  refine r_iconst E dX1_init_42 (v := 0) (by decide) ?_
  refine cl_X1_33 E (m_X0_init hc12) dX1_init_43 ⟨Nat.le_of_ble_eq_true rfl, Nat.le_of_ble_eq_true rfl⟩ ⟨by first | decide | omega | (dsimp only; omega), by first | decide | omega | (dsimp only; omega)⟩ (by simp only [List.map_cons, List.map_nil, va_rf_cat]; exact Nat.le_of_ble_eq_true rfl) rfl ?_
  refine pf_X1_36 E hnm dX1_init_46 rfl g15 ?_
  refine r_aload_n E (x := some h0) (i := 0) (j := 0) dX1_init_49 rfl rfl ?_
  refine r_aload_n E (x := some h0) (i := 0) (j := 0) dX1_init_50 rfl rfl ?_
  refine gf_X1_36 E (x := gp (sp s13 203 h0 (some (hs s8 + 1))) 203 h0) dX1_init_51 rfl g15 rfl ?_
  refine pf_X1_40 E dX1_init_54 rfl g15 ?_
  refine r_aload_n E (x := some h0) (i := 0) (j := 0) dX1_init_57 rfl rfl ?_
  refine r_iconst E dX1_init_58 (v := -1) (by decide) ?_
  refine pf_X1_43 E dX1_init_59 rfl g15 ?_
  exact r_vret E dX1_init_62
