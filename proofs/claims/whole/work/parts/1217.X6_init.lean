def ex_X6_init (d : Dp) (σ : Sg) (h0 : Nat) : Option (Unit × Sg × Nat × Nat) := (b4 (ex_X1_init d (nw σ 3) (hs σ)) fun r3 s2 k4 n5 => (if gc s2 h0 = 8 then (Option.bind (gp (sp s2 701 h0 (some (hs σ))) 701 h0) fun a7 => (if gc s2 a7 = 3 then some ((), (sp (sp s2 701 h0 (some (hs σ))) 700 h0 (gp s2 200 a7)), 0 + 1 + k4, 0 + 13 + n5) else none)) else none))
set_option maxHeartbeats 4000000 in
set_option maxRecDepth 20000 in
theorem m_X6_init {l : Launch} {d : Dp} {σ σ' : Sg} {h0 : Nat} {r : Unit} {kF nF : Nat} (h : ex_X6_init d σ h0 = some (r, σ', kF, nF)) : Mt l d yX6_init cX6_init 1 none 6 120 σ [.ref h0] none σ' kF nF := by
  refine mt_start (own := RX6) (lv0 := [(0, va_rf (some h0))]) (by decide) rfl (by simp only [lg_sl, List.flatMap_cons, List.flatMap_nil, va_rf_cat]; exact Nat.le_of_ble_eq_true rfl) (by first | rfl | (simp only [lv_args, va_rf_cat]; rfl)) ?_
  intro p e s m args below meth c E hnm
  unfold ex_X6_init at h
  obtain ⟨r3, s2, k4, n5, hc1, h⟩ := nb4 h
  obtain ⟨g6, h⟩ := ck h
  obtain ⟨a7, e8, h⟩ := nn h
  obtain ⟨g9, h⟩ := ck h
  obtain ⟨rfl, rfl, rfl, rfl⟩ := lf4 h
  refine r_aload_n E (x := some h0) (i := 0) (j := 0) dX6_init_0 rfl rfl ?_
  refine r_objInit E dX6_init_1 wm_1_23 wm_1_24 wm_1_25 rfl ⟨Nat.le_of_ble_eq_true rfl, Nat.le_of_ble_eq_true rfl⟩ ?_
  refine r_aload_n E (x := some h0) (i := 0) (j := 0) dX6_init_4 rfl rfl ?_
  refine nw_X6_7 E dX6_init_5 ⟨by first | decide | omega | (dsimp only; omega), by first | decide | omega | (dsimp only; omega)⟩ ?_
  refine r_dup E dX6_init_8 (va_rf_cat _) ?_
  refine cl_X6_9 E (m_X1_init hc1) dX6_init_9 ⟨Nat.le_of_ble_eq_true rfl, Nat.le_of_ble_eq_true rfl⟩ ⟨by first | decide | omega | (dsimp only; omega), by first | decide | omega | (dsimp only; omega)⟩ (by simp only [List.map_cons, List.map_nil, va_rf_cat]; exact Nat.le_of_ble_eq_true rfl) rfl ?_
  refine pf_X6_10 E hnm dX6_init_12 rfl g6 ?_
  refine r_aload_n E (x := some h0) (i := 0) (j := 0) dX6_init_15 rfl rfl ?_
  refine r_aload_n E (x := some h0) (i := 0) (j := 0) dX6_init_16 rfl rfl ?_
  refine gf_X6_10 E (x := gp (sp s2 701 h0 (some (hs σ))) 701 h0) dX6_init_17 rfl g6 rfl ?_
  refine gf_X6_16 E (x := gp s2 200 a7) dX6_init_20 e8 g9 rfl ?_
  refine pf_X6_20 E hnm dX6_init_23 rfl g6 ?_
  exact r_vret E dX6_init_26
def ex_X6_lit (d : Dp) (σ : Sg) (h0 : Nat) (p1 : Int64) : Option (Int32 × Sg × Nat × Nat) := (if gc σ h0 = 8 then (Option.bind (gp σ 700 h0) fun a2 => (if gc σ a2 = 6 then (b4 (ex_X4_addLiteral d σ a2 p1) fun r7 s6 k8 n9 => some (r7, s6, 0 + k8, 0 + n9)) else none)) else none)
set_option maxHeartbeats 4000000 in
set_option maxRecDepth 20000 in
theorem m_X6_lit {l : Launch} {d : Dp} {σ σ' : Sg} {h0 : Nat} {p1 : Int64} {r : Int32} {kF nF : Nat} (h : ex_X6_lit d σ h0 p1 = some (r, σ', kF, nF)) : Mt l d yX6_lit cX6_lit 3 (some .int) 9 234 σ [.ref h0, .long (p1)] (some (.int r)) σ' kF nF := by
  refine mt_start (own := RX6) (lv0 := [(0, va_rf (some h0)), (1, .long (p1))]) (by decide) rfl (by simp only [lg_sl, List.flatMap_cons, List.flatMap_nil, va_rf_cat]; exact Nat.le_of_ble_eq_true rfl) (by first | rfl | (simp only [lv_args, va_rf_cat]; rfl)) ?_
  intro p e s m args below meth c E hnm
  unfold ex_X6_lit at h
  obtain ⟨g1, h⟩ := ck h
  obtain ⟨a2, e3, h⟩ := nn h
  obtain ⟨g4, h⟩ := ck h
  obtain ⟨r7, s6, k8, n9, hc5, h⟩ := nb4 h
  obtain ⟨rfl, rfl, rfl, rfl⟩ := lf4 h
  refine r_aload_n E (x := some h0) (i := 0) (j := 0) dX6_lit_0 rfl rfl ?_
  refine gf_X6_20 E (x := gp σ 700 h0) dX6_lit_1 rfl g1 rfl ?_
  refine r_lload_n E (i := 1) (j := 1) dX6_lit_4 rfl rfl ?_
  refine cl_X6_21 E (m_X4_addLiteral hc5) dX6_lit_5 ⟨Nat.le_of_ble_eq_true rfl, Nat.le_of_ble_eq_true rfl⟩ ⟨by first | decide | omega | (dsimp only; omega), by first | decide | omega | (dsimp only; omega)⟩ (by decide) e3 g4 ?_
  exact r_iret E dX6_lit_8
def ex_X6_node (d : Dp) (σ : Sg) (h0 : Nat) (p1 : Int32) (p2 : Int32) (p3 : Int32) (p4 : Int32) : Option (Int32 × Sg × Nat × Nat) := (if p1 < (1 : Int32) then some ((-1 : Int32), σ, 0, 0) else (if p1 ≤ (20 : Int32) then (if gc σ h0 = 8 then (Option.bind (gp σ 700 h0) fun a4 => (if gc σ a4 = 6 then (b4 (ex_X4_add d σ a4 p1 p2 p3 p4) fun r9 s8 k10 n11 => some (r9, s8, 0 + k10, 0 + n11)) else none)) else none) else some ((-1 : Int32), σ, 0, 0)))
set_option maxHeartbeats 4000000 in
set_option maxRecDepth 20000 in
theorem m_X6_node {l : Launch} {d : Dp} {σ σ' : Sg} {h0 : Nat} {p1 : Int32} {p2 : Int32} {p3 : Int32} {p4 : Int32} {r : Int32} {kF nF : Nat} (h : ex_X6_node d σ h0 p1 p2 p3 p4 = some (r, σ', kF, nF)) : Mt l d yX6_node cX6_node 5 (some .int) 9 237 σ [.ref h0, .int (p1), .int (p2), .int (p3), .int (p4)] (some (.int r)) σ' kF nF := by
  refine mt_start (own := RX6) (lv0 := [(0, va_rf (some h0)), (1, .int (p1)), (2, .int (p2)), (3, .int (p3)), (4, .int (p4))]) (by decide) rfl (by simp only [lg_sl, List.flatMap_cons, List.flatMap_nil, va_rf_cat]; exact Nat.le_of_ble_eq_true rfl) (by first | rfl | (simp only [lv_args, va_rf_cat]; rfl)) ?_
  intro p e s m args below meth c E hnm
  unfold ex_X6_node at h
  refine r_iload_n E (i := 1) (j := 1) dX6_node_0 rfl rfl ?_
  refine r_iconst E dX6_node_1 (v := 1) (by decide) ?_
  refine r_icmp_lt E (tgt := 11) dX6_node_2 (by decide) (fun c1 => ?_) (fun c1 => ?_)
  · have h := ift c1 h
    obtain ⟨rfl, rfl, rfl, rfl⟩ := lf4 h
    refine r_iconst E dX6_node_11 (v := -1) (by decide) ?_
    exact r_iret E dX6_node_12
  · have h := iff' c1 h
    refine r_iload_n E (i := 1) (j := 1) dX6_node_5 rfl rfl ?_
    refine r_bipush E dX6_node_6 (v := 20) (by decide) ?_
    refine r_icmp_le E (tgt := 13) dX6_node_8 (by decide) (fun c2 => ?_) (fun c2 => ?_)
    · have h := ift c2 h
      obtain ⟨g3, h⟩ := ck h
      obtain ⟨a4, e5, h⟩ := nn h
      obtain ⟨g6, h⟩ := ck h
      obtain ⟨r9, s8, k10, n11, hc7, h⟩ := nb4 h
      obtain ⟨rfl, rfl, rfl, rfl⟩ := lf4 h
      refine r_aload_n E (x := some h0) (i := 0) (j := 0) dX6_node_13 rfl rfl ?_
      refine gf_X6_20 E (x := gp σ 700 h0) dX6_node_14 rfl g3 rfl ?_
      refine r_iload_n E (i := 1) (j := 1) dX6_node_17 rfl rfl ?_
      refine r_iload_n E (i := 2) (j := 2) dX6_node_18 rfl rfl ?_
      refine r_iload_n E (i := 3) (j := 3) dX6_node_19 rfl rfl ?_
      refine r_iload E (j := 4) dX6_node_20 rfl ?_
      refine cl_X6_29 E (m_X4_add hc7) dX6_node_22 ⟨Nat.le_of_ble_eq_true rfl, Nat.le_of_ble_eq_true rfl⟩ ⟨by first | decide | omega | (dsimp only; omega), by first | decide | omega | (dsimp only; omega)⟩ (by decide) e5 g6 ?_
      exact r_iret E dX6_node_25
    · have h := iff' c2 h
      obtain ⟨rfl, rfl, rfl, rfl⟩ := lf4 h
      refine r_iconst E dX6_node_11 (v := -1) (by decide) ?_
      exact r_iret E dX6_node_12
def ex_X6_part (d : Dp) (σ : Sg) (h0 : Nat) (p1 : Int32) (p2 : Int32) (p3 : Int32) : Option (Int32 × Sg) := (if gc σ h0 = 8 then (Option.bind (gp σ 700 h0) fun a2 => (if gc σ a2 = 6 then (b2 (ex_X4_at d σ a2 p1) fun r7 s6 => (if r7 = none then some ((-1 : Int32), s6) else (if p2 < (0 : Int32) then some ((-1 : Int32), s6) else (if p2 ≤ (2 : Int32) then (if gc s6 h0 = 8 then (Option.bind (gp s6 700 h0) fun a12 => (if gc s6 a12 = 6 then (b2 (ex_X4_setPart d s6 a12 r7 p2 p3) fun r17 s16 => some ((0 : Int32), s16)) else none)) else none) else some ((-1 : Int32), s6))))) else none)) else none)
set_option maxHeartbeats 4000000 in
set_option maxRecDepth 20000 in
theorem m_X6_part {l : Launch} {d : Dp} {σ σ' : Sg} {h0 : Nat} {p1 : Int32} {p2 : Int32} {p3 : Int32} {r : Int32} (h : ex_X6_part d σ h0 p1 p2 p3 = some (r, σ')) : Mt l d yX6_part cX6_part 5 (some .int) 5 109 σ [.ref h0, .int (p1), .int (p2), .int (p3)] (some (.int r)) σ' 0 0 := by
  refine mt_start (own := RX6) (lv0 := [(0, va_rf (some h0)), (1, .int (p1)), (2, .int (p2)), (3, .int (p3))]) (by decide) rfl (by simp only [lg_sl, List.flatMap_cons, List.flatMap_nil, va_rf_cat]; exact Nat.le_of_ble_eq_true rfl) (by first | rfl | (simp only [lv_args, va_rf_cat]; rfl)) ?_
  intro p e s m args below meth c E hnm
  unfold ex_X6_part at h
  obtain ⟨g1, h⟩ := ck h
  obtain ⟨a2, e3, h⟩ := nn h
  obtain ⟨g4, h⟩ := ck h
  obtain ⟨r7, s6, hc5, h⟩ := nb2 h
  refine r_aload_n E (x := some h0) (i := 0) (j := 0) dX6_part_0 rfl rfl ?_
  refine gf_X6_20 E (x := gp σ 700 h0) dX6_part_1 rfl g1 rfl ?_
  refine r_iload_n E (i := 1) (j := 1) dX6_part_4 rfl rfl ?_
  refine cl_X6_33 E (m_X4_at hc5) dX6_part_5 ⟨Nat.le_of_ble_eq_true rfl, Nat.le_of_ble_eq_true rfl⟩ ⟨by first | decide | omega | (dsimp only; omega), by first | decide | omega | (dsimp only; omega)⟩ (by decide) e3 g4 ?_
  refine r_astore E (lv' := [(4, va_rf (r7)), (0, va_rf (some h0)), (1, .int (p1)), (2, .int (p2)), (3, .int (p3))]) dX6_part_8 (by decide) (by first | rfl | (simp only [List.filter_cons, List.filter_nil, va_rf_cat]; rfl)) ?_
  refine r_aload E (x := r7) (j := 0) dX6_part_10 rfl ?_
  refine r_ifnull E (o := r7) (tgt := 24) dX6_part_12 (by decide) (fun c8 => ?_) (fun c8 => ?_)
  · have h := ift c8 h
    obtain ⟨rfl, rfl⟩ := lf2 h
    refine r_iconst E dX6_part_24 (v := -1) (by decide) ?_
    exact r_iret E dX6_part_25
  · have h := iff' c8 h
    refine r_iload_n E (i := 2) (j := 3) dX6_part_15 rfl rfl ?_
    refine r_if_lt E (tgt := 24) dX6_part_16 (by decide) (fun c9 => ?_) (fun c9 => ?_)
    · have h := ift c9 h
      obtain ⟨rfl, rfl⟩ := lf2 h
      refine r_iconst E dX6_part_24 (v := -1) (by decide) ?_
      exact r_iret E dX6_part_25
    · have h := iff' c9 h
      refine r_iload_n E (i := 2) (j := 3) dX6_part_19 rfl rfl ?_
      refine r_iconst E dX6_part_20 (v := 2) (by decide) ?_
      refine r_icmp_le E (tgt := 26) dX6_part_21 (by decide) (fun c10 => ?_) (fun c10 => ?_)
      · have h := ift c10 h
        obtain ⟨g11, h⟩ := ck h
        obtain ⟨a12, e13, h⟩ := nn h
        obtain ⟨g14, h⟩ := ck h
        obtain ⟨r17, s16, hc15, h⟩ := nb2 h
        obtain ⟨rfl, rfl⟩ := lf2 h
        refine r_aload_n E (x := some h0) (i := 0) (j := 1) dX6_part_26 rfl rfl ?_
        refine gf_X6_20 E (x := gp s6 700 h0) dX6_part_27 rfl g11 rfl ?_
        refine r_aload E (x := r7) (j := 0) dX6_part_30 rfl ?_
        refine r_iload_n E (i := 2) (j := 3) dX6_part_32 rfl rfl ?_
        refine r_iload_n E (i := 3) (j := 4) dX6_part_33 rfl rfl ?_
        refine cl_X6_37 E (m_X4_setPart hc15) dX6_part_34 ⟨Nat.le_of_ble_eq_true rfl, Nat.le_of_ble_eq_true rfl⟩ ⟨by first | decide | omega | (dsimp only; omega), by first | decide | omega | (dsimp only; omega)⟩ (by decide) e13 g14 ?_
        refine r_iconst E dX6_part_37 (v := 0) (by decide) ?_
        exact r_iret E dX6_part_38
      · have h := iff' c10 h
        obtain ⟨rfl, rfl⟩ := lf2 h
        refine r_iconst E dX6_part_24 (v := -1) (by decide) ?_
        exact r_iret E dX6_part_25
