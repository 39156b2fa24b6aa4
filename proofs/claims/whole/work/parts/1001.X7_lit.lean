def ex_X7_lit (d : Dp) (σ : Sg) (h0 : Nat) (p1 : Int64) : Option (Int32 × Sg) := (if gc σ h0 = 9 then (if (gi σ 804 h0) = (4000 : Int32) then some ((-1 : Int32), σ) else (Option.bind (gp σ 801 h0) fun a3 => (if gc σ a3 = 10 then (if ¬ ((gi σ 804 h0) < 0 ∨ gl σ a3 ≤ Int32.toNatClampNeg (gi σ 804 h0)) then (bn (wi σ a3 (Int32.toNatClampNeg (gi σ 804 h0)) (0 : Int32)) fun s7 => (if gc s7 h0 = 9 then (Option.bind (gp s7 803 h0) fun a10 => (if gc s7 a10 = 11 then (if ¬ ((gi s7 804 h0) < 0 ∨ gl s7 a10 ≤ Int32.toNatClampNeg (gi s7 804 h0)) then (bn (wj s7 a10 (Int32.toNatClampNeg (gi s7 804 h0)) p1) fun s14 => (if gc s14 h0 = 9 then (bn (si s14 804 h0 ((gi s14 804 h0) + (1 : Int32))) fun s17 => (if gc s17 h0 = 9 then some ((gi s17 804 h0) - (1 : Int32), s17) else none)) else none)) else none) else none)) else none)) else none) else none))) else none)
set_option maxHeartbeats 4000000 in
set_option maxRecDepth 20000 in
theorem m_X7_lit {l : Launch} {d : Dp} {σ σ' : Sg} {h0 : Nat} {p1 : Int64} {r : Int32} (h : ex_X7_lit d σ h0 p1 = some (r, σ')) : Mt l d yX7_lit cX7_lit 3 (some .int) 0 0 σ [.ref h0, .long (p1)] (some (.int r)) σ' 0 0 := by
  refine mt_start (own := RX7) (lv0 := [(0, va_rf (some h0)), (1, .long (p1))]) (by decide) rfl (by simp only [lg_sl, List.flatMap_cons, List.flatMap_nil, va_rf_cat]; exact Nat.le_of_ble_eq_true rfl) (by first | rfl | (simp only [lv_args, va_rf_cat]; rfl)) ?_
  intro p e s m args below meth c E hnm
  unfold ex_X7_lit at h
  obtain ⟨g1, h⟩ := ck h
  refine r_aload_n E (x := some h0) (i := 0) (j := 0) dX7_lit_0 rfl rfl ?_
  refine gf_X7_64 E (x := gi σ 804 h0) dX7_lit_1 rfl g1 rfl ?_
  refine r_sipush E dX7_lit_4 (v := 4000) (by decide) ?_
  refine r_icmp_ne E (tgt := 12) dX7_lit_7 (by decide) (fun c2 => ?_) (fun c2 => ?_)
  · have h := iff' c2 h
    obtain ⟨a3, e4, h⟩ := nn h
    obtain ⟨g5, h⟩ := ck h
    obtain ⟨g6, h⟩ := ck h
    obtain ⟨s7, e8, h⟩ := nbn h
    obtain ⟨g9, h⟩ := ck h
    obtain ⟨a10, e11, h⟩ := nn h
    obtain ⟨g12, h⟩ := ck h
    obtain ⟨g13, h⟩ := ck h
    obtain ⟨s14, e15, h⟩ := nbn h
    obtain ⟨g16, h⟩ := ck h
    obtain ⟨s17, e18, h⟩ := nbn h
    obtain ⟨g19, h⟩ := ck h
    obtain ⟨rfl, rfl⟩ := lf2 h
    refine r_aload_n E (x := some h0) (i := 0) (j := 0) dX7_lit_12 rfl rfl ?_
    refine gf_X7_13 E (x := gp σ 801 h0) dX7_lit_13 rfl g1 rfl ?_
    refine r_aload_n E (x := some h0) (i := 0) (j := 0) dX7_lit_16 rfl rfl ?_
    refine gf_X7_64 E (x := gi σ 804 h0) dX7_lit_17 rfl g1 rfl ?_
    refine r_iconst E dX7_lit_20 (v := 0) (by decide) ?_
    refine r_iast E dX7_lit_21 e4 g5 g6 ?_
    refine r_nm e8 ?_
    refine r_aload_n E (x := some h0) (i := 0) (j := 0) dX7_lit_22 rfl rfl ?_
    refine gf_X7_19 E (x := gp s7 803 h0) dX7_lit_23 rfl g9 rfl ?_
    refine r_aload_n E (x := some h0) (i := 0) (j := 0) dX7_lit_26 rfl rfl ?_
    refine gf_X7_64 E (x := gi s7 804 h0) dX7_lit_27 rfl g9 rfl ?_
    refine r_lload_n E (i := 1) (j := 1) dX7_lit_30 rfl rfl ?_
    refine r_last E dX7_lit_31 e11 g12 g13 ?_
    refine r_nm e15 ?_
    refine r_aload_n E (x := some h0) (i := 0) (j := 0) dX7_lit_32 rfl rfl ?_
    refine r_dup E dX7_lit_33 (va_rf_cat _) ?_
    refine gf_X7_64 E (x := gi s14 804 h0) dX7_lit_34 rfl g16 rfl ?_
    refine r_iconst E dX7_lit_37 (v := 1) (by decide) ?_
    refine r_iadd E dX7_lit_38 ?_
    refine pf_X7_64 E dX7_lit_39 rfl g16 ?_
    refine r_nm e18 ?_
    refine r_aload_n E (x := some h0) (i := 0) (j := 0) dX7_lit_42 rfl rfl ?_
    refine gf_X7_64 E (x := gi s17 804 h0) dX7_lit_43 rfl g19 rfl ?_
    refine r_iconst E dX7_lit_46 (v := 1) (by decide) ?_
    refine r_isub E dX7_lit_47 ?_
    exact r_iret E dX7_lit_48
  · have h := ift c2 h
    obtain ⟨rfl, rfl⟩ := lf2 h
    refine r_iconst E dX7_lit_10 (v := -1) (by decide) ?_
    exact r_iret E dX7_lit_11
def ex_X7_isNode (d : Dp) (σ : Sg) (h0 : Nat) (p1 : Int32) (p2 : Int32) : Option (Int32 × Sg) := (if gc σ h0 = 9 then (Option.bind (gp σ 801 h0) fun a2 => (if gc σ a2 = 10 then (if ¬ (p1 < 0 ∨ gl σ a2 ≤ Int32.toNatClampNeg p1) then (Option.bind (gp σ 800 h0) fun a6 => (if gc σ a6 = 10 then (if ¬ ((ai σ a2 (Int32.toNatClampNeg p1)) < 0 ∨ gl σ a6 ≤ Int32.toNatClampNeg (ai σ a2 (Int32.toNatClampNeg p1))) then (if (((ai σ a6 (Int32.toNatClampNeg (ai σ a2 (Int32.toNatClampNeg p1)))) >>> (p2 &&& 31)) &&& (1 : Int32)) = (1 : Int32) then some ((1 : Int32), σ) else some ((0 : Int32), σ)) else none) else none)) else none) else none)) else none)
set_option maxHeartbeats 4000000 in
set_option maxRecDepth 20000 in
theorem m_X7_isNode {l : Launch} {d : Dp} {σ σ' : Sg} {h0 : Nat} {p1 : Int32} {p2 : Int32} {r : Int32} (h : ex_X7_isNode d σ h0 p1 p2 = some (r, σ')) : Mt l d yX7_isNode cX7_isNode 3 (some .boolean) 0 0 σ [.ref h0, .int (p1), .int (p2)] (some (.int r)) σ' 0 0 := by
  refine mt_start (own := RX7) (lv0 := [(0, va_rf (some h0)), (1, .int (p1)), (2, .int (p2))]) (by decide) rfl (by simp only [lg_sl, List.flatMap_cons, List.flatMap_nil, va_rf_cat]; exact Nat.le_of_ble_eq_true rfl) (by first | rfl | (simp only [lv_args, va_rf_cat]; rfl)) ?_
  intro p e s m args below meth c E hnm
  unfold ex_X7_isNode at h
  obtain ⟨g1, h⟩ := ck h
  obtain ⟨a2, e3, h⟩ := nn h
  obtain ⟨g4, h⟩ := ck h
  obtain ⟨g5, h⟩ := ck h
  obtain ⟨a6, e7, h⟩ := nn h
  obtain ⟨g8, h⟩ := ck h
  obtain ⟨g9, h⟩ := ck h
  refine r_aload_n E (x := some h0) (i := 0) (j := 0) dX7_isNode_0 rfl rfl ?_
  refine gf_X7_7 E (x := gp σ 800 h0) dX7_isNode_1 rfl g1 rfl ?_
  refine r_aload_n E (x := some h0) (i := 0) (j := 0) dX7_isNode_4 rfl rfl ?_
  refine gf_X7_13 E (x := gp σ 801 h0) dX7_isNode_5 rfl g1 rfl ?_
  refine r_iload_n E (i := 1) (j := 1) dX7_isNode_8 rfl rfl ?_
  refine r_iald E dX7_isNode_9 e3 g4 g5 ?_
  refine r_iald E dX7_isNode_10 e7 g8 g9 ?_
  refine r_iload_n E (i := 2) (j := 2) dX7_isNode_11 rfl rfl ?_
  refine r_ishr E dX7_isNode_12 ?_
  refine r_iconst E dX7_isNode_13 (v := 1) (by decide) ?_
  refine r_iand E dX7_isNode_14 ?_
  refine r_iconst E dX7_isNode_15 (v := 1) (by decide) ?_
  refine r_icmp_ne E (tgt := 23) dX7_isNode_16 (by decide) (fun c10 => ?_) (fun c10 => ?_)
  · have h := iff' c10 h
    obtain ⟨rfl, rfl⟩ := lf2 h
    refine r_iconst E dX7_isNode_23 (v := 0) (by decide) ?_
    exact r_zret E dX7_isNode_24 (by decide)
  · have h := ift c10 h
    obtain ⟨rfl, rfl⟩ := lf2 h
    refine r_iconst E dX7_isNode_19 (v := 1) (by decide) ?_
    refine r_goto E (tgt := 24) dX7_isNode_20 (by decide) ?_
    exact r_zret E dX7_isNode_24 (by decide)
def ex_X7_join (d : Dp) (σ : Sg) (h0 : Nat) (p1 : Int32) (p2 : Int32) (p3 : Int32) : Option (Unit × Sg) := (if gc σ h0 = 9 then (b2 (ex_X7_isNode d σ h0 p1 p2) fun r4 s3 => (if r4 = (0 : Int32) then (Option.bind (gp σ 802 h0) fun a6 => (if gc s3 a6 = 10 then (if ¬ ((((3 : Int32) * p1) + p2) < 0 ∨ gl s3 a6 ≤ Int32.toNatClampNeg (((3 : Int32) * p1) + p2)) then (bn (wi s3 a6 (Int32.toNatClampNeg (((3 : Int32) * p1) + p2)) p3) fun s10 => some ((), s10)) else none) else none)) else (if p3 < (0 : Int32) then (Option.bind (gp σ 802 h0) fun a13 => (if gc s3 a13 = 10 then (if ¬ ((((3 : Int32) * p1) + p2) < 0 ∨ gl s3 a13 ≤ Int32.toNatClampNeg (((3 : Int32) * p1) + p2)) then (bn (wi s3 a13 (Int32.toNatClampNeg (((3 : Int32) * p1) + p2)) (-1 : Int32)) fun s17 => some ((), s17)) else none) else none)) else (if gc s3 h0 = 9 then (if p3 < (gi s3 804 h0) then (Option.bind (gp σ 802 h0) fun a21 => (if gc s3 a21 = 10 then (if ¬ ((((3 : Int32) * p1) + p2) < 0 ∨ gl s3 a21 ≤ Int32.toNatClampNeg (((3 : Int32) * p1) + p2)) then (bn (wi s3 a21 (Int32.toNatClampNeg (((3 : Int32) * p1) + p2)) p3) fun s25 => some ((), s25)) else none) else none)) else (Option.bind (gp σ 802 h0) fun a27 => (if gc s3 a27 = 10 then (if ¬ ((((3 : Int32) * p1) + p2) < 0 ∨ gl s3 a27 ≤ Int32.toNatClampNeg (((3 : Int32) * p1) + p2)) then (bn (wi s3 a27 (Int32.toNatClampNeg (((3 : Int32) * p1) + p2)) (-1 : Int32)) fun s31 => some ((), s31)) else none) else none))) else none)))) else none)
set_option maxHeartbeats 4000000 in
set_option maxRecDepth 20000 in
theorem m_X7_join {l : Launch} {d : Dp} {σ σ' : Sg} {h0 : Nat} {p1 : Int32} {p2 : Int32} {p3 : Int32} {r : Unit} (h : ex_X7_join d σ h0 p1 p2 p3 = some (r, σ')) : Mt l d yX7_join cX7_join 4 none 1 22 σ [.ref h0, .int (p1), .int (p2), .int (p3)] none σ' 0 0 := by
  refine mt_start (own := RX7) (lv0 := [(0, va_rf (some h0)), (1, .int (p1)), (2, .int (p2)), (3, .int (p3))]) (by decide) rfl (by simp only [lg_sl, List.flatMap_cons, List.flatMap_nil, va_rf_cat]; exact Nat.le_of_ble_eq_true rfl) (by first | rfl | (simp only [lv_args, va_rf_cat]; rfl)) ?_
  intro p e s m args below meth c E hnm
  unfold ex_X7_join at h
  obtain ⟨g1, h⟩ := ck h
  obtain ⟨r4, s3, hc2, h⟩ := nb2 h
  refine r_aload_n E (x := some h0) (i := 0) (j := 0) dX7_join_0 rfl rfl ?_
  refine gf_X7_16 E (x := gp σ 802 h0) dX7_join_1 rfl g1 rfl ?_
  refine r_iconst E dX7_join_4 (v := 3) (by decide) ?_
  refine r_iload_n E (i := 1) (j := 1) dX7_join_5 rfl rfl ?_
  refine r_imul E dX7_join_6 ?_
  refine r_iload_n E (i := 2) (j := 2) dX7_join_7 rfl rfl ?_
  refine r_iadd E dX7_join_8 ?_
  refine r_aload_n E (x := some h0) (i := 0) (j := 0) dX7_join_9 rfl rfl ?_
  refine r_iload_n E (i := 1) (j := 1) dX7_join_10 rfl rfl ?_
  refine r_iload_n E (i := 2) (j := 2) dX7_join_11 rfl rfl ?_
  refine cl_X7_67 E (m_X7_isNode hc2) dX7_join_12 ⟨Nat.le_of_ble_eq_true rfl, Nat.le_of_ble_eq_true rfl⟩ ⟨by first | decide | omega | (dsimp only; omega), by first | decide | omega | (dsimp only; omega)⟩ (by simp only [List.map_cons, List.map_nil, va_rf_cat]; exact Nat.le_of_ble_eq_true rfl) rfl g1 ?_
  refine r_if_eq E (tgt := 34) dX7_join_15 (by decide) (fun c5 => ?_) (fun c5 => ?_)
  · have h := ift c5 h
    obtain ⟨a6, e7, h⟩ := nn h
    obtain ⟨g8, h⟩ := ck h
    obtain ⟨g9, h⟩ := ck h
    obtain ⟨s10, e11, h⟩ := nbn h
    obtain ⟨rfl, rfl⟩ := lf2 h
    refine r_iload_n E (i := 3) (j := 3) dX7_join_34 rfl rfl ?_
    refine r_iast E dX7_join_35 e7 g8 g9 ?_
    refine r_nm e11 ?_
    exact r_vret E dX7_join_36
  · have h := iff' c5 h
    refine r_iload_n E (i := 3) (j := 3) dX7_join_18 rfl rfl ?_
    refine r_if_lt E (tgt := 30) dX7_join_19 (by decide) (fun c12 => ?_) (fun c12 => ?_)
    · have h := ift c12 h
      obtain ⟨a13, e14, h⟩ := nn h
      obtain ⟨g15, h⟩ := ck h
      obtain ⟨g16, h⟩ := ck h
      obtain ⟨s17, e18, h⟩ := nbn h
      obtain ⟨rfl, rfl⟩ := lf2 h
      refine r_iconst E dX7_join_30 (v := -1) (by decide) ?_
      refine r_goto E (tgt := 35) dX7_join_31 (by decide) ?_
      refine r_iast E dX7_join_35 e14 g15 g16 ?_
      refine r_nm e18 ?_
      exact r_vret E dX7_join_36
    · have h := iff' c12 h
      obtain ⟨g19, h⟩ := ck h
      refine r_iload_n E (i := 3) (j := 3) dX7_join_22 rfl rfl ?_
      refine r_aload_n E (x := some h0) (i := 0) (j := 0) dX7_join_23 rfl rfl ?_
      refine gf_X7_64 E (x := gi s3 804 h0) dX7_join_24 rfl g19 rfl ?_
      refine r_icmp_lt E (tgt := 34) dX7_join_27 (by decide) (fun c20 => ?_) (fun c20 => ?_)
      · have h := ift c20 h
        obtain ⟨a21, e22, h⟩ := nn h
        obtain ⟨g23, h⟩ := ck h
        obtain ⟨g24, h⟩ := ck h
        obtain ⟨s25, e26, h⟩ := nbn h
        obtain ⟨rfl, rfl⟩ := lf2 h
        refine r_iload_n E (i := 3) (j := 3) dX7_join_34 rfl rfl ?_
        refine r_iast E dX7_join_35 e22 g23 g24 ?_
        refine r_nm e26 ?_
        exact r_vret E dX7_join_36
      · have h := iff' c20 h
        obtain ⟨a27, e28, h⟩ := nn h
        obtain ⟨g29, h⟩ := ck h
        obtain ⟨g30, h⟩ := ck h
        obtain ⟨s31, e32, h⟩ := nbn h
        obtain ⟨rfl, rfl⟩ := lf2 h
        refine r_iconst E dX7_join_30 (v := -1) (by decide) ?_
        refine r_goto E (tgt := 35) dX7_join_31 (by decide) ?_
        refine r_iast E dX7_join_35 e28 g29 g30 ?_
        refine r_nm e32 ?_
        exact r_vret E dX7_join_36
def ex_X7_node (d : Dp) (σ : Sg) (h0 : Nat) (p1 : Int32) (p2 : Int32) (p3 : Int32) (p4 : Int32) : Option (Int32 × Sg) := (if p1 < (1 : Int32) then some ((-1 : Int32), σ) else (if (20 : Int32) < p1 then some ((-1 : Int32), σ) else (if gc σ h0 = 9 then (if (gi σ 804 h0) = (4000 : Int32) then some ((-1 : Int32), σ) else (Option.bind (gp σ 801 h0) fun a5 => (if gc σ a5 = 10 then (if ¬ ((gi σ 804 h0) < 0 ∨ gl σ a5 ≤ Int32.toNatClampNeg (gi σ 804 h0)) then (bn (wi σ a5 (Int32.toNatClampNeg (gi σ 804 h0)) p1) fun s9 => (if gc s9 h0 = 9 then (b2 (ex_X7_join d s9 h0 (gi s9 804 h0) (0 : Int32) p2) fun r14 s13 => (if gc s13 h0 = 9 then (b2 (ex_X7_join d s13 h0 (gi s13 804 h0) (1 : Int32) p3) fun r18 s17 => (if gc s17 h0 = 9 then (b2 (ex_X7_join d s17 h0 (gi s17 804 h0) (2 : Int32) p4) fun r22 s21 => (if gc s21 h0 = 9 then (bn (si s21 804 h0 ((gi s21 804 h0) + (1 : Int32))) fun s24 => (if gc s24 h0 = 9 then some ((gi s24 804 h0) - (1 : Int32), s24) else none)) else none)) else none)) else none)) else none)) else none) else none))) else none)))
set_option maxHeartbeats 4000000 in
set_option maxRecDepth 20000 in
theorem m_X7_node {l : Launch} {d : Dp} {σ σ' : Sg} {h0 : Nat} {p1 : Int32} {p2 : Int32} {p3 : Int32} {p4 : Int32} {r : Int32} (h : ex_X7_node d σ h0 p1 p2 p3 p4 = some (r, σ')) : Mt l d yX7_node cX7_node 5 (some .int) 2 45 σ [.ref h0, .int (p1), .int (p2), .int (p3), .int (p4)] (some (.int r)) σ' 0 0 := by
  refine mt_start (own := RX7) (lv0 := [(0, va_rf (some h0)), (1, .int (p1)), (2, .int (p2)), (3, .int (p3)), (4, .int (p4))]) (by decide) rfl (by simp only [lg_sl, List.flatMap_cons, List.flatMap_nil, va_rf_cat]; exact Nat.le_of_ble_eq_true rfl) (by first | rfl | (simp only [lv_args, va_rf_cat]; rfl)) ?_
  intro p e s m args below meth c E hnm
  unfold ex_X7_node at h
  refine r_iload_n E (i := 1) (j := 1) dX7_node_0 rfl rfl ?_
  refine r_iconst E dX7_node_1 (v := 1) (by decide) ?_
  refine r_icmp_lt E (tgt := 21) dX7_node_2 (by decide) (fun c1 => ?_) (fun c1 => ?_)
  · have h := ift c1 h
    obtain ⟨rfl, rfl⟩ := lf2 h
    refine r_iconst E dX7_node_21 (v := -1) (by decide) ?_
    exact r_iret E dX7_node_22
  · have h := iff' c1 h
    refine r_iload_n E (i := 1) (j := 1) dX7_node_5 rfl rfl ?_
    refine r_bipush E dX7_node_6 (v := 20) (by decide) ?_
    refine r_icmp_gt E (tgt := 21) dX7_node_8 (by decide) (fun c2 => ?_) (fun c2 => ?_)
    · have h := ift c2 h
      obtain ⟨rfl, rfl⟩ := lf2 h
      refine r_iconst E dX7_node_21 (v := -1) (by decide) ?_
      exact r_iret E dX7_node_22
    · have h := iff' c2 h
      obtain ⟨g3, h⟩ := ck h
      refine r_aload_n E (x := some h0) (i := 0) (j := 0) dX7_node_11 rfl rfl ?_
      refine gf_X7_64 E (x := gi σ 804 h0) dX7_node_12 rfl g3 rfl ?_
      refine r_sipush E dX7_node_15 (v := 4000) (by decide) ?_
      refine r_icmp_ne E (tgt := 23) dX7_node_18 (by decide) (fun c4 => ?_) (fun c4 => ?_)
      · have h := iff' c4 h
        obtain ⟨a5, e6, h⟩ := nn h
        obtain ⟨g7, h⟩ := ck h
        obtain ⟨g8, h⟩ := ck h
        obtain ⟨s9, e10, h⟩ := nbn h
        obtain ⟨g11, h⟩ := ck h
        obtain ⟨r14, s13, hc12, h⟩ := nb2 h
        obtain ⟨g15, h⟩ := ck h
        obtain ⟨r18, s17, hc16, h⟩ := nb2 h
        obtain ⟨g19, h⟩ := ck h
        obtain ⟨r22, s21, hc20, h⟩ := nb2 h
        obtain ⟨g23, h⟩ := ck h
        obtain ⟨s24, e25, h⟩ := nbn h
        obtain ⟨g26, h⟩ := ck h
        obtain ⟨rfl, rfl⟩ := lf2 h
        refine r_aload_n E (x := some h0) (i := 0) (j := 0) dX7_node_23 rfl rfl ?_
        refine gf_X7_13 E (x := gp σ 801 h0) dX7_node_24 rfl g3 rfl ?_
        refine r_aload_n E (x := some h0) (i := 0) (j := 0) dX7_node_27 rfl rfl ?_
        refine gf_X7_64 E (x := gi σ 804 h0) dX7_node_28 rfl g3 rfl ?_
        refine r_iload_n E (i := 1) (j := 1) dX7_node_31 rfl rfl ?_
        refine r_iast E dX7_node_32 e6 g7 g8 ?_
        refine r_nm e10 ?_
        refine r_aload_n E (x := some h0) (i := 0) (j := 0) dX7_node_33 rfl rfl ?_
        refine r_aload_n E (x := some h0) (i := 0) (j := 0) dX7_node_34 rfl rfl ?_
        refine gf_X7_64 E (x := gi s9 804 h0) dX7_node_35 rfl g11 rfl ?_
        refine r_iconst E dX7_node_38 (v := 0) (by decide) ?_
        refine r_iload_n E (i := 2) (j := 2) dX7_node_39 rfl rfl ?_
        refine cl_X7_71 E (m_X7_join hc12) dX7_node_40 ⟨Nat.le_of_ble_eq_true rfl, Nat.le_of_ble_eq_true rfl⟩ ⟨by first | decide | omega | (dsimp only; omega), by first | decide | omega | (dsimp only; omega)⟩ (by decide) rfl g11 ?_
        refine r_aload_n E (x := some h0) (i := 0) (j := 0) dX7_node_43 rfl rfl ?_
        refine r_aload_n E (x := some h0) (i := 0) (j := 0) dX7_node_44 rfl rfl ?_
        refine gf_X7_64 E (x := gi s13 804 h0) dX7_node_45 rfl g15 rfl ?_
        refine r_iconst E dX7_node_48 (v := 1) (by decide) ?_
        refine r_iload_n E (i := 3) (j := 3) dX7_node_49 rfl rfl ?_
        refine cl_X7_71 E (m_X7_join hc16) dX7_node_50 ⟨Nat.le_of_ble_eq_true rfl, Nat.le_of_ble_eq_true rfl⟩ ⟨by first | decide | omega | (dsimp only; omega), by first | decide | omega | (dsimp only; omega)⟩ (by decide) rfl g15 ?_
        refine r_aload_n E (x := some h0) (i := 0) (j := 0) dX7_node_53 rfl rfl ?_
        refine r_aload_n E (x := some h0) (i := 0) (j := 0) dX7_node_54 rfl rfl ?_
        refine gf_X7_64 E (x := gi s17 804 h0) dX7_node_55 rfl g19 rfl ?_
        refine r_iconst E dX7_node_58 (v := 2) (by decide) ?_
        refine r_iload E (j := 4) dX7_node_59 rfl ?_
        refine cl_X7_71 E (m_X7_join hc20) dX7_node_61 ⟨Nat.le_of_ble_eq_true rfl, Nat.le_of_ble_eq_true rfl⟩ ⟨by first | decide | omega | (dsimp only; omega), by first | decide | omega | (dsimp only; omega)⟩ (by decide) rfl g19 ?_
        refine r_aload_n E (x := some h0) (i := 0) (j := 0) dX7_node_64 rfl rfl ?_
        refine r_dup E dX7_node_65 (va_rf_cat _) ?_
        refine gf_X7_64 E (x := gi s21 804 h0) dX7_node_66 rfl g23 rfl ?_
        refine r_iconst E dX7_node_69 (v := 1) (by decide) ?_
        refine r_iadd E dX7_node_70 ?_
        refine pf_X7_64 E dX7_node_71 rfl g23 ?_
        refine r_nm e25 ?_
        refine r_aload_n E (x := some h0) (i := 0) (j := 0) dX7_node_74 rfl rfl ?_
        refine gf_X7_64 E (x := gi s24 804 h0) dX7_node_75 rfl g26 rfl ?_
        refine r_iconst E dX7_node_78 (v := 1) (by decide) ?_
        refine r_isub E dX7_node_79 ?_
        exact r_iret E dX7_node_80
      · have h := ift c4 h
        obtain ⟨rfl, rfl⟩ := lf2 h
        refine r_iconst E dX7_node_21 (v := -1) (by decide) ?_
        exact r_iret E dX7_node_22
