def ex_X4_append (d : Dp) (σ : Sg) (h0 : Nat) (q1 : Option Nat) : Option (Int32 × Sg × Nat × Nat) := (if gc σ h0 = 6 then (Option.bind (gp σ 500 h0) fun a2 => (if gc σ a2 = 1 then (b4 (ex_Jx4a65c_add_9ea2d d σ a2 q1) fun r7 s6 k8 n9 => (Option.bind q1 fun a10 => (if gc s6 a10 = 5 then some (gi s6 400 a10, s6, 0 + k8, 0 + n9) else none))) else none)) else none)
set_option maxHeartbeats 4000000 in
set_option maxRecDepth 20000 in
theorem m_X4_append {l : Launch} {d : Dp} {σ σ' : Sg} {h0 : Nat} {q1 : Option Nat} {r : Int32} {kF nF : Nat} (h : ex_X4_append d σ h0 q1 = some (r, σ', kF, nF)) : Mt l d yX4_append cX4_append 2 (some .int) 7 191 σ [.ref h0, va_rf (q1)] (some (.int r)) σ' kF nF := by
  refine mt_start (own := RX4) (lv0 := [(0, va_rf (some h0)), (1, va_rf (q1))]) (by decide) rfl (by simp only [lg_sl, List.flatMap_cons, List.flatMap_nil, va_rf_cat]; exact Nat.le_of_ble_eq_true rfl) (by first | rfl | (simp only [lv_args, va_rf_cat]; rfl)) ?_
  intro p e s m args below meth c E hnm
  unfold ex_X4_append at h
  obtain ⟨g1, h⟩ := ck h
  obtain ⟨a2, e3, h⟩ := nn h
  obtain ⟨g4, h⟩ := ck h
  obtain ⟨r7, s6, k8, n9, hc5, h⟩ := nb4 h
  obtain ⟨a10, e11, h⟩ := nn h
  obtain ⟨g12, h⟩ := ck h
  obtain ⟨rfl, rfl, rfl, rfl⟩ := lf4 h
  refine r_aload_n E (x := some h0) (i := 0) (j := 0) dX4_append_0 rfl rfl ?_
  refine gf_X4_12 E (x := gp σ 500 h0) dX4_append_1 rfl g1 rfl ?_
  refine r_aload_n E (x := q1) (i := 1) (j := 1) dX4_append_4 rfl rfl ?_
  refine cl_X4_54 E (m_Jx4a65c_add_9ea2d hc5) dX4_append_5 ⟨Nat.le_of_ble_eq_true rfl, Nat.le_of_ble_eq_true rfl⟩ ⟨by first | decide | omega | (dsimp only; omega), by first | decide | omega | (dsimp only; omega)⟩ (by decide) e3 g4 ?_
  refine r_pop E dX4_append_8 rfl ?_
  refine r_aload_n E (x := q1) (i := 1) (j := 1) dX4_append_9 rfl rfl ?_
  refine gf_X4_58 E (x := gi s6 400 a10) dX4_append_10 e11 g12 rfl ?_
  exact r_iret E dX4_append_13
def ex_X4_addLiteral (d : Dp) (σ : Sg) (h0 : Nat) (p1 : Int64) : Option (Int32 × Sg × Nat × Nat) := (if gc σ h0 = 6 then (Option.bind (gp σ 500 h0) fun a2 => (if gc σ a2 = 1 then (b2 (ex_Jx4a65c_size_8abf5 d σ a2) fun r7 s6 => (if r7 < (4000 : Int32) then (if gc (nw s6 5) h0 = 6 then (Option.bind (gp (nw s6 5) 500 h0) fun a10 => (if gc (nw s6 5) a10 = 1 then (b2 (ex_Jx4a65c_size_8abf5 d (nw s6 5) a10) fun r15 s14 => (b2 (ex_X3_init d s14 (hs s6) r15 (0 : Int32) p1) fun r18 s17 => (if gc s17 h0 = 6 then (b4 (ex_X4_append d s17 h0 (some (hs s6))) fun r22 s21 k23 n24 => some (r22, s21, 0 + 1 + k23, 0 + 6 + n24)) else none))) else none)) else none) else some ((-1 : Int32), s6, 0, 0))) else none)) else none)
set_option maxHeartbeats 4000000 in
set_option maxRecDepth 20000 in
theorem m_X4_addLiteral {l : Launch} {d : Dp} {σ σ' : Sg} {h0 : Nat} {p1 : Int64} {r : Int32} {kF nF : Nat} (h : ex_X4_addLiteral d σ h0 p1 = some (r, σ', kF, nF)) : Mt l d yX4_addLiteral cX4_addLiteral 3 (some .int) 8 212 σ [.ref h0, .long (p1)] (some (.int r)) σ' kF nF := by
  refine mt_start (own := RX4) (lv0 := [(0, va_rf (some h0)), (1, .long (p1))]) (by decide) rfl (by simp only [lg_sl, List.flatMap_cons, List.flatMap_nil, va_rf_cat]; exact Nat.le_of_ble_eq_true rfl) (by first | rfl | (simp only [lv_args, va_rf_cat]; rfl)) ?_
  intro p e s m args below meth c E hnm
  unfold ex_X4_addLiteral at h
  obtain ⟨g1, h⟩ := ck h
  obtain ⟨a2, e3, h⟩ := nn h
  obtain ⟨g4, h⟩ := ck h
  obtain ⟨r7, s6, hc5, h⟩ := nb2 h
  refine r_aload_n E (x := some h0) (i := 0) (j := 0) dX4_addLiteral_0 rfl rfl ?_
  refine gf_X4_12 E (x := gp σ 500 h0) dX4_addLiteral_1 rfl g1 rfl ?_
  refine cl_X4_18 E (m_Jx4a65c_size_8abf5 hc5) dX4_addLiteral_4 ⟨Nat.le_of_ble_eq_true rfl, Nat.le_of_ble_eq_true rfl⟩ ⟨by first | decide | omega | (dsimp only; omega), by first | decide | omega | (dsimp only; omega)⟩ (by decide) e3 g4 ?_
  refine r_sipush E dX4_addLiteral_7 (v := 4000) (by decide) ?_
  refine r_icmp_lt E (tgt := 15) dX4_addLiteral_10 (by decide) (fun c8 => ?_) (fun c8 => ?_)
  · have h := ift c8 h
    obtain ⟨g9, h⟩ := ck h
    obtain ⟨a10, e11, h⟩ := nn h
    obtain ⟨g12, h⟩ := ck h
    obtain ⟨r15, s14, hc13, h⟩ := nb2 h
    obtain ⟨r18, s17, hc16, h⟩ := nb2 h
    obtain ⟨g19, h⟩ := ck h
    obtain ⟨r22, s21, k23, n24, hc20, h⟩ := nb4 h
    obtain ⟨rfl, rfl, rfl, rfl⟩ := lf4 h
    refine r_aload_n E (x := some h0) (i := 0) (j := 0) dX4_addLiteral_15 rfl rfl ?_
    refine nw_X4_26 E dX4_addLiteral_16 ⟨by first | decide | omega | (dsimp only; omega), by first | decide | omega | (dsimp only; omega)⟩ ?_
    refine r_dup E dX4_addLiteral_19 (va_rf_cat _) ?_
    refine r_aload_n E (x := some h0) (i := 0) (j := 0) dX4_addLiteral_20 rfl rfl ?_
    refine gf_X4_12 E (x := gp (nw s6 5) 500 h0) dX4_addLiteral_21 rfl g9 rfl ?_
    refine cl_X4_18 E (m_Jx4a65c_size_8abf5 hc13) dX4_addLiteral_24 ⟨Nat.le_of_ble_eq_true rfl, Nat.le_of_ble_eq_true rfl⟩ ⟨by first | decide | omega | (dsimp only; omega), by first | decide | omega | (dsimp only; omega)⟩ (by simp only [List.map_cons, List.map_nil, va_rf_cat]; exact Nat.le_of_ble_eq_true rfl) e11 g12 ?_
    refine r_iconst E dX4_addLiteral_27 (v := 0) (by decide) ?_
    refine r_lload_n E (i := 1) (j := 1) dX4_addLiteral_28 rfl rfl ?_
    refine cl_X4_28 E (m_X3_init hc16) dX4_addLiteral_29 ⟨Nat.le_of_ble_eq_true rfl, Nat.le_of_ble_eq_true rfl⟩ ⟨by first | decide | omega | (dsimp only; omega), by first | decide | omega | (dsimp only; omega)⟩ (by simp only [List.map_cons, List.map_nil, va_rf_cat]; exact Nat.le_of_ble_eq_true rfl) rfl ?_
    refine cl_X4_31 E (m_X4_append hc20) dX4_addLiteral_32 ⟨Nat.le_of_ble_eq_true rfl, Nat.le_of_ble_eq_true rfl⟩ ⟨by first | decide | omega | (dsimp only; omega), by first | decide | omega | (dsimp only; omega)⟩ (by decide) rfl g19 ?_
    exact r_iret E dX4_addLiteral_35
  · have h := iff' c8 h
    obtain ⟨rfl, rfl, rfl, rfl⟩ := lf4 h
    refine r_iconst E dX4_addLiteral_13 (v := -1) (by decide) ?_
    exact r_iret E dX4_addLiteral_14
def ex_X4_setPart (d : Dp) (σ : Sg) (h0 : Nat) (q1 : Option Nat) (p2 : Int32) (p3 : Int32) : Option (Unit × Sg) := (Option.bind q1 fun a1 => (if gc σ a1 = 5 then (b2 (ex_X3_works d σ a1 p2) fun r6 s5 => (if r6 = (0 : Int32) then (if (0 : Int32) = (0 : Int32) then (if gc s5 a1 = 5 then (b2 (ex_X3_set d s5 a1 p2 p3) fun r12 s11 => some ((), s11)) else none) else (if gc s5 a1 = 5 then (b2 (ex_X3_set d s5 a1 p2 (-1 : Int32)) fun r16 s15 => some ((), s15)) else none)) else (if gc s5 h0 = 6 then (b2 (ex_X4_at d s5 h0 p3) fun r20 s19 => (if r20 = none then (if (1 : Int32) = (0 : Int32) then (if gc s19 a1 = 5 then (b2 (ex_X3_set d s19 a1 p2 p3) fun r35 s34 => some ((), s34)) else none) else (if gc s19 a1 = 5 then (b2 (ex_X3_set d s19 a1 p2 (-1 : Int32)) fun r39 s38 => some ((), s38)) else none)) else (if (0 : Int32) = (0 : Int32) then (if gc s19 a1 = 5 then (b2 (ex_X3_set d s19 a1 p2 p3) fun r26 s25 => some ((), s25)) else none) else (if gc s19 a1 = 5 then (b2 (ex_X3_set d s19 a1 p2 (-1 : Int32)) fun r30 s29 => some ((), s29)) else none)))) else none))) else none))
set_option maxHeartbeats 4000000 in
set_option maxRecDepth 20000 in
theorem m_X4_setPart {l : Launch} {d : Dp} {σ σ' : Sg} {h0 : Nat} {q1 : Option Nat} {p2 : Int32} {p3 : Int32} {r : Unit} (h : ex_X4_setPart d σ h0 q1 p2 p3 = some (r, σ')) : Mt l d yX4_setPart cX4_setPart 5 none 4 85 σ [.ref h0, va_rf (q1), .int (p2), .int (p3)] none σ' 0 0 := by
  refine mt_start (own := RX4) (lv0 := [(0, va_rf (some h0)), (1, va_rf (q1)), (2, .int (p2)), (3, .int (p3))]) (by decide) rfl (by simp only [lg_sl, List.flatMap_cons, List.flatMap_nil, va_rf_cat]; exact Nat.le_of_ble_eq_true rfl) (by first | rfl | (simp only [lv_args, va_rf_cat]; rfl)) ?_
  intro p e s m args below meth c E hnm
  unfold ex_X4_setPart at h
  obtain ⟨a1, e2, h⟩ := nn h
  obtain ⟨g3, h⟩ := ck h
  obtain ⟨r6, s5, hc4, h⟩ := nb2 h
  refine r_aload_n E (x := q1) (i := 1) (j := 1) dX4_setPart_0 rfl rfl ?_
  refine r_iload_n E (i := 2) (j := 2) dX4_setPart_1 rfl rfl ?_
  refine cl_X4_39 E (m_X3_works hc4) dX4_setPart_2 ⟨Nat.le_of_ble_eq_true rfl, Nat.le_of_ble_eq_true rfl⟩ ⟨by first | decide | omega | (dsimp only; omega), by first | decide | omega | (dsimp only; omega)⟩ (by decide) e2 g3 ?_
  refine r_if_eq E (tgt := 20) dX4_setPart_5 (by decide) (fun c7 => ?_) (fun c7 => ?_)
  · have h := ift c7 h
    refine r_iconst E dX4_setPart_20 (v := 0) (by decide) ?_
    refine r_istore E (lv' := [(4, .int ((0 : Int32))), (0, va_rf (some h0)), (1, va_rf (q1)), (2, .int (p2)), (3, .int (p3))]) dX4_setPart_21 (by decide) (by first | rfl | (simp only [List.filter_cons, List.filter_nil, va_rf_cat]; rfl)) ?_
    refine r_aload_n E (x := q1) (i := 1) (j := 2) dX4_setPart_23 rfl rfl ?_
    refine r_iload_n E (i := 2) (j := 3) dX4_setPart_24 rfl rfl ?_
    refine r_iload E (j := 0) dX4_setPart_25 rfl ?_
    refine r_if_eq E (tgt := 34) dX4_setPart_27 (by decide) (fun c8 => ?_) (fun c8 => ?_)
    · have h := ift c8 h
      obtain ⟨g9, h⟩ := ck h
      obtain ⟨r12, s11, hc10, h⟩ := nb2 h
      obtain ⟨rfl, rfl⟩ := lf2 h
      refine r_iload_n E (i := 3) (j := 4) dX4_setPart_34 rfl rfl ?_
      refine cl_X4_47 E (m_X3_set hc10) dX4_setPart_35 ⟨Nat.le_of_ble_eq_true rfl, Nat.le_of_ble_eq_true rfl⟩ ⟨by first | decide | omega | (dsimp only; omega), by first | decide | omega | (dsimp only; omega)⟩ (by decide) e2 g9 ?_
      exact r_vret E dX4_setPart_38
    · have h := iff' c8 h
      obtain ⟨g13, h⟩ := ck h
      obtain ⟨r16, s15, hc14, h⟩ := nb2 h
      obtain ⟨rfl, rfl⟩ := lf2 h
      refine r_iconst E dX4_setPart_30 (v := -1) (by decide) ?_
      refine r_goto E (tgt := 35) dX4_setPart_31 (by decide) ?_
      refine cl_X4_47 E (m_X3_set hc14) dX4_setPart_35 ⟨Nat.le_of_ble_eq_true rfl, Nat.le_of_ble_eq_true rfl⟩ ⟨by first | decide | omega | (dsimp only; omega), by first | decide | omega | (dsimp only; omega)⟩ (by decide) e2 g13 ?_
      exact r_vret E dX4_setPart_38
  · have h := iff' c7 h
    obtain ⟨g17, h⟩ := ck h
    obtain ⟨r20, s19, hc18, h⟩ := nb2 h
    refine r_aload_n E (x := some h0) (i := 0) (j := 0) dX4_setPart_8 rfl rfl ?_
    refine r_iload_n E (i := 3) (j := 3) dX4_setPart_9 rfl rfl ?_
    refine cl_X4_43 E (m_X4_at hc18) dX4_setPart_10 ⟨Nat.le_of_ble_eq_true rfl, Nat.le_of_ble_eq_true rfl⟩ ⟨by first | decide | omega | (dsimp only; omega), by first | decide | omega | (dsimp only; omega)⟩ (by decide) rfl g17 ?_
    refine r_ifnonnull E (o := r20) (tgt := 20) dX4_setPart_13 (by decide) (fun c21 => ?_) (fun c21 => ?_)
    · have h := iff' c21 h
      refine r_iconst E dX4_setPart_20 (v := 0) (by decide) ?_
      refine r_istore E (lv' := [(4, .int ((0 : Int32))), (0, va_rf (some h0)), (1, va_rf (q1)), (2, .int (p2)), (3, .int (p3))]) dX4_setPart_21 (by decide) (by first | rfl | (simp only [List.filter_cons, List.filter_nil, va_rf_cat]; rfl)) ?_
      refine r_aload_n E (x := q1) (i := 1) (j := 2) dX4_setPart_23 rfl rfl ?_
      refine r_iload_n E (i := 2) (j := 3) dX4_setPart_24 rfl rfl ?_
      refine r_iload E (j := 0) dX4_setPart_25 rfl ?_
      refine r_if_eq E (tgt := 34) dX4_setPart_27 (by decide) (fun c22 => ?_) (fun c22 => ?_)
      · have h := ift c22 h
        obtain ⟨g23, h⟩ := ck h
        obtain ⟨r26, s25, hc24, h⟩ := nb2 h
        obtain ⟨rfl, rfl⟩ := lf2 h
        refine r_iload_n E (i := 3) (j := 4) dX4_setPart_34 rfl rfl ?_
        refine cl_X4_47 E (m_X3_set hc24) dX4_setPart_35 ⟨Nat.le_of_ble_eq_true rfl, Nat.le_of_ble_eq_true rfl⟩ ⟨by first | decide | omega | (dsimp only; omega), by first | decide | omega | (dsimp only; omega)⟩ (by decide) e2 g23 ?_
        exact r_vret E dX4_setPart_38
      · have h := iff' c22 h
        obtain ⟨g27, h⟩ := ck h
        obtain ⟨r30, s29, hc28, h⟩ := nb2 h
        obtain ⟨rfl, rfl⟩ := lf2 h
        refine r_iconst E dX4_setPart_30 (v := -1) (by decide) ?_
        refine r_goto E (tgt := 35) dX4_setPart_31 (by decide) ?_
        refine cl_X4_47 E (m_X3_set hc28) dX4_setPart_35 ⟨Nat.le_of_ble_eq_true rfl, Nat.le_of_ble_eq_true rfl⟩ ⟨by first | decide | omega | (dsimp only; omega), by first | decide | omega | (dsimp only; omega)⟩ (by decide) e2 g27 ?_
        exact r_vret E dX4_setPart_38
    · have h := ift c21 h
      refine r_iconst E dX4_setPart_16 (v := 1) (by decide) ?_
      refine r_goto E (tgt := 21) dX4_setPart_17 (by decide) ?_
      refine r_istore E (lv' := [(4, .int ((1 : Int32))), (0, va_rf (some h0)), (1, va_rf (q1)), (2, .int (p2)), (3, .int (p3))]) dX4_setPart_21 (by decide) (by first | rfl | (simp only [List.filter_cons, List.filter_nil, va_rf_cat]; rfl)) ?_
      refine r_aload_n E (x := q1) (i := 1) (j := 2) dX4_setPart_23 rfl rfl ?_
      refine r_iload_n E (i := 2) (j := 3) dX4_setPart_24 rfl rfl ?_
      refine r_iload E (j := 0) dX4_setPart_25 rfl ?_
      refine r_if_eq E (tgt := 34) dX4_setPart_27 (by decide) (fun c31 => ?_) (fun c31 => ?_)
      · have h := ift c31 h
        obtain ⟨g32, h⟩ := ck h
        obtain ⟨r35, s34, hc33, h⟩ := nb2 h
        obtain ⟨rfl, rfl⟩ := lf2 h
        refine r_iload_n E (i := 3) (j := 4) dX4_setPart_34 rfl rfl ?_
        refine cl_X4_47 E (m_X3_set hc33) dX4_setPart_35 ⟨Nat.le_of_ble_eq_true rfl, Nat.le_of_ble_eq_true rfl⟩ ⟨by first | decide | omega | (dsimp only; omega), by first | decide | omega | (dsimp only; omega)⟩ (by decide) e2 g32 ?_
        exact r_vret E dX4_setPart_38
      · have h := iff' c31 h
        obtain ⟨g36, h⟩ := ck h
        obtain ⟨r39, s38, hc37, h⟩ := nb2 h
        obtain ⟨rfl, rfl⟩ := lf2 h
        refine r_iconst E dX4_setPart_30 (v := -1) (by decide) ?_
        refine r_goto E (tgt := 35) dX4_setPart_31 (by decide) ?_
        refine cl_X4_47 E (m_X3_set hc37) dX4_setPart_35 ⟨Nat.le_of_ble_eq_true rfl, Nat.le_of_ble_eq_true rfl⟩ ⟨by first | decide | omega | (dsimp only; omega), by first | decide | omega | (dsimp only; omega)⟩ (by decide) e2 g36 ?_
        exact r_vret E dX4_setPart_38
def ex_X4_add (d : Dp) (σ : Sg) (h0 : Nat) (p1 : Int32) (p2 : Int32) (p3 : Int32) (p4 : Int32) : Option (Int32 × Sg × Nat × Nat) := (if gc σ h0 = 6 then (Option.bind (gp σ 500 h0) fun a2 => (if gc σ a2 = 1 then (b2 (ex_Jx4a65c_size_8abf5 d σ a2) fun r7 s6 => (if r7 < (4000 : Int32) then (if gc (nw s6 5) h0 = 6 then (Option.bind (gp (nw s6 5) 500 h0) fun a10 => (if gc (nw s6 5) a10 = 1 then (b2 (ex_Jx4a65c_size_8abf5 d (nw s6 5) a10) fun r15 s14 => (b2 (ex_X3_init d s14 (hs s6) r15 p1 (0 : Int64)) fun r18 s17 => (if gc s17 h0 = 6 then (b2 (ex_X4_setPart d s17 h0 (some (hs s6)) (0 : Int32) p2) fun r22 s21 => (if gc s21 h0 = 6 then (b2 (ex_X4_setPart d s21 h0 (some (hs s6)) (1 : Int32) p3) fun r26 s25 => (if gc s25 h0 = 6 then (b2 (ex_X4_setPart d s25 h0 (some (hs s6)) (2 : Int32) p4) fun r30 s29 => (if gc s29 h0 = 6 then (b4 (ex_X4_append d s29 h0 (some (hs s6))) fun r34 s33 k35 n36 => some (r34, s33, 0 + 1 + k35, 0 + 6 + n36)) else none)) else none)) else none)) else none))) else none)) else none) else some ((-1 : Int32), s6, 0, 0))) else none)) else none)
set_option maxHeartbeats 4000000 in
set_option maxRecDepth 20000 in
theorem m_X4_add {l : Launch} {d : Dp} {σ σ' : Sg} {h0 : Nat} {p1 : Int32} {p2 : Int32} {p3 : Int32} {p4 : Int32} {r : Int32} {kF nF : Nat} (h : ex_X4_add d σ h0 p1 p2 p3 p4 = some (r, σ', kF, nF)) : Mt l d yX4_add cX4_add 6 (some .int) 8 212 σ [.ref h0, .int (p1), .int (p2), .int (p3), .int (p4)] (some (.int r)) σ' kF nF := by
  refine mt_start (own := RX4) (lv0 := [(0, va_rf (some h0)), (1, .int (p1)), (2, .int (p2)), (3, .int (p3)), (4, .int (p4))]) (by decide) rfl (by simp only [lg_sl, List.flatMap_cons, List.flatMap_nil, va_rf_cat]; exact Nat.le_of_ble_eq_true rfl) (by first | rfl | (simp only [lv_args, va_rf_cat]; rfl)) ?_
  intro p e s m args below meth c E hnm
  unfold ex_X4_add at h
  obtain ⟨g1, h⟩ := ck h
  obtain ⟨a2, e3, h⟩ := nn h
  obtain ⟨g4, h⟩ := ck h
  obtain ⟨r7, s6, hc5, h⟩ := nb2 h
  refine r_aload_n E (x := some h0) (i := 0) (j := 0) dX4_add_0 rfl rfl ?_
  refine gf_X4_12 E (x := gp σ 500 h0) dX4_add_1 rfl g1 rfl ?_
  refine cl_X4_18 E (m_Jx4a65c_size_8abf5 hc5) dX4_add_4 ⟨Nat.le_of_ble_eq_true rfl, Nat.le_of_ble_eq_true rfl⟩ ⟨by first | decide | omega | (dsimp only; omega), by first | decide | omega | (dsimp only; omega)⟩ (by decide) e3 g4 ?_
  refine r_sipush E dX4_add_7 (v := 4000) (by decide) ?_
  refine r_icmp_lt E (tgt := 15) dX4_add_10 (by decide) (fun c8 => ?_) (fun c8 => ?_)
  · have h := ift c8 h
    obtain ⟨g9, h⟩ := ck h
    obtain ⟨a10, e11, h⟩ := nn h
    obtain ⟨g12, h⟩ := ck h
    obtain ⟨r15, s14, hc13, h⟩ := nb2 h
    obtain ⟨r18, s17, hc16, h⟩ := nb2 h
    obtain ⟨g19, h⟩ := ck h
    obtain ⟨r22, s21, hc20, h⟩ := nb2 h
    obtain ⟨g23, h⟩ := ck h
    obtain ⟨r26, s25, hc24, h⟩ := nb2 h
    obtain ⟨g27, h⟩ := ck h
    obtain ⟨r30, s29, hc28, h⟩ := nb2 h
    obtain ⟨g31, h⟩ := ck h
    obtain ⟨r34, s33, k35, n36, hc32, h⟩ := nb4 h
    obtain ⟨rfl, rfl, rfl, rfl⟩ := lf4 h
    refine nw_X4_26 E dX4_add_15 ⟨by first | decide | omega | (dsimp only; omega), by first | decide | omega | (dsimp only; omega)⟩ ?_
    refine r_dup E dX4_add_18 (va_rf_cat _) ?_
    refine r_aload_n E (x := some h0) (i := 0) (j := 0) dX4_add_19 rfl rfl ?_
    refine gf_X4_12 E (x := gp (nw s6 5) 500 h0) dX4_add_20 rfl g9 rfl ?_
    refine cl_X4_18 E (m_Jx4a65c_size_8abf5 hc13) dX4_add_23 ⟨Nat.le_of_ble_eq_true rfl, Nat.le_of_ble_eq_true rfl⟩ ⟨by first | decide | omega | (dsimp only; omega), by first | decide | omega | (dsimp only; omega)⟩ (by simp only [List.map_cons, List.map_nil, va_rf_cat]; exact Nat.le_of_ble_eq_true rfl) e11 g12 ?_
    refine r_iload_n E (i := 1) (j := 1) dX4_add_26 rfl rfl ?_
    refine r_lconst E dX4_add_27 (v := 0) (by decide) ?_
    refine cl_X4_28 E (m_X3_init hc16) dX4_add_28 ⟨Nat.le_of_ble_eq_true rfl, Nat.le_of_ble_eq_true rfl⟩ ⟨by first | decide | omega | (dsimp only; omega), by first | decide | omega | (dsimp only; omega)⟩ (by simp only [List.map_cons, List.map_nil, va_rf_cat]; exact Nat.le_of_ble_eq_true rfl) rfl ?_
    refine r_astore E (lv' := [(5, va_rf (some (hs s6))), (0, va_rf (some h0)), (1, .int (p1)), (2, .int (p2)), (3, .int (p3)), (4, .int (p4))]) dX4_add_31 (by decide) (by first | rfl | (simp only [List.filter_cons, List.filter_nil, va_rf_cat]; rfl)) ?_
    refine r_aload_n E (x := some h0) (i := 0) (j := 1) dX4_add_33 rfl rfl ?_
    refine r_aload E (x := some (hs s6)) (j := 0) dX4_add_34 rfl ?_
    refine r_iconst E dX4_add_36 (v := 0) (by decide) ?_
    refine r_iload_n E (i := 2) (j := 3) dX4_add_37 rfl rfl ?_
    refine cl_X4_35 E (m_X4_setPart hc20) dX4_add_38 ⟨Nat.le_of_ble_eq_true rfl, Nat.le_of_ble_eq_true rfl⟩ ⟨by first | decide | omega | (dsimp only; omega), by first | decide | omega | (dsimp only; omega)⟩ (by decide) rfl g19 ?_
    refine r_aload_n E (x := some h0) (i := 0) (j := 1) dX4_add_41 rfl rfl ?_
    refine r_aload E (x := some (hs s6)) (j := 0) dX4_add_42 rfl ?_
    refine r_iconst E dX4_add_44 (v := 1) (by decide) ?_
    refine r_iload_n E (i := 3) (j := 4) dX4_add_45 rfl rfl ?_
    refine cl_X4_35 E (m_X4_setPart hc24) dX4_add_46 ⟨Nat.le_of_ble_eq_true rfl, Nat.le_of_ble_eq_true rfl⟩ ⟨by first | decide | omega | (dsimp only; omega), by first | decide | omega | (dsimp only; omega)⟩ (by decide) rfl g23 ?_
    refine r_aload_n E (x := some h0) (i := 0) (j := 1) dX4_add_49 rfl rfl ?_
    refine r_aload E (x := some (hs s6)) (j := 0) dX4_add_50 rfl ?_
    refine r_iconst E dX4_add_52 (v := 2) (by decide) ?_
    refine r_iload E (j := 5) dX4_add_53 rfl ?_
    refine cl_X4_35 E (m_X4_setPart hc28) dX4_add_55 ⟨Nat.le_of_ble_eq_true rfl, Nat.le_of_ble_eq_true rfl⟩ ⟨by first | decide | omega | (dsimp only; omega), by first | decide | omega | (dsimp only; omega)⟩ (by decide) rfl g27 ?_
    refine r_aload_n E (x := some h0) (i := 0) (j := 1) dX4_add_58 rfl rfl ?_
    refine r_aload E (x := some (hs s6)) (j := 0) dX4_add_59 rfl ?_
    refine cl_X4_31 E (m_X4_append hc32) dX4_add_61 ⟨Nat.le_of_ble_eq_true rfl, Nat.le_of_ble_eq_true rfl⟩ ⟨by first | decide | omega | (dsimp only; omega), by first | decide | omega | (dsimp only; omega)⟩ (by decide) rfl g31 ?_
    exact r_iret E dX4_add_64
  · have h := iff' c8 h
    obtain ⟨rfl, rfl, rfl, rfl⟩ := lf4 h
    refine r_iconst E dX4_add_13 (v := -1) (by decide) ?_
    exact r_iret E dX4_add_14
