def ex_J7_copyOf_6403c (d : Dp) (σ : Sg) (q1 : Option Nat) (p2 : Int32) (q3 : Option Nat) : Option (Option Nat × Sg × Nat × Nat) := (if q3 = (some (mir d)) then (if ¬ p2 < 0 then (if Int32.toNatClampNeg p2 * 4 ≤ 536870912 then (Option.bind q1 fun a4 => (if 10 ≤ gc (na σ 13 (Int32.toNatClampNeg p2)) a4 ∧ (gc (na σ 13 (Int32.toNatClampNeg p2)) a4 = 13 ∨ gc (na σ 13 (Int32.toNatClampNeg p2)) a4 = 14) then (if gc (na σ 13 (Int32.toNatClampNeg p2)) a4 = 13 then (if ¬ (if p2 < (Int32.ofNat (gl (na σ 13 (Int32.toNatClampNeg p2)) a4)) then p2 else (Int32.ofNat (gl (na σ 13 (Int32.toNatClampNeg p2)) a4))) < 0 then (if Int32.toNatClampNeg (if p2 < (Int32.ofNat (gl (na σ 13 (Int32.toNatClampNeg p2)) a4)) then p2 else (Int32.ofNat (gl (na σ 13 (Int32.toNatClampNeg p2)) a4))) ≤ gl (na σ 13 (Int32.toNatClampNeg p2)) a4 ∧ Int32.toNatClampNeg (if p2 < (Int32.ofNat (gl (na σ 13 (Int32.toNatClampNeg p2)) a4)) then p2 else (Int32.ofNat (gl (na σ 13 (Int32.toNatClampNeg p2)) a4))) ≤ gl (na σ 13 (Int32.toNatClampNeg p2)) (hs σ) then (if Ac_Nodes (na σ 13 (Int32.toNatClampNeg p2)) a4 (Int32.toNatClampNeg (if p2 < (Int32.ofNat (gl (na σ 13 (Int32.toNatClampNeg p2)) a4)) then p2 else (Int32.ofNat (gl (na σ 13 (Int32.toNatClampNeg p2)) a4)))) then some (some (hs σ), (wr (na σ 13 (Int32.toNatClampNeg p2)) (hs σ) (va_cpy (ap (na σ 13 (Int32.toNatClampNeg p2)) a4) (ap (na σ 13 (Int32.toNatClampNeg p2)) (hs σ)) 0 0 (Int32.toNatClampNeg (if p2 < (Int32.ofNat (gl (na σ 13 (Int32.toNatClampNeg p2)) a4)) then p2 else (Int32.ofNat (gl (na σ 13 (Int32.toNatClampNeg p2)) a4)))))), 0 + 1, 0 + Int32.toNatClampNeg p2) else none) else none) else none) else none) else none)) else none) else none) else none)
set_option maxHeartbeats 4000000 in
set_option maxRecDepth 20000 in
theorem m_J7_copyOf_6403c {l : Launch} {d : Dp} {σ σ' : Sg} {q1 : Option Nat} {p2 : Int32} {q3 : Option Nat} {r : Option Nat} {kF nF : Nat} (h : ex_J7_copyOf_6403c d σ q1 p2 q3 = some (r, σ', kF, nF)) : Mt l d yJ7_copyOf_6403c cJ7_copyOf_6403c 4 (some (.array (.object "java/lang/Object"))) 1 60 σ [va_rf (q1), .int (p2), va_rf (q3)] (some (va_rf r)) σ' kF nF := by
  refine mt_start (own := RJ7) (lv0 := [(0, va_rf (q1)), (1, .int (p2)), (2, va_rf (q3))]) (by decide) rfl (by simp only [lg_sl, List.flatMap_cons, List.flatMap_nil, va_rf_cat]; exact Nat.le_of_ble_eq_true rfl) (by first | rfl | (simp only [lv_args, va_rf_cat]; rfl)) ?_
  intro p e s m args below meth c E hnm
  unfold ex_J7_copyOf_6403c at h
  refine r_aload_n E (x := q3) (i := 2) (j := 2) dJ7_copyOf_6403c_0 rfl rfl ?_
  refine r_ldcM E dJ7_copyOf_6403c_1 wm_2_30 ?_
  refine r_acmp_ne E (o1 := q3) (o2 := some (mir d)) (tgt := 13) dJ7_copyOf_6403c_3 (by decide) (fun c1 => ?_) (fun c1 => ?_)
  · have h := iff' c1 h
    cases h
  · have h := ift c1 h
    obtain ⟨g2, h⟩ := ck h
    obtain ⟨g3, h⟩ := ck h
    obtain ⟨a4, e5, h⟩ := nn h
    obtain ⟨g6, h⟩ := ck h
    obtain ⟨g7, h⟩ := ck h
    obtain ⟨g8, h⟩ := ck h
    obtain ⟨g9, h⟩ := ck h
    obtain ⟨g10, h⟩ := ck h
    obtain ⟨rfl, rfl, rfl, rfl⟩ := lf4 h
    refine r_iload_n E (i := 1) (j := 1) dJ7_copyOf_6403c_6 rfl rfl ?_
    refine r_anewO E dJ7_copyOf_6403c_7 wm_2_32 g2 g3 ⟨by first | decide | omega | (dsimp only; omega), by first | decide | omega | (dsimp only; omega)⟩ ?_
    refine r_goto E (tgt := 24) dJ7_copyOf_6403c_10 (by decide) ?_
    refine r_astore_n E (i := 3) (lv' := [(3, va_rf (some (hs σ))), (0, va_rf (q1)), (1, .int (p2)), (2, va_rf (q3))]) dJ7_copyOf_6403c_24 rfl (by decide) (by first | rfl | (simp only [List.filter_cons, List.filter_nil, va_rf_cat]; rfl)) ?_
    refine r_aload_n E (x := q1) (i := 0) (j := 1) dJ7_copyOf_6403c_25 rfl rfl ?_
    refine r_iconst E dJ7_copyOf_6403c_26 (v := 0) (by decide) ?_
    refine r_aload_n E (x := some (hs σ)) (i := 3) (j := 0) dJ7_copyOf_6403c_27 rfl rfl ?_
    refine r_iconst E dJ7_copyOf_6403c_28 (v := 0) (by decide) ?_
    refine r_aload_n E (x := q1) (i := 0) (j := 1) dJ7_copyOf_6403c_29 rfl rfl ?_
    refine r_alenX E dJ7_copyOf_6403c_30 e5 g6.2 ?_
    refine r_iload_n E (i := 1) (j := 2) dJ7_copyOf_6403c_31 rfl rfl ?_
    refine r_mmin E dJ7_copyOf_6403c_32 wm_2_33 wm_2_34 wm_1_12 wm_2_35 ⟨Nat.le_of_ble_eq_true rfl, Nat.le_of_ble_eq_true rfl⟩ (by simp only [List.map_cons, List.map_nil, va_rf_cat]; exact Nat.le_of_ble_eq_true rfl) (by first | decide | omega | (dsimp only; omega)) (by first | decide | omega | (dsimp only; omega)) ?_
    refine r_copy E dJ7_copyOf_6403c_35 wm_2_36 wm_2_38 wm_2_37 wm_1_14 e5 g7 rfl (gc_na (σ := σ) (cls := 13) (N := Int32.toNatClampNeg p2)) g8 g9 g10 ⟨Nat.le_of_ble_eq_true rfl, Nat.le_of_ble_eq_true rfl⟩ (by decide) ?_
    refine r_aload_n E (x := some (hs σ)) (i := 3) (j := 0) dJ7_copyOf_6403c_38 rfl rfl ?_
    exact r_aret E dJ7_copyOf_6403c_39 (Or.inr ⟨_, rfl⟩)
def ex_J7_copyOf_1904c (d : Dp) (σ : Sg) (q1 : Option Nat) (p2 : Int32) : Option (Option Nat × Sg × Nat × Nat) := (Option.bind q1 fun a1 => (if gc σ a1 = 13 then (b4 (ex_J7_copyOf_6403c d σ q1 p2 (some (mir d))) fun r6 s5 k7 n8 => some (r6, s5, 0 + k7, 0 + n8)) else none))
set_option maxHeartbeats 4000000 in
set_option maxRecDepth 20000 in
theorem m_J7_copyOf_1904c {l : Launch} {d : Dp} {σ σ' : Sg} {q1 : Option Nat} {p2 : Int32} {r : Option Nat} {kF nF : Nat} (h : ex_J7_copyOf_1904c d σ q1 p2 = some (r, σ', kF, nF)) : Mt l d yJ7_copyOf_1904c cJ7_copyOf_1904c 2 (some (.array (.object "java/lang/Object"))) 2 83 σ [va_rf (q1), .int (p2)] (some (va_rf r)) σ' kF nF := by
  refine mt_start (own := RJ7) (lv0 := [(0, va_rf (q1)), (1, .int (p2))]) (by decide) rfl (by simp only [lg_sl, List.flatMap_cons, List.flatMap_nil, va_rf_cat]; exact Nat.le_of_ble_eq_true rfl) (by first | rfl | (simp only [lv_args, va_rf_cat]; rfl)) ?_
  intro p e s m args below meth c E hnm
  unfold ex_J7_copyOf_1904c at h
  obtain ⟨a1, e2, h⟩ := nn h
  obtain ⟨g3, h⟩ := ck h
  obtain ⟨r6, s5, k7, n8, hc4, h⟩ := nb4 h
  obtain ⟨rfl, rfl, rfl, rfl⟩ := lf4 h
  refine r_aload_n E (x := q1) (i := 0) (j := 0) dJ7_copyOf_1904c_0 rfl rfl ?_
  refine r_iload_n E (i := 1) (j := 1) dJ7_copyOf_1904c_1 rfl rfl ?_
  refine r_aload_n E (x := q1) (i := 0) (j := 0) dJ7_copyOf_1904c_2 rfl rfl ?_
  refine r_getC E dJ7_copyOf_1904c_3 wm_2_14 wm_4_122 wm_2_15 wm_2_26 e2 g3 ⟨Nat.le_of_ble_eq_true rfl, Nat.le_of_ble_eq_true rfl⟩ (by simp only [List.map_cons, List.map_nil, va_rf_cat]; exact Nat.le_of_ble_eq_true rfl) ?_
  refine cl_J7_300 E (m_J7_copyOf_6403c hc4) dJ7_copyOf_1904c_6 ⟨Nat.le_of_ble_eq_true rfl, Nat.le_of_ble_eq_true rfl⟩ ⟨by first | decide | omega | (dsimp only; omega), by first | decide | omega | (dsimp only; omega)⟩ (by decide) ?_
  exact r_aret E dJ7_copyOf_1904c_9 (Or.inr ⟨_, rfl⟩)
def ex_Jx4a65c_grow_92f84 (d : Dp) (σ : Sg) (h0 : Nat) (p1 : Int32) : Option (Option Nat × Sg × Nat × Nat) := (if gc σ h0 = 1 then (Option.bind (gp σ 1 h0) fun a2 => (if 10 ≤ gc σ a2 ∧ (gc σ a2 = 13 ∨ gc σ a2 = 14) then (if (0 : Int32) < (Int32.ofNat (gl σ a2)) then (b4 (ex_J8_newLength_cabcc d σ (Int32.ofNat (gl σ a2)) (p1 - (Int32.ofNat (gl σ a2))) ((Int32.ofNat (gl σ a2)) >>> ((1 : Int32) &&& 31))) fun r8 s7 k9 n10 => (if gc s7 h0 = 1 then (b4 (ex_J7_copyOf_1904c d s7 (gp s7 1 h0) r8) fun r14 s13 k15 n16 => (if gc s13 h0 = 1 then some (r14, (sp s13 1 h0 r14), 0 + k9 + k15, 0 + n10 + n16) else none)) else none)) else (if (gp σ 1 h0) = (some (dfl d)) then (if ¬ (if (10 : Int32) < p1 then p1 else (10 : Int32)) < 0 then (if Int32.toNatClampNeg (if (10 : Int32) < p1 then p1 else (10 : Int32)) * 4 ≤ 536870912 then (if gc (na σ 13 (Int32.toNatClampNeg (if (10 : Int32) < p1 then p1 else (10 : Int32)))) h0 = 1 then some (some (hs σ), (sp (na σ 13 (Int32.toNatClampNeg (if (10 : Int32) < p1 then p1 else (10 : Int32)))) 1 h0 (some (hs σ))), 0 + 1, 0 + Int32.toNatClampNeg (if (10 : Int32) < p1 then p1 else (10 : Int32))) else none) else none) else none) else (b4 (ex_J8_newLength_cabcc d σ (Int32.ofNat (gl σ a2)) (p1 - (Int32.ofNat (gl σ a2))) ((Int32.ofNat (gl σ a2)) >>> ((1 : Int32) &&& 31))) fun r24 s23 k25 n26 => (if gc s23 h0 = 1 then (b4 (ex_J7_copyOf_1904c d s23 (gp s23 1 h0) r24) fun r30 s29 k31 n32 => (if gc s29 h0 = 1 then some (r30, (sp s29 1 h0 r30), 0 + k25 + k31, 0 + n26 + n32) else none)) else none)))) else none)) else none)
set_option maxHeartbeats 4000000 in
set_option maxRecDepth 20000 in
theorem m_Jx4a65c_grow_92f84 {l : Launch} {d : Dp} {σ σ' : Sg} {h0 : Nat} {p1 : Int32} {r : Option Nat} {kF nF : Nat} (h : ex_Jx4a65c_grow_92f84 d σ h0 p1 = some (r, σ', kF, nF)) : Mt l d yJx4a65c_grow_92f84 cJx4a65c_grow_92f84 4 (some (.array (.object "java/lang/Object"))) 3 104 σ [.ref h0, .int (p1)] (some (va_rf r)) σ' kF nF := by
  refine mt_start (own := RJx4a65c) (lv0 := [(0, va_rf (some h0)), (1, .int (p1))]) (by decide) rfl (by simp only [lg_sl, List.flatMap_cons, List.flatMap_nil, va_rf_cat]; exact Nat.le_of_ble_eq_true rfl) (by first | rfl | (simp only [lv_args, va_rf_cat]; rfl)) ?_
  intro p e s m args below meth c E hnm
  unfold ex_Jx4a65c_grow_92f84 at h
  obtain ⟨g1, h⟩ := ck h
  obtain ⟨a2, e3, h⟩ := nn h
  obtain ⟨g4, h⟩ := ck h
  refine r_aload_n E (x := some h0) (i := 0) (j := 0) dJx4a65c_grow_92f84_0 rfl rfl ?_
  refine gf_Jx4a65c_9 E (x := gp σ 1 h0) dJx4a65c_grow_92f84_1 rfl g1 rfl ?_
  refine r_alenX E dJx4a65c_grow_92f84_4 e3 g4.2 ?_
  refine r_istore_n E (i := 2) (lv' := [(2, .int (Int32.ofNat (gl σ a2))), (0, va_rf (some h0)), (1, .int (p1))]) dJx4a65c_grow_92f84_5 rfl (by decide) (by first | rfl | (simp only [List.filter_cons, List.filter_nil, va_rf_cat]; rfl)) ?_
  refine r_iload_n E (i := 2) (j := 0) dJx4a65c_grow_92f84_6 rfl rfl ?_
  refine r_if_gt E (tgt := 20) dJx4a65c_grow_92f84_7 (by decide) (fun c5 => ?_) (fun c5 => ?_)
  · have h := ift c5 h
    obtain ⟨r8, s7, k9, n10, hc6, h⟩ := nb4 h
    obtain ⟨g11, h⟩ := ck h
    obtain ⟨r14, s13, k15, n16, hc12, h⟩ := nb4 h
    obtain ⟨g17, h⟩ := ck h
    obtain ⟨rfl, rfl, rfl, rfl⟩ := lf4 h
    refine r_iload_n E (i := 2) (j := 0) dJx4a65c_grow_92f84_20 rfl rfl ?_
    refine r_iload_n E (i := 1) (j := 2) dJx4a65c_grow_92f84_21 rfl rfl ?_
    refine r_iload_n E (i := 2) (j := 0) dJx4a65c_grow_92f84_22 rfl rfl ?_
    refine r_isub E dJx4a65c_grow_92f84_23 ?_
    refine r_iload_n E (i := 2) (j := 0) dJx4a65c_grow_92f84_24 rfl rfl ?_
    refine r_iconst E dJx4a65c_grow_92f84_25 (v := 1) (by decide) ?_
    refine r_ishr E dJx4a65c_grow_92f84_26 ?_
    refine cl_Jx4a65c_73 E (m_J8_newLength_cabcc hc6) dJx4a65c_grow_92f84_27 ⟨Nat.le_of_ble_eq_true rfl, Nat.le_of_ble_eq_true rfl⟩ ⟨by first | decide | omega | (dsimp only; omega), by first | decide | omega | (dsimp only; omega)⟩ (by decide) ?_
    refine r_istore_n E (i := 3) (lv' := [(3, .int (r8)), (2, .int (Int32.ofNat (gl σ a2))), (0, va_rf (some h0)), (1, .int (p1))]) dJx4a65c_grow_92f84_30 rfl (by decide) (by first | rfl | (simp only [List.filter_cons, List.filter_nil, va_rf_cat]; rfl)) ?_
    refine r_aload_n E (x := some h0) (i := 0) (j := 2) dJx4a65c_grow_92f84_31 rfl rfl ?_
    refine r_aload_n E (x := some h0) (i := 0) (j := 2) dJx4a65c_grow_92f84_32 rfl rfl ?_
    refine gf_Jx4a65c_9 E (x := gp s7 1 h0) dJx4a65c_grow_92f84_33 rfl g11 rfl ?_
    refine r_iload_n E (i := 3) (j := 0) dJx4a65c_grow_92f84_36 rfl rfl ?_
    refine cl_Jx4a65c_66 E (m_J7_copyOf_1904c hc12) dJx4a65c_grow_92f84_37 ⟨Nat.le_of_ble_eq_true rfl, Nat.le_of_ble_eq_true rfl⟩ ⟨by first | decide | omega | (dsimp only; omega), by first | decide | omega | (dsimp only; omega)⟩ (by simp only [List.map_cons, List.map_nil, va_rf_cat]; exact Nat.le_of_ble_eq_true rfl) ?_
    refine r_dup_x1 E dJx4a65c_grow_92f84_40 (va_rf_cat _) (va_rf_cat _) ?_
    refine pf_Jx4a65c_9 E dJx4a65c_grow_92f84_41 rfl g17 ?_
    exact r_aret E dJx4a65c_grow_92f84_44 (Or.inr ⟨_, rfl⟩)
  · have h := iff' c5 h
    refine r_aload_n E (x := some h0) (i := 0) (j := 1) dJx4a65c_grow_92f84_10 rfl rfl ?_
    refine gf_Jx4a65c_9 E (x := gp σ 1 h0) dJx4a65c_grow_92f84_11 rfl g1 rfl ?_
    refine r_gets E dJx4a65c_grow_92f84_14 wm_1_50 ?_
    refine r_acmp_eq E (o1 := gp σ 1 h0) (o2 := some (dfl d)) (tgt := 45) dJx4a65c_grow_92f84_17 (by decide) (fun c18 => ?_) (fun c18 => ?_)
    · have h := ift c18 h
      obtain ⟨g19, h⟩ := ck h
      obtain ⟨g20, h⟩ := ck h
      obtain ⟨g21, h⟩ := ck h
      obtain ⟨rfl, rfl, rfl, rfl⟩ := lf4 h
      refine r_aload_n E (x := some h0) (i := 0) (j := 1) dJx4a65c_grow_92f84_45 rfl rfl ?_
      refine r_bipush E dJx4a65c_grow_92f84_46 (v := 10) (by decide) ?_
      refine r_iload_n E (i := 1) (j := 2) dJx4a65c_grow_92f84_48 rfl rfl ?_
      refine r_mmax E dJx4a65c_grow_92f84_49 wm_2_39 wm_2_5 wm_1_12 wm_2_6 ⟨Nat.le_of_ble_eq_true rfl, Nat.le_of_ble_eq_true rfl⟩ (by simp only [List.map_cons, List.map_nil, va_rf_cat]; exact Nat.le_of_ble_eq_true rfl) (by first | decide | omega | (dsimp only; omega)) (by first | decide | omega | (dsimp only; omega)) ?_
      refine r_anewO E dJx4a65c_grow_92f84_52 wm_2_40 g19 g20 ⟨by first | decide | omega | (dsimp only; omega), by first | decide | omega | (dsimp only; omega)⟩ ?_
      refine r_dup_x1 E dJx4a65c_grow_92f84_55 (va_rf_cat _) (va_rf_cat _) ?_
      refine pf_Jx4a65c_9 E dJx4a65c_grow_92f84_56 rfl g21 ?_
      exact r_aret E dJx4a65c_grow_92f84_59 (Or.inr ⟨_, rfl⟩)
    · have h := iff' c18 h
      obtain ⟨r24, s23, k25, n26, hc22, h⟩ := nb4 h
      obtain ⟨g27, h⟩ := ck h
      obtain ⟨r30, s29, k31, n32, hc28, h⟩ := nb4 h
      obtain ⟨g33, h⟩ := ck h
      obtain ⟨rfl, rfl, rfl, rfl⟩ := lf4 h
      refine r_iload_n E (i := 2) (j := 0) dJx4a65c_grow_92f84_20 rfl rfl ?_
      refine r_iload_n E (i := 1) (j := 2) dJx4a65c_grow_92f84_21 rfl rfl ?_
      refine r_iload_n E (i := 2) (j := 0) dJx4a65c_grow_92f84_22 rfl rfl ?_
      refine r_isub E dJx4a65c_grow_92f84_23 ?_
      refine r_iload_n E (i := 2) (j := 0) dJx4a65c_grow_92f84_24 rfl rfl ?_
      refine r_iconst E dJx4a65c_grow_92f84_25 (v := 1) (by decide) ?_
      refine r_ishr E dJx4a65c_grow_92f84_26 ?_
      refine cl_Jx4a65c_73 E (m_J8_newLength_cabcc hc22) dJx4a65c_grow_92f84_27 ⟨Nat.le_of_ble_eq_true rfl, Nat.le_of_ble_eq_true rfl⟩ ⟨by first | decide | omega | (dsimp only; omega), by first | decide | omega | (dsimp only; omega)⟩ (by decide) ?_
      refine r_istore_n E (i := 3) (lv' := [(3, .int (r24)), (2, .int (Int32.ofNat (gl σ a2))), (0, va_rf (some h0)), (1, .int (p1))]) dJx4a65c_grow_92f84_30 rfl (by decide) (by first | rfl | (simp only [List.filter_cons, List.filter_nil, va_rf_cat]; rfl)) ?_
      refine r_aload_n E (x := some h0) (i := 0) (j := 2) dJx4a65c_grow_92f84_31 rfl rfl ?_
      refine r_aload_n E (x := some h0) (i := 0) (j := 2) dJx4a65c_grow_92f84_32 rfl rfl ?_
      refine gf_Jx4a65c_9 E (x := gp s23 1 h0) dJx4a65c_grow_92f84_33 rfl g27 rfl ?_
      refine r_iload_n E (i := 3) (j := 0) dJx4a65c_grow_92f84_36 rfl rfl ?_
      refine cl_Jx4a65c_66 E (m_J7_copyOf_1904c hc28) dJx4a65c_grow_92f84_37 ⟨Nat.le_of_ble_eq_true rfl, Nat.le_of_ble_eq_true rfl⟩ ⟨by first | decide | omega | (dsimp only; omega), by first | decide | omega | (dsimp only; omega)⟩ (by simp only [List.map_cons, List.map_nil, va_rf_cat]; exact Nat.le_of_ble_eq_true rfl) ?_
      refine r_dup_x1 E dJx4a65c_grow_92f84_40 (va_rf_cat _) (va_rf_cat _) ?_
      refine pf_Jx4a65c_9 E dJx4a65c_grow_92f84_41 rfl g33 ?_
      exact r_aret E dJx4a65c_grow_92f84_44 (Or.inr ⟨_, rfl⟩)
def ex_Jx4a65c_grow_d5877 (d : Dp) (σ : Sg) (h0 : Nat) : Option (Option Nat × Sg × Nat × Nat) := (if gc σ h0 = 1 then (b4 (ex_Jx4a65c_grow_92f84 d σ h0 ((gi σ 2 h0) + (1 : Int32))) fun r4 s3 k5 n6 => some (r4, s3, 0 + k5, 0 + n6)) else none)
set_option maxHeartbeats 4000000 in
set_option maxRecDepth 20000 in
theorem m_Jx4a65c_grow_d5877 {l : Launch} {d : Dp} {σ σ' : Sg} {h0 : Nat} {r : Option Nat} {kF nF : Nat} (h : ex_Jx4a65c_grow_d5877 d σ h0 = some (r, σ', kF, nF)) : Mt l d yJx4a65c_grow_d5877 cJx4a65c_grow_d5877 1 (some (.array (.object "java/lang/Object"))) 4 127 σ [.ref h0] (some (va_rf r)) σ' kF nF := by
  refine mt_start (own := RJx4a65c) (lv0 := [(0, va_rf (some h0))]) (by decide) rfl (by simp only [lg_sl, List.flatMap_cons, List.flatMap_nil, va_rf_cat]; exact Nat.le_of_ble_eq_true rfl) (by first | rfl | (simp only [lv_args, va_rf_cat]; rfl)) ?_
  intro p e s m args below meth c E hnm
  unfold ex_Jx4a65c_grow_d5877 at h
  obtain ⟨g1, h⟩ := ck h
  obtain ⟨r4, s3, k5, n6, hc2, h⟩ := nb4 h
  obtain ⟨rfl, rfl, rfl, rfl⟩ := lf4 h
  refine r_aload_n E (x := some h0) (i := 0) (j := 0) dJx4a65c_grow_d5877_0 rfl rfl ?_
  refine r_aload_n E (x := some h0) (i := 0) (j := 0) dJx4a65c_grow_d5877_1 rfl rfl ?_
  refine gf_Jx4a65c_48 E (x := gi σ 2 h0) dJx4a65c_grow_d5877_2 rfl g1 rfl ?_
  refine r_iconst E dJx4a65c_grow_d5877_5 (v := 1) (by decide) ?_
  refine r_iadd E dJx4a65c_grow_d5877_6 ?_
  refine cl_Jx4a65c_69 E (m_Jx4a65c_grow_92f84 hc2) dJx4a65c_grow_d5877_7 ⟨Nat.le_of_ble_eq_true rfl, Nat.le_of_ble_eq_true rfl⟩ ⟨by first | decide | omega | (dsimp only; omega), by first | decide | omega | (dsimp only; omega)⟩ (by decide) rfl g1 ?_
  exact r_aret E dJx4a65c_grow_d5877_10 (Or.inr ⟨_, rfl⟩)
def ex_Jx4a65c_add_72be8 (d : Dp) (σ : Sg) (h0 : Nat) (q1 : Option Nat) (q2 : Option Nat) (p3 : Int32) : Option (Unit × Sg × Nat × Nat) := (Option.bind q2 fun a1 => (if 10 ≤ gc σ a1 ∧ (gc σ a1 = 13 ∨ gc σ a1 = 14) then (if p3 = (Int32.ofNat (gl σ a1)) then (if gc σ h0 = 1 then (b4 (ex_Jx4a65c_grow_d5877 d σ h0) fun r14 s13 k15 n16 => (Option.bind r14 fun a17 => (if gc s13 a17 = 13 then (if ¬ (p3 < 0 ∨ gl s13 a17 ≤ Int32.toNatClampNeg p3) then (Option.bind q1 fun a21 => (if gc s13 a21 = 5 then (if gc s13 h0 = 1 then some ((), (si (wp s13 a17 (Int32.toNatClampNeg p3) q1) 2 h0 (p3 + (1 : Int32))), 0 + k15, 0 + n16) else none) else none)) else none) else none))) else none) else (if gc σ a1 = 13 then (if ¬ (p3 < 0 ∨ gl σ a1 ≤ Int32.toNatClampNeg p3) then (Option.bind q1 fun a7 => (if gc σ a7 = 5 then (if gc σ h0 = 1 then some ((), (si (wp σ a1 (Int32.toNatClampNeg p3) q1) 2 h0 (p3 + (1 : Int32))), 0, 0) else none) else none)) else none) else none)) else none))
set_option maxHeartbeats 4000000 in
set_option maxRecDepth 20000 in
theorem m_Jx4a65c_add_72be8 {l : Launch} {d : Dp} {σ σ' : Sg} {h0 : Nat} {q1 : Option Nat} {q2 : Option Nat} {p3 : Int32} {r : Unit} {kF nF : Nat} (h : ex_Jx4a65c_add_72be8 d σ h0 q1 q2 p3 = some (r, σ', kF, nF)) : Mt l d yJx4a65c_add_72be8 cJx4a65c_add_72be8 4 none 5 147 σ [.ref h0, va_rf (q1), va_rf (q2), .int (p3)] none σ' kF nF := by
  refine mt_start (own := RJx4a65c) (lv0 := [(0, va_rf (some h0)), (1, va_rf (q1)), (2, va_rf (q2)), (3, .int (p3))]) (by decide) rfl (by simp only [lg_sl, List.flatMap_cons, List.flatMap_nil, va_rf_cat]; exact Nat.le_of_ble_eq_true rfl) (by first | rfl | (simp only [lv_args, va_rf_cat]; rfl)) ?_
  intro p e s m args below meth c E hnm
  unfold ex_Jx4a65c_add_72be8 at h
  obtain ⟨a1, e2, h⟩ := nn h
  obtain ⟨g3, h⟩ := ck h
  refine r_iload_n E (i := 3) (j := 3) dJx4a65c_add_72be8_0 rfl rfl ?_
  refine r_aload_n E (x := q2) (i := 2) (j := 2) dJx4a65c_add_72be8_1 rfl rfl ?_
  refine r_alenX E dJx4a65c_add_72be8_2 e2 g3.2 ?_
  refine r_icmp_ne E (tgt := 11) dJx4a65c_add_72be8_3 (by decide) (fun c4 => ?_) (fun c4 => ?_)
  · have h := iff' c4 h
    obtain ⟨g5, h⟩ := ck h
    obtain ⟨g6, h⟩ := ck h
    obtain ⟨a7, e8, h⟩ := nn h
    obtain ⟨g9, h⟩ := ck h
    obtain ⟨g10, h⟩ := ck h
    obtain ⟨rfl, rfl, rfl, rfl⟩ := lf4 h
    refine r_aload_n E (x := q2) (i := 2) (j := 2) dJx4a65c_add_72be8_11 rfl rfl ?_
    refine r_iload_n E (i := 3) (j := 3) dJx4a65c_add_72be8_12 rfl rfl ?_
    refine r_aload_n E (x := q1) (i := 1) (j := 1) dJx4a65c_add_72be8_13 rfl rfl ?_
    refine r_aastO E dJx4a65c_add_72be8_14 e2 g5 g6 e8 g9 (obj_known E) ?_
    refine r_aload_n E (x := some h0) (i := 0) (j := 0) dJx4a65c_add_72be8_15 rfl rfl ?_
    refine r_iload_n E (i := 3) (j := 3) dJx4a65c_add_72be8_16 rfl rfl ?_
    refine r_iconst E dJx4a65c_add_72be8_17 (v := 1) (by decide) ?_
    refine r_iadd E dJx4a65c_add_72be8_18 ?_
    refine pf_Jx4a65c_48 E dJx4a65c_add_72be8_19 rfl g10 ?_
    exact r_vret E dJx4a65c_add_72be8_22
  · have h := ift c4 h
    obtain ⟨g11, h⟩ := ck h
    obtain ⟨r14, s13, k15, n16, hc12, h⟩ := nb4 h
    obtain ⟨a17, e18, h⟩ := nn h
    obtain ⟨g19, h⟩ := ck h
    obtain ⟨g20, h⟩ := ck h
    obtain ⟨a21, e22, h⟩ := nn h
    obtain ⟨g23, h⟩ := ck h
    obtain ⟨g24, h⟩ := ck h
    obtain ⟨rfl, rfl, rfl, rfl⟩ := lf4 h
    refine r_aload_n E (x := some h0) (i := 0) (j := 0) dJx4a65c_add_72be8_6 rfl rfl ?_
    refine cl_Jx4a65c_129 E (m_Jx4a65c_grow_d5877 hc12) dJx4a65c_add_72be8_7 ⟨Nat.le_of_ble_eq_true rfl, Nat.le_of_ble_eq_true rfl⟩ ⟨by first | decide | omega | (dsimp only; omega), by first | decide | omega | (dsimp only; omega)⟩ (by decide) rfl g11 ?_
    refine r_astore_n E (i := 2) (lv' := [(2, va_rf (r14)), (0, va_rf (some h0)), (1, va_rf (q1)), (3, .int (p3))]) dJx4a65c_add_72be8_10 rfl (by decide) (by first | rfl | (simp only [List.filter_cons, List.filter_nil, va_rf_cat]; rfl)) ?_
    refine r_aload_n E (x := r14) (i := 2) (j := 0) dJx4a65c_add_72be8_11 rfl rfl ?_
    refine r_iload_n E (i := 3) (j := 3) dJx4a65c_add_72be8_12 rfl rfl ?_
    refine r_aload_n E (x := q1) (i := 1) (j := 2) dJx4a65c_add_72be8_13 rfl rfl ?_
    refine r_aastO E dJx4a65c_add_72be8_14 e18 g19 g20 e22 g23 (obj_known E) ?_
    refine r_aload_n E (x := some h0) (i := 0) (j := 1) dJx4a65c_add_72be8_15 rfl rfl ?_
    refine r_iload_n E (i := 3) (j := 3) dJx4a65c_add_72be8_16 rfl rfl ?_
    refine r_iconst E dJx4a65c_add_72be8_17 (v := 1) (by decide) ?_
    refine r_iadd E dJx4a65c_add_72be8_18 ?_
    refine pf_Jx4a65c_48 E dJx4a65c_add_72be8_19 rfl g24 ?_
    exact r_vret E dJx4a65c_add_72be8_22
def ex_Jx4a65c_add_9ea2d (d : Dp) (σ : Sg) (h0 : Nat) (q1 : Option Nat) : Option (Int32 × Sg × Nat × Nat) := (if gc σ h0 = 1 then (b4 (ex_Jx4a65c_add_72be8 d (si σ 0 h0 ((gi σ 0 h0) + (1 : Int32))) h0 q1 (gp σ 1 h0) (gi σ 2 h0)) fun r4 s3 k5 n6 => some ((1 : Int32), s3, 0 + k5, 0 + n6)) else none)
set_option maxHeartbeats 4000000 in
set_option maxRecDepth 20000 in
theorem m_Jx4a65c_add_9ea2d {l : Launch} {d : Dp} {σ σ' : Sg} {h0 : Nat} {q1 : Option Nat} {r : Int32} {kF nF : Nat} (h : ex_Jx4a65c_add_9ea2d d σ h0 q1 = some (r, σ', kF, nF)) : Mt l d yJx4a65c_add_9ea2d cJx4a65c_add_9ea2d 2 (some .boolean) 6 170 σ [.ref h0, va_rf (q1)] (some (.int r)) σ' kF nF := by
  refine mt_start (own := RJx4a65c) (lv0 := [(0, va_rf (some h0)), (1, va_rf (q1))]) (by decide) rfl (by simp only [lg_sl, List.flatMap_cons, List.flatMap_nil, va_rf_cat]; exact Nat.le_of_ble_eq_true rfl) (by first | rfl | (simp only [lv_args, va_rf_cat]; rfl)) ?_
  intro p e s m args below meth c E hnm
  unfold ex_Jx4a65c_add_9ea2d at h
  obtain ⟨g1, h⟩ := ck h
  obtain ⟨r4, s3, k5, n6, hc2, h⟩ := nb4 h
  obtain ⟨rfl, rfl, rfl, rfl⟩ := lf4 h
  refine r_aload_n E (x := some h0) (i := 0) (j := 0) dJx4a65c_add_9ea2d_0 rfl rfl ?_
  refine r_dup E dJx4a65c_add_9ea2d_1 (va_rf_cat _) ?_
  refine gf_Jx4a65c_63 E (x := gi σ 0 h0) dJx4a65c_add_9ea2d_2 rfl g1 rfl ?_
  refine r_iconst E dJx4a65c_add_9ea2d_5 (v := 1) (by decide) ?_
  refine r_iadd E dJx4a65c_add_9ea2d_6 ?_
  refine pf_Jx4a65c_63 E dJx4a65c_add_9ea2d_7 rfl g1 ?_
  refine r_aload_n E (x := some h0) (i := 0) (j := 0) dJx4a65c_add_9ea2d_10 rfl rfl ?_
  refine r_aload_n E (x := q1) (i := 1) (j := 1) dJx4a65c_add_9ea2d_11 rfl rfl ?_
  refine r_aload_n E (x := some h0) (i := 0) (j := 0) dJx4a65c_add_9ea2d_12 rfl rfl ?_
  refine gf_Jx4a65c_9 E (x := gp σ 1 h0) dJx4a65c_add_9ea2d_13 rfl g1 rfl ?_
  refine r_aload_n E (x := some h0) (i := 0) (j := 0) dJx4a65c_add_9ea2d_16 rfl rfl ?_
  refine gf_Jx4a65c_48 E (x := gi σ 2 h0) dJx4a65c_add_9ea2d_17 rfl g1 rfl ?_
  refine cl_Jx4a65c_131 E (m_Jx4a65c_add_72be8 hc2) dJx4a65c_add_9ea2d_20 ⟨Nat.le_of_ble_eq_true rfl, Nat.le_of_ble_eq_true rfl⟩ ⟨by first | decide | omega | (dsimp only; omega), by first | decide | omega | (dsimp only; omega)⟩ (by decide) rfl g1 ?_
  refine r_iconst E dJx4a65c_add_9ea2d_23 (v := 1) (by decide) ?_
  exact r_zret E dJx4a65c_add_9ea2d_24 (by decide)
