def lp_Jx4a65c_clear_da8c8 : Nat → Dp → Sg → Nat → Option Nat → Int32 → Int32 → Option (Unit × Sg)
  | 0, _, _, _, _, _, _ => none
  | f + 1, d, σ, h0, v1, v2, v3 => (if v2 ≤ v3 then some ((), σ) else (Option.bind v1 fun a3 => (if gc σ a3 = 13 then (if ¬ (v3 < 0 ∨ gl σ a3 ≤ Int32.toNatClampNeg v3) then lp_Jx4a65c_clear_da8c8 f d (wp σ a3 (Int32.toNatClampNeg v3) none) h0 v1 v2 (v3 + 1) else none) else none)))
set_option maxHeartbeats 4000000 in
set_option maxRecDepth 20000 in
theorem wlp_Jx4a65c_clear_da8c8 {p : Program} {l : Launch} {e : Env} {s : State} {m : MethodId} {args : Array Value} {below : List Frame} {meth : Method} {c : Code} {d : Dp} {σ0 σ' : Sg} {r : Unit} (E : Ev p s m args meth c RJx4a65c cJx4a65c_clear_da8c8 4 none d (AA σ0)) : ∀ (f : Nat) (σ : Sg) (h0 : Nat) (v1 : Option Nat) (v2 : Int32) (v3 : Int32), lp_Jx4a65c_clear_da8c8 f d σ h0 v1 v2 v3 = some (r, σ') → Gk p l e { frames := 0, cells := 0, slots := 0, locals := 0 } s m args below meth c d (AA σ0) (MQ below (QQ d σ0 none σ') args s 0 0 (AA σ0)) 4 σ 0 0 27 [(0, va_rf (some h0)), (1, va_rf (v1)), (2, .int (v2)), (3, .int (v3))] [] := by
  intro f
  induction f with
  | zero => intro _ _ _ _ _ h; cases h
  | succ f ih =>
    intro σ h0 v1 v2 v3 h
    unfold lp_Jx4a65c_clear_da8c8 at h
    refine r_iload_n E (i := 3) (j := 3) dJx4a65c_clear_da8c8_27 rfl rfl ?_
    refine r_iload_n E (i := 2) (j := 2) dJx4a65c_clear_da8c8_28 rfl rfl ?_
    refine r_icmp_ge E (tgt := 42) dJx4a65c_clear_da8c8_29 (by decide) (fun c2 => ?_) (fun c2 => ?_)
    · have h := ift c2 h
      obtain ⟨rfl, rfl⟩ := lf2 h
      exact r_vret E dJx4a65c_clear_da8c8_42
    · have h := iff' c2 h
      obtain ⟨a3, e4, h⟩ := nn h
      obtain ⟨g5, h⟩ := ck h
      obtain ⟨g6, h⟩ := ck h
      refine r_aload_n E (x := v1) (i := 1) (j := 1) dJx4a65c_clear_da8c8_32 rfl rfl ?_
      refine r_iload_n E (i := 3) (j := 3) dJx4a65c_clear_da8c8_33 rfl rfl ?_
      refine r_null E dJx4a65c_clear_da8c8_34 ?_
      refine r_aastNO E dJx4a65c_clear_da8c8_35 e4 g5 g6 rfl ?_
      refine r_iinc E (j := 3) (v := v3 + 1) (lv' := [(3, .int (v3 + 1)), (0, va_rf (some h0)), (1, va_rf (v1)), (2, .int (v2))]) dJx4a65c_clear_da8c8_36 rfl rfl (by decide) (by first | rfl | (simp only [List.filter_cons, List.filter_nil, va_rf_cat]; rfl)) ?_
      refine r_goto E (tgt := 27) dJx4a65c_clear_da8c8_39 (by decide) ?_
      refine r_sub [1, 2, 3, 0] (lv' := [(0, va_rf (some h0)), (1, va_rf (v1)), (2, .int (v2)), (3, .int (v3 + 1))]) rfl ?_
      exact ih _ _ _ _ _ h
def ex_Jx4a65c_clear_da8c8 (d : Dp) (σ : Sg) (h0 : Nat) : Option (Unit × Sg) := (if gc σ h0 = 1 then lp_Jx4a65c_clear_da8c8 4010 d (si (si σ 0 h0 ((gi σ 0 h0) + (1 : Int32))) 2 h0 (0 : Int32)) h0 (gp σ 1 h0) (gi σ 2 h0) (0 : Int32) else none)
set_option maxHeartbeats 4000000 in
set_option maxRecDepth 20000 in
theorem m_Jx4a65c_clear_da8c8 {l : Launch} {d : Dp} {σ σ' : Sg} {h0 : Nat} {r : Unit} (h : ex_Jx4a65c_clear_da8c8 d σ h0 = some (r, σ')) : Mt l d yJx4a65c_clear_da8c8 cJx4a65c_clear_da8c8 4 none 0 0 σ [.ref h0] none σ' 0 0 := by
  refine mt_start (own := RJx4a65c) (lv0 := [(0, va_rf (some h0))]) (by decide) rfl (by simp only [lg_sl, List.flatMap_cons, List.flatMap_nil, va_rf_cat]; exact Nat.le_of_ble_eq_true rfl) (by first | rfl | (simp only [lv_args, va_rf_cat]; rfl)) ?_
  intro p e s m args below meth c E hnm
  unfold ex_Jx4a65c_clear_da8c8 at h
  obtain ⟨g1, h⟩ := ck h
  refine r_aload_n E (x := some h0) (i := 0) (j := 0) dJx4a65c_clear_da8c8_0 rfl rfl ?_
  refine r_dup E dJx4a65c_clear_da8c8_1 (va_rf_cat _) ?_
  refine gf_Jx4a65c_63 E (x := gi σ 0 h0) dJx4a65c_clear_da8c8_2 rfl g1 rfl ?_
  refine r_iconst E dJx4a65c_clear_da8c8_5 (v := 1) (by decide) ?_
  refine r_iadd E dJx4a65c_clear_da8c8_6 ?_
  refine pf_Jx4a65c_63 E dJx4a65c_clear_da8c8_7 rfl g1 ?_
  refine r_aload_n E (x := some h0) (i := 0) (j := 0) dJx4a65c_clear_da8c8_10 rfl rfl ?_
  refine gf_Jx4a65c_9 E (x := gp σ 1 h0) dJx4a65c_clear_da8c8_11 rfl g1 rfl ?_
  refine r_astore_n E (i := 1) (lv' := [(1, va_rf (gp σ 1 h0)), (0, va_rf (some h0))]) dJx4a65c_clear_da8c8_14 rfl (by decide) (by first | rfl | (simp only [List.filter_cons, List.filter_nil, va_rf_cat]; rfl)) ?_
  refine r_aload_n E (x := some h0) (i := 0) (j := 1) dJx4a65c_clear_da8c8_15 rfl rfl ?_
  refine gf_Jx4a65c_48 E (x := gi σ 2 h0) dJx4a65c_clear_da8c8_16 rfl g1 rfl ?_
  refine r_istore_n E (i := 2) (lv' := [(2, .int (gi σ 2 h0)), (1, va_rf (gp σ 1 h0)), (0, va_rf (some h0))]) dJx4a65c_clear_da8c8_19 rfl (by decide) (by first | rfl | (simp only [List.filter_cons, List.filter_nil, va_rf_cat]; rfl)) ?_
  refine r_aload_n E (x := some h0) (i := 0) (j := 2) dJx4a65c_clear_da8c8_20 rfl rfl ?_
  refine r_iconst E dJx4a65c_clear_da8c8_21 (v := 0) (by decide) ?_
  refine r_dup_x1 E dJx4a65c_clear_da8c8_22 rfl (va_rf_cat _) ?_
  refine pf_Jx4a65c_48 E dJx4a65c_clear_da8c8_23 rfl g1 ?_
  refine r_istore_n E (i := 3) (lv' := [(3, .int ((0 : Int32))), (2, .int (gi σ 2 h0)), (1, va_rf (gp σ 1 h0)), (0, va_rf (some h0))]) dJx4a65c_clear_da8c8_26 rfl (by decide) (by first | rfl | (simp only [List.filter_cons, List.filter_nil, va_rf_cat]; rfl)) ?_
  refine r_sub [3, 2, 1, 0] (lv' := [(0, va_rf (some h0)), (1, va_rf (gp σ 1 h0)), (2, .int (gi σ 2 h0)), (3, .int ((0 : Int32)))]) rfl ?_
  exact wlp_Jx4a65c_clear_da8c8 E _ _ _ _ _ _ h
def ex_X4_clear (d : Dp) (σ : Sg) (h0 : Nat) : Option (Unit × Sg) := (if gc σ h0 = 6 then (Option.bind (gp σ 500 h0) fun a2 => (if gc σ a2 = 1 then (b2 (ex_Jx4a65c_clear_da8c8 d σ a2) fun r7 s6 => some ((), s6)) else none)) else none)
set_option maxHeartbeats 4000000 in
set_option maxRecDepth 20000 in
theorem m_X4_clear {l : Launch} {d : Dp} {σ σ' : Sg} {h0 : Nat} {r : Unit} (h : ex_X4_clear d σ h0 = some (r, σ')) : Mt l d yX4_clear cX4_clear 1 none 1 23 σ [.ref h0] none σ' 0 0 := by
  refine mt_start (own := RX4) (lv0 := [(0, va_rf (some h0))]) (by decide) rfl (by simp only [lg_sl, List.flatMap_cons, List.flatMap_nil, va_rf_cat]; exact Nat.le_of_ble_eq_true rfl) (by first | rfl | (simp only [lv_args, va_rf_cat]; rfl)) ?_
  intro p e s m args below meth c E hnm
  unfold ex_X4_clear at h
  obtain ⟨g1, h⟩ := ck h
  obtain ⟨a2, e3, h⟩ := nn h
  obtain ⟨g4, h⟩ := ck h
  obtain ⟨r7, s6, hc5, h⟩ := nb2 h
  obtain ⟨rfl, rfl⟩ := lf2 h
  refine r_aload_n E (x := some h0) (i := 0) (j := 0) dX4_clear_0 rfl rfl ?_
  refine gf_X4_12 E (x := gp σ 500 h0) dX4_clear_1 rfl g1 rfl ?_
  refine cl_X4_51 E (m_Jx4a65c_clear_da8c8 hc5) dX4_clear_4 ⟨Nat.le_of_ble_eq_true rfl, Nat.le_of_ble_eq_true rfl⟩ ⟨by first | decide | omega | (dsimp only; omega), by first | decide | omega | (dsimp only; omega)⟩ (by decide) e3 g4 ?_
  exact r_vret E dX4_clear_7
def ex_X5_hasValue (d : Dp) (σ : Sg) (h0 : Nat) : Option (Int32 × Sg) := (if gc σ h0 = 7 then (if (gi σ 601 h0) = (1 : Int32) then some ((1 : Int32), σ) else (if (gi σ 601 h0) = (6 : Int32) then some ((1 : Int32), σ) else some ((0 : Int32), σ))) else none)
set_option maxHeartbeats 4000000 in
set_option maxRecDepth 20000 in
theorem m_X5_hasValue {l : Launch} {d : Dp} {σ σ' : Sg} {h0 : Nat} {r : Int32} (h : ex_X5_hasValue d σ h0 = some (r, σ')) : Mt l d yX5_hasValue cX5_hasValue 1 (some .boolean) 0 0 σ [.ref h0] (some (.int r)) σ' 0 0 := by
  refine mt_start (own := RX5) (lv0 := [(0, va_rf (some h0))]) (by decide) rfl (by simp only [lg_sl, List.flatMap_cons, List.flatMap_nil, va_rf_cat]; exact Nat.le_of_ble_eq_true rfl) (by first | rfl | (simp only [lv_args, va_rf_cat]; rfl)) ?_
  intro p e s m args below meth c E hnm
  unfold ex_X5_hasValue at h
  obtain ⟨g1, h⟩ := ck h
  refine r_aload_n E (x := some h0) (i := 0) (j := 0) dX5_hasValue_0 rfl rfl ?_
  refine gf_X5_15 E (x := gi σ 601 h0) dX5_hasValue_1 rfl g1 rfl ?_
  refine r_iconst E dX5_hasValue_4 (v := 1) (by decide) ?_
  refine r_icmp_eq E (tgt := 17) dX5_hasValue_5 (by decide) (fun c2 => ?_) (fun c2 => ?_)
  · have h := ift c2 h
    obtain ⟨rfl, rfl⟩ := lf2 h
    refine r_iconst E dX5_hasValue_17 (v := 1) (by decide) ?_
    refine r_goto E (tgt := 22) dX5_hasValue_18 (by decide) ?_
    exact r_zret E dX5_hasValue_22 (by decide)
  · have h := iff' c2 h
    refine r_aload_n E (x := some h0) (i := 0) (j := 0) dX5_hasValue_8 rfl rfl ?_
    refine gf_X5_15 E (x := gi σ 601 h0) dX5_hasValue_9 rfl g1 rfl ?_
    refine r_bipush E dX5_hasValue_12 (v := 6) (by decide) ?_
    refine r_icmp_ne E (tgt := 21) dX5_hasValue_14 (by decide) (fun c3 => ?_) (fun c3 => ?_)
    · have h := iff' c3 h
      obtain ⟨rfl, rfl⟩ := lf2 h
      refine r_iconst E dX5_hasValue_21 (v := 0) (by decide) ?_
      exact r_zret E dX5_hasValue_22 (by decide)
    · have h := ift c3 h
      obtain ⟨rfl, rfl⟩ := lf2 h
      refine r_iconst E dX5_hasValue_17 (v := 1) (by decide) ?_
      refine r_goto E (tgt := 22) dX5_hasValue_18 (by decide) ?_
      exact r_zret E dX5_hasValue_22 (by decide)
def ex_X5_placesOrNone (d : Dp) (σ : Sg) (h0 : Nat) : Option (Int32 × Sg) := (if gc σ h0 = 7 then (if (gp σ 606 h0) = none then some ((-1 : Int32), σ) else (Option.bind (gp σ 606 h0) fun a3 => (if gc σ a3 = 12 then some (Int32.ofNat (gl σ a3), σ) else none))) else none)
set_option maxHeartbeats 4000000 in
set_option maxRecDepth 20000 in
theorem m_X5_placesOrNone {l : Launch} {d : Dp} {σ σ' : Sg} {h0 : Nat} {r : Int32} (h : ex_X5_placesOrNone d σ h0 = some (r, σ')) : Mt l d yX5_placesOrNone cX5_placesOrNone 1 (some .int) 0 0 σ [.ref h0] (some (.int r)) σ' 0 0 := by
  refine mt_start (own := RX5) (lv0 := [(0, va_rf (some h0))]) (by decide) rfl (by simp only [lg_sl, List.flatMap_cons, List.flatMap_nil, va_rf_cat]; exact Nat.le_of_ble_eq_true rfl) (by first | rfl | (simp only [lv_args, va_rf_cat]; rfl)) ?_
  intro p e s m args below meth c E hnm
  unfold ex_X5_placesOrNone at h
  obtain ⟨g1, h⟩ := ck h
  refine r_aload_n E (x := some h0) (i := 0) (j := 0) dX5_placesOrNone_0 rfl rfl ?_
  refine gf_X5_18 E (x := gp σ 606 h0) dX5_placesOrNone_1 rfl g1 rfl ?_
  refine r_ifnonnull E (o := gp σ 606 h0) (tgt := 11) dX5_placesOrNone_4 (by decide) (fun c2 => ?_) (fun c2 => ?_)
  · have h := iff' c2 h
    obtain ⟨a3, e4, h⟩ := nn h
    obtain ⟨g5, h⟩ := ck h
    obtain ⟨rfl, rfl⟩ := lf2 h
    refine r_aload_n E (x := some h0) (i := 0) (j := 0) dX5_placesOrNone_11 rfl rfl ?_
    refine gf_X5_18 E (x := gp σ 606 h0) dX5_placesOrNone_12 rfl g1 rfl ?_
    refine r_alenT E dX5_placesOrNone_15 e4 g5 ?_
    exact r_iret E dX5_placesOrNone_16
  · have h := ift c2 h
    obtain ⟨rfl, rfl⟩ := lf2 h
    refine r_iconst E dX5_placesOrNone_7 (v := -1) (by decide) ?_
    refine r_goto E (tgt := 16) dX5_placesOrNone_8 (by decide) ?_
    exact r_iret E dX5_placesOrNone_16
def ex_X5_numberOf (d : Dp) (σ : Sg) (q1 : Option Nat) : Option (Int32 × Sg) := (if q1 = none then some ((-1 : Int32), σ) else (Option.bind q1 fun a2 => (if gc σ a2 = 7 then some (gi σ 600 a2, σ) else none)))
set_option maxHeartbeats 4000000 in
set_option maxRecDepth 20000 in
theorem m_X5_numberOf {l : Launch} {d : Dp} {σ σ' : Sg} {q1 : Option Nat} {r : Int32} (h : ex_X5_numberOf d σ q1 = some (r, σ')) : Mt l d yX5_numberOf cX5_numberOf 1 (some .int) 0 0 σ [va_rf (q1)] (some (.int r)) σ' 0 0 := by
  refine mt_start (own := RX5) (lv0 := [(0, va_rf (q1))]) (by decide) rfl (by simp only [lg_sl, List.flatMap_cons, List.flatMap_nil, va_rf_cat]; exact Nat.le_of_ble_eq_true rfl) (by first | rfl | (simp only [lv_args, va_rf_cat]; rfl)) ?_
  intro p e s m args below meth c E hnm
  unfold ex_X5_numberOf at h
  refine r_aload_n E (x := q1) (i := 0) (j := 0) dX5_numberOf_0 rfl rfl ?_
  refine r_ifnonnull E (o := q1) (tgt := 8) dX5_numberOf_1 (by decide) (fun c1 => ?_) (fun c1 => ?_)
  · have h := iff' c1 h
    obtain ⟨a2, e3, h⟩ := nn h
    obtain ⟨g4, h⟩ := ck h
    obtain ⟨rfl, rfl⟩ := lf2 h
    refine r_aload_n E (x := q1) (i := 0) (j := 0) dX5_numberOf_8 rfl rfl ?_
    refine gf_X5_9 E (x := gi σ 600 a2) dX5_numberOf_9 e3 g4 rfl ?_
    exact r_iret E dX5_numberOf_12
  · have h := ift c1 h
    obtain ⟨rfl, rfl⟩ := lf2 h
    refine r_iconst E dX5_numberOf_4 (v := -1) (by decide) ?_
    refine r_goto E (tgt := 12) dX5_numberOf_5 (by decide) ?_
    exact r_iret E dX5_numberOf_12
def ex_X5_useOrNone (d : Dp) (σ : Sg) (h0 : Nat) : Option (Int32 × Sg) := (if gc σ h0 = 7 then (if (gp σ 606 h0) = none then some ((-1 : Int32), σ) else some (gi σ 605 h0, σ)) else none)
set_option maxHeartbeats 4000000 in
set_option maxRecDepth 20000 in
theorem m_X5_useOrNone {l : Launch} {d : Dp} {σ σ' : Sg} {h0 : Nat} {r : Int32} (h : ex_X5_useOrNone d σ h0 = some (r, σ')) : Mt l d yX5_useOrNone cX5_useOrNone 1 (some .int) 0 0 σ [.ref h0] (some (.int r)) σ' 0 0 := by
  refine mt_start (own := RX5) (lv0 := [(0, va_rf (some h0))]) (by decide) rfl (by simp only [lg_sl, List.flatMap_cons, List.flatMap_nil, va_rf_cat]; exact Nat.le_of_ble_eq_true rfl) (by first | rfl | (simp only [lv_args, va_rf_cat]; rfl)) ?_
  intro p e s m args below meth c E hnm
  unfold ex_X5_useOrNone at h
  obtain ⟨g1, h⟩ := ck h
  refine r_aload_n E (x := some h0) (i := 0) (j := 0) dX5_useOrNone_0 rfl rfl ?_
  refine gf_X5_18 E (x := gp σ 606 h0) dX5_useOrNone_1 rfl g1 rfl ?_
  refine r_ifnonnull E (o := gp σ 606 h0) (tgt := 11) dX5_useOrNone_4 (by decide) (fun c2 => ?_) (fun c2 => ?_)
  · have h := iff' c2 h
    obtain ⟨rfl, rfl⟩ := lf2 h
    refine r_aload_n E (x := some h0) (i := 0) (j := 0) dX5_useOrNone_11 rfl rfl ?_
    refine gf_X5_22 E (x := gi σ 605 h0) dX5_useOrNone_12 rfl g1 rfl ?_
    exact r_iret E dX5_useOrNone_15
  · have h := ift c2 h
    obtain ⟨rfl, rfl⟩ := lf2 h
    refine r_iconst E dX5_useOrNone_7 (v := -1) (by decide) ?_
    refine r_goto E (tgt := 15) dX5_useOrNone_8 (by decide) ?_
    exact r_iret E dX5_useOrNone_15
def ex_X5_tell (d : Dp) (σ : Sg) (h0 : Nat) (p1 : Int32) : Option (Int32 × Sg) := (if p1 = 1 then (if gc σ h0 = 7 then some (gi σ 600 h0, σ) else none) else (if p1 = 2 then (if gc σ h0 = 7 then (if (gi σ 601 h0) = (5 : Int32) then (b2 (ex_X5_placesOrNone d σ h0) fun r11 s10 => some (r11, s10)) else (b2 (ex_X5_numberOf d σ (gp σ 603 h0)) fun r8 s7 => some (r8, s7))) else none) else (if p1 = 3 then (if gc σ h0 = 7 then (if (gi σ 601 h0) = (5 : Int32) then (b2 (ex_X5_useOrNone d σ h0) fun r20 s19 => some (r20, s19)) else (b2 (ex_X5_numberOf d σ (gp σ 604 h0)) fun r17 s16 => some (r17, s16))) else none) else some ((-1 : Int32), σ))))
set_option maxHeartbeats 4000000 in
set_option maxRecDepth 20000 in
theorem m_X5_tell {l : Launch} {d : Dp} {σ σ' : Sg} {h0 : Nat} {p1 : Int32} {r : Int32} (h : ex_X5_tell d σ h0 p1 = some (r, σ')) : Mt l d yX5_tell cX5_tell 2 (some .int) 1 20 σ [.ref h0, .int (p1)] (some (.int r)) σ' 0 0 := by
  refine mt_start (own := RX5) (lv0 := [(0, va_rf (some h0)), (1, .int (p1))]) (by decide) rfl (by simp only [lg_sl, List.flatMap_cons, List.flatMap_nil, va_rf_cat]; exact Nat.le_of_ble_eq_true rfl) (by first | rfl | (simp only [lv_args, va_rf_cat]; rfl)) ?_
  intro p e s m args below meth c E hnm
  unfold ex_X5_tell at h
  refine r_iload_n E (i := 1) (j := 1) dX5_tell_0 rfl rfl ?_
  by_cases c1 : p1 = 1
  · have h := ift c1 h
    obtain ⟨g2, h⟩ := ck h
    obtain ⟨rfl, rfl⟩ := lf2 h
    refine r_tab E (off := 27) (tgt := 28) dX5_tell_1 (by rw [c1]; decide) (fun w1 w2 => by show _ < 3; omega) (by decide) ?_
    refine r_aload_n E (x := some h0) (i := 0) (j := 0) dX5_tell_28 rfl rfl ?_
    refine gf_X5_9 E (x := gi σ 600 h0) dX5_tell_29 rfl g2 rfl ?_
    exact r_iret E dX5_tell_32
  · have h := iff' c1 h
    by_cases c3 : p1 = 2
    · have h := ift c3 h
      obtain ⟨g4, h⟩ := ck h
      refine r_tab E (off := 32) (tgt := 33) dX5_tell_1 (by rw [c3]; decide) (fun w1 w2 => by show _ < 3; omega) (by decide) ?_
      refine r_aload_n E (x := some h0) (i := 0) (j := 0) dX5_tell_33 rfl rfl ?_
      refine gf_X5_15 E (x := gi σ 601 h0) dX5_tell_34 rfl g4 rfl ?_
      refine r_iconst E dX5_tell_37 (v := 5) (by decide) ?_
      refine r_icmp_ne E (tgt := 48) dX5_tell_38 (by decide) (fun c5 => ?_) (fun c5 => ?_)
      · have h := iff' c5 h
        obtain ⟨r8, s7, hc6, h⟩ := nb2 h
        obtain ⟨rfl, rfl⟩ := lf2 h
        refine r_aload_n E (x := some h0) (i := 0) (j := 0) dX5_tell_48 rfl rfl ?_
        refine gf_X5_33 E (x := gp σ 603 h0) dX5_tell_49 rfl g4 rfl ?_
        refine cl_X5_37 E (m_X5_numberOf hc6) dX5_tell_52 ⟨Nat.le_of_ble_eq_true rfl, Nat.le_of_ble_eq_true rfl⟩ ⟨by first | decide | omega | (dsimp only; omega), by first | decide | omega | (dsimp only; omega)⟩ (by decide) ?_
        exact r_iret E dX5_tell_55
      · have h := ift c5 h
        obtain ⟨r11, s10, hc9, h⟩ := nb2 h
        obtain ⟨rfl, rfl⟩ := lf2 h
        refine r_aload_n E (x := some h0) (i := 0) (j := 0) dX5_tell_41 rfl rfl ?_
        refine cl_X5_29 E (m_X5_placesOrNone hc9) dX5_tell_42 ⟨Nat.le_of_ble_eq_true rfl, Nat.le_of_ble_eq_true rfl⟩ ⟨by first | decide | omega | (dsimp only; omega), by first | decide | omega | (dsimp only; omega)⟩ (by decide) rfl g4 ?_
        refine r_goto E (tgt := 55) dX5_tell_45 (by decide) ?_
        exact r_iret E dX5_tell_55
    · have h := iff' c3 h
      by_cases c12 : p1 = 3
      · have h := ift c12 h
        obtain ⟨g13, h⟩ := ck h
        refine r_tab E (off := 55) (tgt := 56) dX5_tell_1 (by rw [c12]; decide) (fun w1 w2 => by show _ < 3; omega) (by decide) ?_
        refine r_aload_n E (x := some h0) (i := 0) (j := 0) dX5_tell_56 rfl rfl ?_
        refine gf_X5_15 E (x := gi σ 601 h0) dX5_tell_57 rfl g13 rfl ?_
        refine r_iconst E dX5_tell_60 (v := 5) (by decide) ?_
        refine r_icmp_ne E (tgt := 71) dX5_tell_61 (by decide) (fun c14 => ?_) (fun c14 => ?_)
        · have h := iff' c14 h
          obtain ⟨r17, s16, hc15, h⟩ := nb2 h
          obtain ⟨rfl, rfl⟩ := lf2 h
          refine r_aload_n E (x := some h0) (i := 0) (j := 0) dX5_tell_71 rfl rfl ?_
          refine gf_X5_44 E (x := gp σ 604 h0) dX5_tell_72 rfl g13 rfl ?_
          refine cl_X5_37 E (m_X5_numberOf hc15) dX5_tell_75 ⟨Nat.le_of_ble_eq_true rfl, Nat.le_of_ble_eq_true rfl⟩ ⟨by first | decide | omega | (dsimp only; omega), by first | decide | omega | (dsimp only; omega)⟩ (by decide) ?_
          exact r_iret E dX5_tell_78
        · have h := ift c14 h
          obtain ⟨r20, s19, hc18, h⟩ := nb2 h
          obtain ⟨rfl, rfl⟩ := lf2 h
          refine r_aload_n E (x := some h0) (i := 0) (j := 0) dX5_tell_64 rfl rfl ?_
          refine cl_X5_41 E (m_X5_useOrNone hc18) dX5_tell_65 ⟨Nat.le_of_ble_eq_true rfl, Nat.le_of_ble_eq_true rfl⟩ ⟨by first | decide | omega | (dsimp only; omega), by first | decide | omega | (dsimp only; omega)⟩ (by decide) rfl g13 ?_
          refine r_goto E (tgt := 78) dX5_tell_68 (by decide) ?_
          exact r_iret E dX5_tell_78
      · have h := iff' c12 h
        obtain ⟨rfl, rfl⟩ := lf2 h
        refine r_tab E (off := 78) (tgt := 79) dX5_tell_1 (by have z0 := lv_neT (x := p1) (k := 1) (a := 1) c1 (by decide); have z1 := lv_neT (x := p1) (k := 2) (a := 2) c3 (by decide); have z2 := lv_neT (x := p1) (k := 3) (a := 3) c12 (by decide); by_cases w1 : Int32.toInt p1 < 1 <;> by_cases w2 : 3 < Int32.toInt p1 <;> first | (simp [w1, w2]; done) | (exfalso; omega)) (fun w1 w2 => by show _ < 3; omega) (by decide) ?_
        refine r_iconst E dX5_tell_79 (v := -1) (by decide) ?_
        exact r_iret E dX5_tell_80
