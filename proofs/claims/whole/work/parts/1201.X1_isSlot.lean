def ex_X1_isSlot (d : Dp) (σ : Sg) (h0 : Nat) (p1 : Int32) : Option (Int32 × Sg) := (if p1 < (0 : Int32) then some ((0 : Int32), σ) else (if (256 : Int32) ≤ p1 then some ((0 : Int32), σ) else some ((1 : Int32), σ)))
set_option maxHeartbeats 4000000 in
set_option maxRecDepth 20000 in
theorem m_X1_isSlot {l : Launch} {d : Dp} {σ σ' : Sg} {h0 : Nat} {p1 : Int32} {r : Int32} (h : ex_X1_isSlot d σ h0 p1 = some (r, σ')) : Mt l d yX1_isSlot cX1_isSlot 2 (some .boolean) 0 0 σ [.ref h0, .int (p1)] (some (.int r)) σ' 0 0 := by
  refine mt_start (own := RX1) (lv0 := [(0, va_rf (some h0)), (1, .int (p1))]) (by decide) rfl (by simp only [lg_sl, List.flatMap_cons, List.flatMap_nil, va_rf_cat]; exact Nat.le_of_ble_eq_true rfl) (by first | rfl | (simp only [lv_args, va_rf_cat]; rfl)) ?_
  intro p e s m args below meth c E hnm
  unfold ex_X1_isSlot at h
  refine r_iload_n E (i := 1) (j := 1) dX1_isSlot_0 rfl rfl ?_
  refine r_if_lt E (tgt := 15) dX1_isSlot_1 (by decide) (fun c1 => ?_) (fun c1 => ?_)
  · have h := ift c1 h
    obtain ⟨rfl, rfl⟩ := lf2 h
    refine r_iconst E dX1_isSlot_15 (v := 0) (by decide) ?_
    exact r_zret E dX1_isSlot_16 (by decide)
  · have h := iff' c1 h
    refine r_iload_n E (i := 1) (j := 1) dX1_isSlot_4 rfl rfl ?_
    refine r_sipush E dX1_isSlot_5 (v := 256) (by decide) ?_
    refine r_icmp_ge E (tgt := 15) dX1_isSlot_8 (by decide) (fun c2 => ?_) (fun c2 => ?_)
    · have h := ift c2 h
      obtain ⟨rfl, rfl⟩ := lf2 h
      refine r_iconst E dX1_isSlot_15 (v := 0) (by decide) ?_
      exact r_zret E dX1_isSlot_16 (by decide)
    · have h := iff' c2 h
      obtain ⟨rfl, rfl⟩ := lf2 h
      refine r_iconst E dX1_isSlot_11 (v := 1) (by decide) ?_
      refine r_goto E (tgt := 16) dX1_isSlot_12 (by decide) ?_
      exact r_zret E dX1_isSlot_16 (by decide)
def ex_X1_canSee (d : Dp) (σ : Sg) (h0 : Nat) (p1 : Int32) : Option (Int32 × Sg) := (if p1 = (-1 : Int32) then some ((1 : Int32), σ) else (if gc σ h0 = 3 then (b2 (ex_X1_isSlot d σ h0 p1) fun r5 s4 => (if r5 = (0 : Int32) then some ((0 : Int32), s4) else some ((1 : Int32), s4))) else none))
set_option maxHeartbeats 4000000 in
set_option maxRecDepth 20000 in
theorem m_X1_canSee {l : Launch} {d : Dp} {σ σ' : Sg} {h0 : Nat} {p1 : Int32} {r : Int32} (h : ex_X1_canSee d σ h0 p1 = some (r, σ')) : Mt l d yX1_canSee cX1_canSee 2 (some .boolean) 1 21 σ [.ref h0, .int (p1)] (some (.int r)) σ' 0 0 := by
  refine mt_start (own := RX1) (lv0 := [(0, va_rf (some h0)), (1, .int (p1))]) (by decide) rfl (by simp only [lg_sl, List.flatMap_cons, List.flatMap_nil, va_rf_cat]; exact Nat.le_of_ble_eq_true rfl) (by first | rfl | (simp only [lv_args, va_rf_cat]; rfl)) ?_
  intro p e s m args below meth c E hnm
  unfold ex_X1_canSee at h
  refine r_iload_n E (i := 1) (j := 1) dX1_canSee_0 rfl rfl ?_
  refine r_iconst E dX1_canSee_1 (v := -1) (by decide) ?_
  refine r_icmp_eq E (tgt := 13) dX1_canSee_2 (by decide) (fun c1 => ?_) (fun c1 => ?_)
  · have h := ift c1 h
    obtain ⟨rfl, rfl⟩ := lf2 h
    refine r_iconst E dX1_canSee_13 (v := 1) (by decide) ?_
    refine r_goto E (tgt := 18) dX1_canSee_14 (by decide) ?_
    exact r_zret E dX1_canSee_18 (by decide)
  · have h := iff' c1 h
    obtain ⟨g2, h⟩ := ck h
    obtain ⟨r5, s4, hc3, h⟩ := nb2 h
    refine r_aload_n E (x := some h0) (i := 0) (j := 0) dX1_canSee_5 rfl rfl ?_
    refine r_iload_n E (i := 1) (j := 1) dX1_canSee_6 rfl rfl ?_
    refine cl_X1_47 E (m_X1_isSlot hc3) dX1_canSee_7 ⟨Nat.le_of_ble_eq_true rfl, Nat.le_of_ble_eq_true rfl⟩ ⟨by first | decide | omega | (dsimp only; omega), by first | decide | omega | (dsimp only; omega)⟩ (by decide) rfl g2 ?_
    refine r_if_eq E (tgt := 17) dX1_canSee_10 (by decide) (fun c6 => ?_) (fun c6 => ?_)
    · have h := ift c6 h
      obtain ⟨rfl, rfl⟩ := lf2 h
      refine r_iconst E dX1_canSee_17 (v := 0) (by decide) ?_
      exact r_zret E dX1_canSee_18 (by decide)
    · have h := iff' c6 h
      obtain ⟨rfl, rfl⟩ := lf2 h
      refine r_iconst E dX1_canSee_13 (v := 1) (by decide) ?_
      refine r_goto E (tgt := 18) dX1_canSee_14 (by decide) ?_
      exact r_zret E dX1_canSee_18 (by decide)
def ex_X1_seenAt (d : Dp) (σ : Sg) (h0 : Nat) (p1 : Int32) : Option (Option Nat × Sg) := (if p1 = (-1 : Int32) then (if gc σ h0 = 3 then some (gp σ 206 h0, σ) else none) else (if gc σ h0 = 3 then (b2 (ex_X1_isSlot d σ h0 p1) fun r5 s4 => (if r5 = (0 : Int32) then some (none, s4) else (if gc s4 h0 = 3 then (Option.bind (gp s4 202 h0) fun a8 => (if gc s4 a8 = 12 then (if ¬ (p1 < 0 ∨ gl s4 a8 ≤ Int32.toNatClampNeg p1) then some (ap s4 a8 (Int32.toNatClampNeg p1), s4) else none) else none)) else none))) else none))
set_option maxHeartbeats 4000000 in
set_option maxRecDepth 20000 in
theorem m_X1_seenAt {l : Launch} {d : Dp} {σ σ' : Sg} {h0 : Nat} {p1 : Int32} {r : Option Nat} (h : ex_X1_seenAt d σ h0 p1 = some (r, σ')) : Mt l d yX1_seenAt cX1_seenAt 2 (some (.object "FrameTalk$Thing")) 1 21 σ [.ref h0, .int (p1)] (some (va_rf r)) σ' 0 0 := by
  refine mt_start (own := RX1) (lv0 := [(0, va_rf (some h0)), (1, .int (p1))]) (by decide) rfl (by simp only [lg_sl, List.flatMap_cons, List.flatMap_nil, va_rf_cat]; exact Nat.le_of_ble_eq_true rfl) (by first | rfl | (simp only [lv_args, va_rf_cat]; rfl)) ?_
  intro p e s m args below meth c E hnm
  unfold ex_X1_seenAt at h
  refine r_iload_n E (i := 1) (j := 1) dX1_seenAt_0 rfl rfl ?_
  refine r_iconst E dX1_seenAt_1 (v := -1) (by decide) ?_
  refine r_icmp_ne E (tgt := 10) dX1_seenAt_2 (by decide) (fun c1 => ?_) (fun c1 => ?_)
  · have h := iff' c1 h
    obtain ⟨g2, h⟩ := ck h
    obtain ⟨r5, s4, hc3, h⟩ := nb2 h
    refine r_aload_n E (x := some h0) (i := 0) (j := 0) dX1_seenAt_10 rfl rfl ?_
    refine r_iload_n E (i := 1) (j := 1) dX1_seenAt_11 rfl rfl ?_
    refine cl_X1_47 E (m_X1_isSlot hc3) dX1_seenAt_12 ⟨Nat.le_of_ble_eq_true rfl, Nat.le_of_ble_eq_true rfl⟩ ⟨by first | decide | omega | (dsimp only; omega), by first | decide | omega | (dsimp only; omega)⟩ (by decide) rfl g2 ?_
    refine r_if_eq E (tgt := 27) dX1_seenAt_15 (by decide) (fun c6 => ?_) (fun c6 => ?_)
    · have h := ift c6 h
      obtain ⟨rfl, rfl⟩ := lf2 h
      refine r_null E dX1_seenAt_27 ?_
      exact r_aret E dX1_seenAt_28 (Or.inl ⟨_, rfl⟩)
    · have h := iff' c6 h
      obtain ⟨g7, h⟩ := ck h
      obtain ⟨a8, e9, h⟩ := nn h
      obtain ⟨g10, h⟩ := ck h
      obtain ⟨g11, h⟩ := ck h
      obtain ⟨rfl, rfl⟩ := lf2 h
      refine r_aload_n E (x := some h0) (i := 0) (j := 0) dX1_seenAt_18 rfl rfl ?_
      refine gf_X1_27 E (x := gp s4 202 h0) dX1_seenAt_19 rfl g7 rfl ?_
      refine r_iload_n E (i := 1) (j := 1) dX1_seenAt_22 rfl rfl ?_
      refine r_aaldT E dX1_seenAt_23 e9 g10 g11 ?_
      refine r_goto E (tgt := 28) dX1_seenAt_24 (by decide) ?_
      exact r_aret E dX1_seenAt_28 (Or.inl ⟨_, rfl⟩)
  · have h := ift c1 h
    obtain ⟨g12, h⟩ := ck h
    obtain ⟨rfl, rfl⟩ := lf2 h
    refine r_aload_n E (x := some h0) (i := 0) (j := 0) dX1_seenAt_5 rfl rfl ?_
    refine gf_X1_51 E (x := gp σ 206 h0) dX1_seenAt_6 rfl g12 rfl ?_
    exact r_aret E dX1_seenAt_9 (Or.inl ⟨_, rfl⟩)
def lp_X1_forget : Nat → Dp → Sg → Nat → Int32 → Option (Unit × Sg)
  | 0, _, _, _, _ => none
  | f + 1, d, σ, h0, v1 => (if (256 : Int32) ≤ v1 then (if gc σ h0 = 3 then some ((), (sp (sp σ 205 h0 none) 206 h0 none)) else none) else (if gc σ h0 = 3 then (Option.bind (gp σ 202 h0) fun a4 => (if gc σ a4 = 12 then (if ¬ (v1 < 0 ∨ gl σ a4 ≤ Int32.toNatClampNeg v1) then lp_X1_forget f d (wp σ a4 (Int32.toNatClampNeg v1) none) h0 (v1 + 1) else none) else none)) else none))
set_option maxHeartbeats 4000000 in
set_option maxRecDepth 20000 in
theorem wlp_X1_forget {p : Program} {l : Launch} {e : Env} {s : State} {m : MethodId} {args : Array Value} {below : List Frame} {meth : Method} {c : Code} {d : Dp} {σ0 σ' : Sg} {r : Unit} (E : Ev p s m args meth c RX1 cX1_forget 2 none d (AA σ0)) : ∀ (f : Nat) (σ : Sg) (h0 : Nat) (v1 : Int32), lp_X1_forget f d σ h0 v1 = some (r, σ') → Gk p l e { frames := 0, cells := 0, slots := 0, locals := 0 } s m args below meth c d (AA σ0) (MQ below (QQ d σ0 none σ') args s 0 0 (AA σ0)) 2 σ 0 0 2 [(0, va_rf (some h0)), (1, .int (v1))] [] := by
  intro f
  induction f with
  | zero => intro _ _ _ h; cases h
  | succ f ih =>
    intro σ h0 v1 h
    unfold lp_X1_forget at h
    refine r_iload_n E (i := 1) (j := 1) dX1_forget_2 rfl rfl ?_
    refine r_sipush E dX1_forget_3 (v := 256) (by decide) ?_
    refine r_icmp_ge E (tgt := 22) dX1_forget_6 (by decide) (fun c1 => ?_) (fun c1 => ?_)
    · have h := ift c1 h
      obtain ⟨g2, h⟩ := ck h
      obtain ⟨rfl, rfl⟩ := lf2 h
      refine r_aload_n E (x := some h0) (i := 0) (j := 0) dX1_forget_22 rfl rfl ?_
      refine r_null E dX1_forget_23 ?_
      refine pf_X1_55 E dX1_forget_24 rfl g2 ?_
      refine r_aload_n E (x := some h0) (i := 0) (j := 0) dX1_forget_27 rfl rfl ?_
      refine r_null E dX1_forget_28 ?_
      refine pf_X1_51 E dX1_forget_29 rfl g2 ?_
      exact r_vret E dX1_forget_32
    · have h := iff' c1 h
      obtain ⟨g3, h⟩ := ck h
      obtain ⟨a4, e5, h⟩ := nn h
      obtain ⟨g6, h⟩ := ck h
      obtain ⟨g7, h⟩ := ck h
      refine r_aload_n E (x := some h0) (i := 0) (j := 0) dX1_forget_9 rfl rfl ?_
      refine gf_X1_27 E (x := gp σ 202 h0) dX1_forget_10 rfl g3 rfl ?_
      refine r_iload_n E (i := 1) (j := 1) dX1_forget_13 rfl rfl ?_
      refine r_null E dX1_forget_14 ?_
      refine r_aastNT E dX1_forget_15 e5 g6 g7 rfl ?_
      refine r_iinc E (j := 1) (v := v1 + 1) (lv' := [(1, .int (v1 + 1)), (0, va_rf (some h0))]) dX1_forget_16 rfl rfl (by decide) (by first | rfl | (simp only [List.filter_cons, List.filter_nil, va_rf_cat]; rfl)) ?_
      refine r_goto E (tgt := 2) dX1_forget_19 (by decide) ?_
      refine r_sub [1, 0] (lv' := [(0, va_rf (some h0)), (1, .int (v1 + 1))]) rfl ?_
      exact ih _ _ _ h
def ex_X1_forget (d : Dp) (σ : Sg) (h0 : Nat) : Option (Unit × Sg) := lp_X1_forget 300 d σ h0 (0 : Int32)
set_option maxHeartbeats 4000000 in
set_option maxRecDepth 20000 in
theorem m_X1_forget {l : Launch} {d : Dp} {σ σ' : Sg} {h0 : Nat} {r : Unit} (h : ex_X1_forget d σ h0 = some (r, σ')) : Mt l d yX1_forget cX1_forget 2 none 0 0 σ [.ref h0] none σ' 0 0 := by
  refine mt_start (own := RX1) (lv0 := [(0, va_rf (some h0))]) (by decide) rfl (by simp only [lg_sl, List.flatMap_cons, List.flatMap_nil, va_rf_cat]; exact Nat.le_of_ble_eq_true rfl) (by first | rfl | (simp only [lv_args, va_rf_cat]; rfl)) ?_
  intro p e s m args below meth c E hnm
  unfold ex_X1_forget at h
  refine r_iconst E dX1_forget_0 (v := 0) (by decide) ?_
  refine r_istore_n E (i := 1) (lv' := [(1, .int ((0 : Int32))), (0, va_rf (some h0))]) dX1_forget_1 rfl (by decide) (by first | rfl | (simp only [List.filter_cons, List.filter_nil, va_rf_cat]; rfl)) ?_
  refine r_sub [1, 0] (lv' := [(0, va_rf (some h0)), (1, .int ((0 : Int32)))]) rfl ?_
  exact wlp_X1_forget E _ _ _ _ h
def ex_X1_clearFault (d : Dp) (σ : Sg) (h0 : Nat) : Option (Unit × Sg) := (if gc σ h0 = 3 then some ((), (si (si σ 211 h0 (0 : Int32)) 212 h0 (-1 : Int32))) else none)
set_option maxHeartbeats 4000000 in
set_option maxRecDepth 20000 in
theorem m_X1_clearFault {l : Launch} {d : Dp} {σ σ' : Sg} {h0 : Nat} {r : Unit} (h : ex_X1_clearFault d σ h0 = some (r, σ')) : Mt l d yX1_clearFault cX1_clearFault 1 none 0 0 σ [.ref h0] none σ' 0 0 := by
  refine mt_start (own := RX1) (lv0 := [(0, va_rf (some h0))]) (by decide) rfl (by simp only [lg_sl, List.flatMap_cons, List.flatMap_nil, va_rf_cat]; exact Nat.le_of_ble_eq_true rfl) (by first | rfl | (simp only [lv_args, va_rf_cat]; rfl)) ?_
  intro p e s m args below meth c E hnm
  unfold ex_X1_clearFault at h
  obtain ⟨g1, h⟩ := ck h
  obtain ⟨rfl, rfl⟩ := lf2 h
  refine r_aload_n E (x := some h0) (i := 0) (j := 0) dX1_clearFault_0 rfl rfl ?_
  refine r_iconst E dX1_clearFault_1 (v := 0) (by decide) ?_
  refine pf_X1_95 E dX1_clearFault_2 rfl g1 ?_
  refine r_aload_n E (x := some h0) (i := 0) (j := 0) dX1_clearFault_5 rfl rfl ?_
  refine r_iconst E dX1_clearFault_6 (v := -1) (by decide) ?_
  refine pf_X1_43 E dX1_clearFault_7 rfl g1 ?_
  exact r_vret E dX1_clearFault_10
def ex_X1_failAt (d : Dp) (σ : Sg) (h0 : Nat) (p1 : Int32) (p2 : Int32) : Option (Option Nat × Sg) := (if gc σ h0 = 3 then some (none, (si (si σ 212 h0 p1) 211 h0 p2)) else none)
set_option maxHeartbeats 4000000 in
set_option maxRecDepth 20000 in
theorem m_X1_failAt {l : Launch} {d : Dp} {σ σ' : Sg} {h0 : Nat} {p1 : Int32} {p2 : Int32} {r : Option Nat} (h : ex_X1_failAt d σ h0 p1 p2 = some (r, σ')) : Mt l d yX1_failAt cX1_failAt 3 (some (.object "FrameTalk$Thing")) 0 0 σ [.ref h0, .int (p1), .int (p2)] (some (va_rf r)) σ' 0 0 := by
  refine mt_start (own := RX1) (lv0 := [(0, va_rf (some h0)), (1, .int (p1)), (2, .int (p2))]) (by decide) rfl (by simp only [lg_sl, List.flatMap_cons, List.flatMap_nil, va_rf_cat]; exact Nat.le_of_ble_eq_true rfl) (by first | rfl | (simp only [lv_args, va_rf_cat]; rfl)) ?_
  intro p e s m args below meth c E hnm
  unfold ex_X1_failAt at h
  obtain ⟨g1, h⟩ := ck h
  obtain ⟨rfl, rfl⟩ := lf2 h
  refine r_aload_n E (x := some h0) (i := 0) (j := 0) dX1_failAt_0 rfl rfl ?_
  refine r_iload_n E (i := 1) (j := 1) dX1_failAt_1 rfl rfl ?_
  refine pf_X1_43 E dX1_failAt_2 rfl g1 ?_
  refine r_aload_n E (x := some h0) (i := 0) (j := 0) dX1_failAt_5 rfl rfl ?_
  refine r_iload_n E (i := 2) (j := 2) dX1_failAt_6 rfl rfl ?_
  refine pf_X1_95 E dX1_failAt_7 rfl g1 ?_
  refine r_null E dX1_failAt_10 ?_
  exact r_aret E dX1_failAt_11 (Or.inl ⟨_, rfl⟩)
def ex_X1_open (d : Dp) (σ : Sg) (h0 : Nat) (q1 : Option Nat) : Option (Unit × Sg × Nat × Nat) := (if gc σ h0 = 3 then (if (gi σ 210 h0) < (gi σ 208 h0) then (Option.bind (gp σ 204 h0) fun a3 => (if gc σ a3 = 2 then (if (gi σ 101 a3) < (200 : Int32) then (b4 (ex_X0_within d (si σ 210 h0 ((gi σ 210 h0) + (1 : Int32))) a3) fun r9 s8 k10 n11 => (if gc s8 h0 = 3 then (Option.bind (gp (sp s8 204 h0 r9) 204 h0) fun a13 => (if gc s8 a13 = 2 then (b2 (ex_X0_begin d (sp s8 204 h0 r9) a13 q1) fun r18 s17 => some ((), s17, 0 + k10, 0 + n11)) else none)) else none)) else (Option.bind q1 fun a19 => (if gc σ a19 = 5 then (b2 (ex_X1_failAt d (si σ 210 h0 ((gi σ 210 h0) + (1 : Int32))) h0 (gi σ 400 a19) (7 : Int32)) fun r24 s23 => some ((), s23, 0, 0)) else none))) else none)) else some ((), (si σ 209 h0 (1 : Int32)), 0, 0)) else none)
set_option maxHeartbeats 4000000 in
set_option maxRecDepth 20000 in
theorem m_X1_open {l : Launch} {d : Dp} {σ σ' : Sg} {h0 : Nat} {q1 : Option Nat} {r : Unit} {kF nF : Nat} (h : ex_X1_open d σ h0 q1 = some (r, σ', kF, nF)) : Mt l d yX1_open cX1_open 2 none 3 62 σ [.ref h0, va_rf (q1)] none σ' kF nF := by
  refine mt_start (own := RX1) (lv0 := [(0, va_rf (some h0)), (1, va_rf (q1))]) (by decide) rfl (by simp only [lg_sl, List.flatMap_cons, List.flatMap_nil, va_rf_cat]; exact Nat.le_of_ble_eq_true rfl) (by first | rfl | (simp only [lv_args, va_rf_cat]; rfl)) ?_
  intro p e s m args below meth c E hnm
  unfold ex_X1_open at h
  obtain ⟨g1, h⟩ := ck h
  refine r_aload_n E (x := some h0) (i := 0) (j := 0) dX1_open_0 rfl rfl ?_
  refine gf_X1_71 E (x := gi σ 210 h0) dX1_open_1 rfl g1 rfl ?_
  refine r_aload_n E (x := some h0) (i := 0) (j := 0) dX1_open_4 rfl rfl ?_
  refine gf_X1_68 E (x := gi σ 208 h0) dX1_open_5 rfl g1 rfl ?_
  refine r_icmp_lt E (tgt := 17) dX1_open_8 (by decide) (fun c2 => ?_) (fun c2 => ?_)
  · have h := ift c2 h
    obtain ⟨a3, e4, h⟩ := nn h
    obtain ⟨g5, h⟩ := ck h
    refine r_aload_n E (x := some h0) (i := 0) (j := 0) dX1_open_17 rfl rfl ?_
    refine r_dup E dX1_open_18 (va_rf_cat _) ?_
    refine gf_X1_71 E (x := gi σ 210 h0) dX1_open_19 rfl g1 rfl ?_
    refine r_iconst E dX1_open_22 (v := 1) (by decide) ?_
    refine r_iadd E dX1_open_23 ?_
    refine pf_X1_71 E dX1_open_24 rfl g1 ?_
    refine r_aload_n E (x := some h0) (i := 0) (j := 0) dX1_open_27 rfl rfl ?_
    refine gf_X1_40 E (x := gp σ 204 h0) dX1_open_28 rfl g1 rfl ?_
    refine gf_X1_92 E (x := gi σ 101 a3) dX1_open_31 e4 g5 rfl ?_
    refine r_sipush E dX1_open_34 (v := 200) (by decide) ?_
    refine r_icmp_lt E (tgt := 52) dX1_open_37 (by decide) (fun c6 => ?_) (fun c6 => ?_)
    · have h := ift c6 h
      obtain ⟨r9, s8, k10, n11, hc7, h⟩ := nb4 h
      obtain ⟨g12, h⟩ := ck h
      obtain ⟨a13, e14, h⟩ := nn h
      obtain ⟨g15, h⟩ := ck h
      obtain ⟨r18, s17, hc16, h⟩ := nb2 h
      obtain ⟨rfl, rfl, rfl, rfl⟩ := lf4 h
      refine r_aload_n E (x := some h0) (i := 0) (j := 0) dX1_open_52 rfl rfl ?_
      refine r_aload_n E (x := some h0) (i := 0) (j := 0) dX1_open_53 rfl rfl ?_
      refine gf_X1_40 E (x := gp σ 204 h0) dX1_open_54 rfl g1 rfl ?_
      refine cl_X1_125 E (m_X0_within hc7) dX1_open_57 ⟨Nat.le_of_ble_eq_true rfl, Nat.le_of_ble_eq_true rfl⟩ ⟨by first | decide | omega | (dsimp only; omega), by first | decide | omega | (dsimp only; omega)⟩ (by simp only [List.map_cons, List.map_nil, va_rf_cat]; exact Nat.le_of_ble_eq_true rfl) e4 g5 ?_
      refine pf_X1_40 E dX1_open_60 rfl g12 ?_
      refine r_aload_n E (x := some h0) (i := 0) (j := 0) dX1_open_63 rfl rfl ?_
      refine gf_X1_40 E (x := gp (sp s8 204 h0 r9) 204 h0) dX1_open_64 rfl g12 rfl ?_
      refine r_aload_n E (x := q1) (i := 1) (j := 1) dX1_open_67 rfl rfl ?_
      refine cl_X1_81 E (m_X0_begin hc16) dX1_open_68 ⟨Nat.le_of_ble_eq_true rfl, Nat.le_of_ble_eq_true rfl⟩ ⟨by first | decide | omega | (dsimp only; omega), by first | decide | omega | (dsimp only; omega)⟩ (by decide) e14 g15 ?_
      exact r_vret E dX1_open_71
    · have h := iff' c6 h
      obtain ⟨a19, e20, h⟩ := nn h
      obtain ⟨g21, h⟩ := ck h
      obtain ⟨r24, s23, hc22, h⟩ := nb2 h
      obtain ⟨rfl, rfl, rfl, rfl⟩ := lf4 h
      refine r_aload_n E (x := some h0) (i := 0) (j := 0) dX1_open_40 rfl rfl ?_
      refine r_aload_n E (x := q1) (i := 1) (j := 1) dX1_open_41 rfl rfl ?_
      refine gf_X1_120 E (x := gi σ 400 a19) dX1_open_42 e20 g21 rfl ?_
      refine r_bipush E dX1_open_45 (v := 7) (by decide) ?_
      refine cl_X1_85 E (m_X1_failAt hc22) dX1_open_47 ⟨Nat.le_of_ble_eq_true rfl, Nat.le_of_ble_eq_true rfl⟩ ⟨by first | decide | omega | (dsimp only; omega), by first | decide | omega | (dsimp only; omega)⟩ (by decide) rfl g1 ?_
      refine r_pop E dX1_open_50 (va_rf_cat _) ?_
      exact r_vret E dX1_open_51
  · have h := iff' c2 h
    obtain ⟨rfl, rfl, rfl, rfl⟩ := lf4 h
    refine r_aload_n E (x := some h0) (i := 0) (j := 0) dX1_open_11 rfl rfl ?_
    refine r_iconst E dX1_open_12 (v := 1) (by decide) ?_
    refine pf_X1_74 E dX1_open_13 rfl g1 ⟨by decide, by decide⟩ ?_
    exact r_vret E dX1_open_16
