def ex_X6_thing (d : Dp) (σ : Sg) (h0 : Nat) (p1 : Int32) (p2 : Int32) : Option (Int32 × Sg) := (if gc σ h0 = 8 then (Option.bind (gp σ 701 h0) fun a2 => (if gc σ a2 = 3 then (b2 (ex_X1_canSee d σ a2 p1) fun r7 s6 => (if r7 = (0 : Int32) then some ((-1 : Int32), s6) else (if gc s6 h0 = 8 then (Option.bind (gp s6 701 h0) fun a10 => (if gc s6 a10 = 3 then (b2 (ex_X1_seenAt d s6 a10 p1) fun r15 s14 => (if p2 = (0 : Int32) then (if r15 = none then some ((0 : Int32), s14) else (Option.bind r15 fun a25 => (if gc s14 a25 = 7 then some (gi s14 601 a25, s14) else none))) else (if r15 = none then some ((-1 : Int32), s14) else (Option.bind r15 fun a18 => (if gc s14 a18 = 7 then (b2 (ex_X5_tell d s14 a18 p2) fun r23 s22 => some (r23, s22)) else none))))) else none)) else none))) else none)) else none)
set_option maxHeartbeats 4000000 in
set_option maxRecDepth 20000 in
theorem m_X6_thing {l : Launch} {d : Dp} {σ σ' : Sg} {h0 : Nat} {p1 : Int32} {p2 : Int32} {r : Int32} (h : ex_X6_thing d σ h0 p1 p2 = some (r, σ')) : Mt l d yX6_thing cX6_thing 4 (some .int) 2 42 σ [.ref h0, .int (p1), .int (p2)] (some (.int r)) σ' 0 0 := by
  refine mt_start (own := RX6) (lv0 := [(0, va_rf (some h0)), (1, .int (p1)), (2, .int (p2))]) (by decide) rfl (by simp only [lg_sl, List.flatMap_cons, List.flatMap_nil, va_rf_cat]; exact Nat.le_of_ble_eq_true rfl) (by first | rfl | (simp only [lv_args, va_rf_cat]; rfl)) ?_
  intro p e s m args below meth c E hnm
  unfold ex_X6_thing at h
  obtain ⟨g1, h⟩ := ck h
  obtain ⟨a2, e3, h⟩ := nn h
  obtain ⟨g4, h⟩ := ck h
  obtain ⟨r7, s6, hc5, h⟩ := nb2 h
  refine r_aload_n E (x := some h0) (i := 0) (j := 0) dX6_thing_0 rfl rfl ?_
  refine gf_X6_10 E (x := gp σ 701 h0) dX6_thing_1 rfl g1 rfl ?_
  refine r_iload_n E (i := 1) (j := 1) dX6_thing_4 rfl rfl ?_
  refine cl_X6_70 E (m_X1_canSee hc5) dX6_thing_5 ⟨Nat.le_of_ble_eq_true rfl, Nat.le_of_ble_eq_true rfl⟩ ⟨by first | decide | omega | (dsimp only; omega), by first | decide | omega | (dsimp only; omega)⟩ (by decide) e3 g4 ?_
  refine r_if_ne E (tgt := 13) dX6_thing_8 (by decide) (fun c8 => ?_) (fun c8 => ?_)
  · have h := iff' c8 h
    obtain ⟨g9, h⟩ := ck h
    obtain ⟨a10, e11, h⟩ := nn h
    obtain ⟨g12, h⟩ := ck h
    obtain ⟨r15, s14, hc13, h⟩ := nb2 h
    refine r_aload_n E (x := some h0) (i := 0) (j := 0) dX6_thing_13 rfl rfl ?_
    refine gf_X6_10 E (x := gp s6 701 h0) dX6_thing_14 rfl g9 rfl ?_
    refine r_iload_n E (i := 1) (j := 1) dX6_thing_17 rfl rfl ?_
    refine cl_X6_57 E (m_X1_seenAt hc13) dX6_thing_18 ⟨Nat.le_of_ble_eq_true rfl, Nat.le_of_ble_eq_true rfl⟩ ⟨by first | decide | omega | (dsimp only; omega), by first | decide | omega | (dsimp only; omega)⟩ (by decide) e11 g12 ?_
    refine r_astore_n E (i := 3) (lv' := [(3, va_rf (r15)), (0, va_rf (some h0)), (1, .int (p1)), (2, .int (p2))]) dX6_thing_21 rfl (by decide) (by first | rfl | (simp only [List.filter_cons, List.filter_nil, va_rf_cat]; rfl)) ?_
    refine r_iload_n E (i := 2) (j := 3) dX6_thing_22 rfl rfl ?_
    refine r_if_ne E (tgt := 39) dX6_thing_23 (by decide) (fun c16 => ?_) (fun c16 => ?_)
    · have h := iff' c16 h
      refine r_aload_n E (x := r15) (i := 3) (j := 0) dX6_thing_39 rfl rfl ?_
      refine r_ifnonnull E (o := r15) (tgt := 47) dX6_thing_40 (by decide) (fun c17 => ?_) (fun c17 => ?_)
      · have h := iff' c17 h
        obtain ⟨a18, e19, h⟩ := nn h
        obtain ⟨g20, h⟩ := ck h
        obtain ⟨r23, s22, hc21, h⟩ := nb2 h
        obtain ⟨rfl, rfl⟩ := lf2 h
        refine r_aload_n E (x := r15) (i := 3) (j := 0) dX6_thing_47 rfl rfl ?_
        refine r_iload_n E (i := 2) (j := 3) dX6_thing_48 rfl rfl ?_
        refine cl_X6_78 E (m_X5_tell hc21) dX6_thing_49 ⟨Nat.le_of_ble_eq_true rfl, Nat.le_of_ble_eq_true rfl⟩ ⟨by first | decide | omega | (dsimp only; omega), by first | decide | omega | (dsimp only; omega)⟩ (by decide) e19 g20 ?_
        exact r_iret E dX6_thing_52
      · have h := ift c17 h
        obtain ⟨rfl, rfl⟩ := lf2 h
        refine r_iconst E dX6_thing_43 (v := -1) (by decide) ?_
        refine r_goto E (tgt := 52) dX6_thing_44 (by decide) ?_
        exact r_iret E dX6_thing_52
    · have h := ift c16 h
      refine r_aload_n E (x := r15) (i := 3) (j := 0) dX6_thing_26 rfl rfl ?_
      refine r_ifnonnull E (o := r15) (tgt := 34) dX6_thing_27 (by decide) (fun c24 => ?_) (fun c24 => ?_)
      · have h := iff' c24 h
        obtain ⟨a25, e26, h⟩ := nn h
        obtain ⟨g27, h⟩ := ck h
        obtain ⟨rfl, rfl⟩ := lf2 h
        refine r_aload_n E (x := r15) (i := 3) (j := 0) dX6_thing_34 rfl rfl ?_
        refine gf_X6_74 E (x := gi s14 601 a25) dX6_thing_35 e26 g27 rfl ?_
        exact r_iret E dX6_thing_38
      · have h := ift c24 h
        obtain ⟨rfl, rfl⟩ := lf2 h
        refine r_iconst E dX6_thing_30 (v := 0) (by decide) ?_
        refine r_goto E (tgt := 38) dX6_thing_31 (by decide) ?_
        exact r_iret E dX6_thing_38
  · have h := ift c8 h
    obtain ⟨rfl, rfl⟩ := lf2 h
    refine r_iconst E dX6_thing_11 (v := -1) (by decide) ?_
    exact r_iret E dX6_thing_12
def ex_X6_fault (d : Dp) (σ : Sg) (h0 : Nat) : Option (Int32 × Sg) := (if gc σ h0 = 8 then (Option.bind (gp σ 701 h0) fun a2 => (if gc σ a2 = 3 then some (gi σ 211 a2, σ) else none)) else none)
set_option maxHeartbeats 4000000 in
set_option maxRecDepth 20000 in
theorem m_X6_fault {l : Launch} {d : Dp} {σ σ' : Sg} {h0 : Nat} {r : Int32} (h : ex_X6_fault d σ h0 = some (r, σ')) : Mt l d yX6_fault cX6_fault 1 (some .int) 0 0 σ [.ref h0] (some (.int r)) σ' 0 0 := by
  refine mt_start (own := RX6) (lv0 := [(0, va_rf (some h0))]) (by decide) rfl (by simp only [lg_sl, List.flatMap_cons, List.flatMap_nil, va_rf_cat]; exact Nat.le_of_ble_eq_true rfl) (by first | rfl | (simp only [lv_args, va_rf_cat]; rfl)) ?_
  intro p e s m args below meth c E hnm
  unfold ex_X6_fault at h
  obtain ⟨g1, h⟩ := ck h
  obtain ⟨a2, e3, h⟩ := nn h
  obtain ⟨g4, h⟩ := ck h
  obtain ⟨rfl, rfl⟩ := lf2 h
  refine r_aload_n E (x := some h0) (i := 0) (j := 0) dX6_fault_0 rfl rfl ?_
  refine gf_X6_10 E (x := gp σ 701 h0) dX6_fault_1 rfl g1 rfl ?_
  refine gf_X6_82 E (x := gi σ 211 a2) dX6_fault_4 e3 g4 rfl ?_
  exact r_iret E dX6_fault_7
def ex_X6_faultNode (d : Dp) (σ : Sg) (h0 : Nat) : Option (Int32 × Sg) := (if gc σ h0 = 8 then (Option.bind (gp σ 701 h0) fun a2 => (if gc σ a2 = 3 then some (gi σ 212 a2, σ) else none)) else none)
set_option maxHeartbeats 4000000 in
set_option maxRecDepth 20000 in
theorem m_X6_faultNode {l : Launch} {d : Dp} {σ σ' : Sg} {h0 : Nat} {r : Int32} (h : ex_X6_faultNode d σ h0 = some (r, σ')) : Mt l d yX6_faultNode cX6_faultNode 1 (some .int) 0 0 σ [.ref h0] (some (.int r)) σ' 0 0 := by
  refine mt_start (own := RX6) (lv0 := [(0, va_rf (some h0))]) (by decide) rfl (by simp only [lg_sl, List.flatMap_cons, List.flatMap_nil, va_rf_cat]; exact Nat.le_of_ble_eq_true rfl) (by first | rfl | (simp only [lv_args, va_rf_cat]; rfl)) ?_
  intro p e s m args below meth c E hnm
  unfold ex_X6_faultNode at h
  obtain ⟨g1, h⟩ := ck h
  obtain ⟨a2, e3, h⟩ := nn h
  obtain ⟨g4, h⟩ := ck h
  obtain ⟨rfl, rfl⟩ := lf2 h
  refine r_aload_n E (x := some h0) (i := 0) (j := 0) dX6_faultNode_0 rfl rfl ?_
  refine gf_X6_10 E (x := gp σ 701 h0) dX6_faultNode_1 rfl g1 rfl ?_
  refine gf_X6_85 E (x := gi σ 212 a2) dX6_faultNode_4 e3 g4 rfl ?_
  exact r_iret E dX6_faultNode_7
def ex_X6_steps (d : Dp) (σ : Sg) (h0 : Nat) : Option (Int32 × Sg) := (if gc σ h0 = 8 then (Option.bind (gp σ 701 h0) fun a2 => (if gc σ a2 = 3 then some (gi σ 210 a2, σ) else none)) else none)
set_option maxHeartbeats 4000000 in
set_option maxRecDepth 20000 in
theorem m_X6_steps {l : Launch} {d : Dp} {σ σ' : Sg} {h0 : Nat} {r : Int32} (h : ex_X6_steps d σ h0 = some (r, σ')) : Mt l d yX6_steps cX6_steps 1 (some .int) 0 0 σ [.ref h0] (some (.int r)) σ' 0 0 := by
  refine mt_start (own := RX6) (lv0 := [(0, va_rf (some h0))]) (by decide) rfl (by simp only [lg_sl, List.flatMap_cons, List.flatMap_nil, va_rf_cat]; exact Nat.le_of_ble_eq_true rfl) (by first | rfl | (simp only [lv_args, va_rf_cat]; rfl)) ?_
  intro p e s m args below meth c E hnm
  unfold ex_X6_steps at h
  obtain ⟨g1, h⟩ := ck h
  obtain ⟨a2, e3, h⟩ := nn h
  obtain ⟨g4, h⟩ := ck h
  obtain ⟨rfl, rfl⟩ := lf2 h
  refine r_aload_n E (x := some h0) (i := 0) (j := 0) dX6_steps_0 rfl rfl ?_
  refine gf_X6_10 E (x := gp σ 701 h0) dX6_steps_1 rfl g1 rfl ?_
  refine gf_X6_88 E (x := gi σ 210 a2) dX6_steps_4 e3 g4 rfl ?_
  exact r_iret E dX6_steps_7
def ex_X6_wipe (d : Dp) (σ : Sg) (h0 : Nat) : Option (Unit × Sg) := (if gc σ h0 = 8 then (Option.bind (gp σ 700 h0) fun a2 => (if gc σ a2 = 6 then (b2 (ex_X4_clear d σ a2) fun r7 s6 => (if gc s6 h0 = 8 then (Option.bind (gp s6 701 h0) fun a9 => (if gc s6 a9 = 3 then (b2 (ex_X1_forget d s6 a9) fun r14 s13 => some ((), s13)) else none)) else none)) else none)) else none)
set_option maxHeartbeats 4000000 in
set_option maxRecDepth 20000 in
theorem m_X6_wipe {l : Launch} {d : Dp} {σ σ' : Sg} {h0 : Nat} {r : Unit} (h : ex_X6_wipe d σ h0 = some (r, σ')) : Mt l d yX6_wipe cX6_wipe 1 none 2 43 σ [.ref h0] none σ' 0 0 := by
  refine mt_start (own := RX6) (lv0 := [(0, va_rf (some h0))]) (by decide) rfl (by simp only [lg_sl, List.flatMap_cons, List.flatMap_nil, va_rf_cat]; exact Nat.le_of_ble_eq_true rfl) (by first | rfl | (simp only [lv_args, va_rf_cat]; rfl)) ?_
  intro p e s m args below meth c E hnm
  unfold ex_X6_wipe at h
  obtain ⟨g1, h⟩ := ck h
  obtain ⟨a2, e3, h⟩ := nn h
  obtain ⟨g4, h⟩ := ck h
  obtain ⟨r7, s6, hc5, h⟩ := nb2 h
  obtain ⟨g8, h⟩ := ck h
  obtain ⟨a9, e10, h⟩ := nn h
  obtain ⟨g11, h⟩ := ck h
  obtain ⟨r14, s13, hc12, h⟩ := nb2 h
  obtain ⟨rfl, rfl⟩ := lf2 h
  refine r_aload_n E (x := some h0) (i := 0) (j := 0) dX6_wipe_0 rfl rfl ?_
  refine gf_X6_20 E (x := gp σ 700 h0) dX6_wipe_1 rfl g1 rfl ?_
  refine cl_X6_91 E (m_X4_clear hc5) dX6_wipe_4 ⟨Nat.le_of_ble_eq_true rfl, Nat.le_of_ble_eq_true rfl⟩ ⟨by first | decide | omega | (dsimp only; omega), by first | decide | omega | (dsimp only; omega)⟩ (by decide) e3 g4 ?_
  refine r_aload_n E (x := some h0) (i := 0) (j := 0) dX6_wipe_7 rfl rfl ?_
  refine gf_X6_10 E (x := gp s6 701 h0) dX6_wipe_8 rfl g8 rfl ?_
  refine cl_X6_94 E (m_X1_forget hc12) dX6_wipe_11 ⟨Nat.le_of_ble_eq_true rfl, Nat.le_of_ble_eq_true rfl⟩ ⟨by first | decide | omega | (dsimp only; omega), by first | decide | omega | (dsimp only; omega)⟩ (by decide) e10 g11 ?_
  exact r_vret E dX6_wipe_14
