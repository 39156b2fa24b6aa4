def ex_X7_fault (d : Dp) (σ : Sg) (h0 : Nat) : Option (Int32 × Sg) := (if gc σ h0 = 9 then some (gi σ 826 h0, σ) else none)
set_option maxHeartbeats 4000000 in
set_option maxRecDepth 20000 in
theorem m_X7_fault {l : Launch} {d : Dp} {σ σ' : Sg} {h0 : Nat} {r : Int32} (h : ex_X7_fault d σ h0 = some (r, σ')) : Mt l d yX7_fault cX7_fault 1 (some .int) 0 0 σ [.ref h0] (some (.int r)) σ' 0 0 := by
  refine mt_start (own := RX7) (lv0 := [(0, va_rf (some h0))]) (by decide) rfl (by simp only [lg_sl, List.flatMap_cons, List.flatMap_nil, va_rf_cat]; exact Nat.le_of_ble_eq_true rfl) (by first | rfl | (simp only [lv_args, va_rf_cat]; rfl)) ?_
  intro p e s m args below meth c E hnm
  unfold ex_X7_fault at h
  obtain ⟨g1, h⟩ := ck h
  obtain ⟨rfl, rfl⟩ := lf2 h
  refine r_aload_n E (x := some h0) (i := 0) (j := 0) dX7_fault_0 rfl rfl ?_
  refine gf_X7_108 E (x := gi σ 826 h0) dX7_fault_1 rfl g1 rfl ?_
  exact r_iret E dX7_fault_4
def ex_X7_faultNode (d : Dp) (σ : Sg) (h0 : Nat) : Option (Int32 × Sg) := (if gc σ h0 = 9 then some (gi σ 827 h0, σ) else none)
set_option maxHeartbeats 4000000 in
set_option maxRecDepth 20000 in
theorem m_X7_faultNode {l : Launch} {d : Dp} {σ σ' : Sg} {h0 : Nat} {r : Int32} (h : ex_X7_faultNode d σ h0 = some (r, σ')) : Mt l d yX7_faultNode cX7_faultNode 1 (some .int) 0 0 σ [.ref h0] (some (.int r)) σ' 0 0 := by
  refine mt_start (own := RX7) (lv0 := [(0, va_rf (some h0))]) (by decide) rfl (by simp only [lg_sl, List.flatMap_cons, List.flatMap_nil, va_rf_cat]; exact Nat.le_of_ble_eq_true rfl) (by first | rfl | (simp only [lv_args, va_rf_cat]; rfl)) ?_
  intro p e s m args below meth c E hnm
  unfold ex_X7_faultNode at h
  obtain ⟨g1, h⟩ := ck h
  obtain ⟨rfl, rfl⟩ := lf2 h
  refine r_aload_n E (x := some h0) (i := 0) (j := 0) dX7_faultNode_0 rfl rfl ?_
  refine gf_X7_61 E (x := gi σ 827 h0) dX7_faultNode_1 rfl g1 rfl ?_
  exact r_iret E dX7_faultNode_4
def ex_X7_steps (d : Dp) (σ : Sg) (h0 : Nat) : Option (Int32 × Sg) := (if gc σ h0 = 9 then some (gi σ 823 h0, σ) else none)
set_option maxHeartbeats 4000000 in
set_option maxRecDepth 20000 in
theorem m_X7_steps {l : Launch} {d : Dp} {σ σ' : Sg} {h0 : Nat} {r : Int32} (h : ex_X7_steps d σ h0 = some (r, σ')) : Mt l d yX7_steps cX7_steps 1 (some .int) 0 0 σ [.ref h0] (some (.int r)) σ' 0 0 := by
  refine mt_start (own := RX7) (lv0 := [(0, va_rf (some h0))]) (by decide) rfl (by simp only [lg_sl, List.flatMap_cons, List.flatMap_nil, va_rf_cat]; exact Nat.le_of_ble_eq_true rfl) (by first | rfl | (simp only [lv_args, va_rf_cat]; rfl)) ?_
  intro p e s m args below meth c E hnm
  unfold ex_X7_steps at h
  obtain ⟨g1, h⟩ := ck h
  obtain ⟨rfl, rfl⟩ := lf2 h
  refine r_aload_n E (x := some h0) (i := 0) (j := 0) dX7_steps_0 rfl rfl ?_
  refine gf_X7_95 E (x := gi σ 823 h0) dX7_steps_1 rfl g1 rfl ?_
  exact r_iret E dX7_steps_4
def lp_X7_wipe : Nat → Dp → Sg → Nat → Int32 → Option (Unit × Sg)
  | 0, _, _, _, _ => none
  | f + 1, d, σ, h0, v1 => (if (256 : Int32) ≤ v1 then some ((), σ) else (if gc σ h0 = 9 then (Option.bind (gp σ 812 h0) fun a12 => (if gc σ a12 = 10 then (if ¬ (v1 < 0 ∨ gl σ a12 ≤ Int32.toNatClampNeg v1) then (bn (wi σ a12 (Int32.toNatClampNeg v1) (-1 : Int32)) fun s16 => lp_X7_wipe f d s16 h0 (v1 + 1)) else none) else none)) else none))
set_option maxHeartbeats 4000000 in
set_option maxRecDepth 20000 in
theorem wlp_X7_wipe {p : Program} {l : Launch} {e : Env} {s : State} {m : MethodId} {args : Array Value} {below : List Frame} {meth : Method} {c : Code} {d : Dp} {σ0 σ' : Sg} {r : Unit} (E : Ev p s m args meth c RX7 cX7_wipe 2 none d (AA σ0)) : ∀ (f : Nat) (σ : Sg) (h0 : Nat) (v1 : Int32), lp_X7_wipe f d σ h0 v1 = some (r, σ') → Gk p l e { frames := 0, cells := 0, slots := 0, locals := 0 } s m args below meth c d (AA σ0) (MQ below (QQ d σ0 none σ') args s 0 0 (AA σ0)) 2 σ 0 0 17 [(0, va_rf (some h0)), (1, .int (v1))] [] := by
  intro f
  induction f with
  | zero => intro _ _ _ h; cases h
  | succ f ih =>
    intro σ h0 v1 h
    unfold lp_X7_wipe at h
    refine r_iload_n E (i := 1) (j := 1) dX7_wipe_17 rfl rfl ?_
    refine r_sipush E dX7_wipe_18 (v := 256) (by decide) ?_
    refine r_icmp_ge E (tgt := 37) dX7_wipe_21 (by decide) (fun c10 => ?_) (fun c10 => ?_)
    · have h := ift c10 h
      obtain ⟨rfl, rfl⟩ := lf2 h
      exact r_vret E dX7_wipe_37
    · have h := iff' c10 h
      obtain ⟨g11, h⟩ := ck h
      obtain ⟨a12, e13, h⟩ := nn h
      obtain ⟨g14, h⟩ := ck h
      obtain ⟨g15, h⟩ := ck h
      obtain ⟨s16, e17, h⟩ := nbn h
      refine r_aload_n E (x := some h0) (i := 0) (j := 0) dX7_wipe_24 rfl rfl ?_
      refine gf_X7_39 E (x := gp σ 812 h0) dX7_wipe_25 rfl g11 rfl ?_
      refine r_iload_n E (i := 1) (j := 1) dX7_wipe_28 rfl rfl ?_
      refine r_iconst E dX7_wipe_29 (v := -1) (by decide) ?_
      refine r_iast E dX7_wipe_30 e13 g14 g15 ?_
      refine r_nm e17 ?_
      refine r_iinc E (j := 1) (v := v1 + 1) (lv' := [(1, .int (v1 + 1)), (0, va_rf (some h0))]) dX7_wipe_31 rfl rfl (by decide) (by first | rfl | (simp only [List.filter_cons, List.filter_nil, va_rf_cat]; rfl)) ?_
      refine r_goto E (tgt := 17) dX7_wipe_34 (by decide) ?_
      refine r_sub [1, 0] (lv' := [(0, va_rf (some h0)), (1, .int (v1 + 1))]) rfl ?_
      exact ih _ _ _ h
def ex_X7_wipe (d : Dp) (σ : Sg) (h0 : Nat) : Option (Unit × Sg) := (if gc σ h0 = 9 then (bn (si σ 804 h0 (0 : Int32)) fun s2 => (if gc s2 h0 = 9 then (bn (si s2 813 h0 (-1 : Int32)) fun s5 => (if gc s5 h0 = 9 then (bn (si s5 825 h0 (-1 : Int32)) fun s8 => lp_X7_wipe 300 d s8 h0 (0 : Int32)) else none)) else none)) else none)
set_option maxHeartbeats 4000000 in
set_option maxRecDepth 20000 in
theorem m_X7_wipe {l : Launch} {d : Dp} {σ σ' : Sg} {h0 : Nat} {r : Unit} (h : ex_X7_wipe d σ h0 = some (r, σ')) : Mt l d yX7_wipe cX7_wipe 2 none 0 0 σ [.ref h0] none σ' 0 0 := by
  refine mt_start (own := RX7) (lv0 := [(0, va_rf (some h0))]) (by decide) rfl (by simp only [lg_sl, List.flatMap_cons, List.flatMap_nil, va_rf_cat]; exact Nat.le_of_ble_eq_true rfl) (by first | rfl | (simp only [lv_args, va_rf_cat]; rfl)) ?_
  intro p e s m args below meth c E hnm
  unfold ex_X7_wipe at h
  obtain ⟨g1, h⟩ := ck h
  obtain ⟨s2, e3, h⟩ := nbn h
  obtain ⟨g4, h⟩ := ck h
  obtain ⟨s5, e6, h⟩ := nbn h
  obtain ⟨g7, h⟩ := ck h
  obtain ⟨s8, e9, h⟩ := nbn h
  refine r_aload_n E (x := some h0) (i := 0) (j := 0) dX7_wipe_0 rfl rfl ?_
  refine r_iconst E dX7_wipe_1 (v := 0) (by decide) ?_
  refine pf_X7_64 E dX7_wipe_2 rfl g1 ?_
  refine r_nm e3 ?_
  refine r_aload_n E (x := some h0) (i := 0) (j := 0) dX7_wipe_5 rfl rfl ?_
  refine r_iconst E dX7_wipe_6 (v := -1) (by decide) ?_
  refine pf_X7_42 E dX7_wipe_7 rfl g4 ?_
  refine r_nm e6 ?_
  refine r_aload_n E (x := some h0) (i := 0) (j := 0) dX7_wipe_10 rfl rfl ?_
  refine r_iconst E dX7_wipe_11 (v := -1) (by decide) ?_
  refine pf_X7_58 E dX7_wipe_12 rfl g7 ?_
  refine r_nm e9 ?_
  refine r_iconst E dX7_wipe_15 (v := 0) (by decide) ?_
  refine r_istore_n E (i := 1) (lv' := [(1, .int ((0 : Int32))), (0, va_rf (some h0))]) dX7_wipe_16 rfl (by decide) (by first | rfl | (simp only [List.filter_cons, List.filter_nil, va_rf_cat]; rfl)) ?_
  refine r_sub [1, 0] (lv' := [(0, va_rf (some h0)), (1, .int ((0 : Int32)))]) rfl ?_
  exact wlp_X7_wipe E _ _ _ _ h
