def lp_X6_run : Nat → Dp → Sg → Nat → Int32 → Int32 → Int32 → Nat → Nat → Option (Int32 × Sg × Nat × Nat)
  | 0, _, _, _, _, _, _, _, _ => none
  | f + 1, d, σ, h0, v1, v2, v3, kc, nc => (if (1000000 : Int32) ≤ v3 then (if gc σ h0 = 8 then (Option.bind (gp σ 701 h0) fun a20 => (if gc σ a20 = 3 then (b2 (ex_X1_end d σ a20) fun r25 s24 => some (r25, s24, kc, nc)) else none)) else none) else (if gc σ h0 = 8 then (Option.bind (gp σ 701 h0) fun a27 => (if gc σ a27 = 3 then (b2 (ex_X1_isAtWork d σ a27) fun r32 s31 => (if r32 = (0 : Int32) then (if gc s31 h0 = 8 then (Option.bind (gp s31 701 h0) fun a35 => (if gc s31 a35 = 3 then (b2 (ex_X1_end d s31 a35) fun r40 s39 => some (r40, s39, kc, nc)) else none)) else none) else (if gc s31 h0 = 8 then (Option.bind (gp s31 701 h0) fun a42 => (if gc s31 a42 = 3 then (b4 (ex_X1_takeTurn d s31 a42) fun r47 s46 k48 n49 => lp_X6_run f d s46 h0 v1 v2 (v3 + 1) (kc + k48) (nc + n49)) else none)) else none))) else none)) else none))
theorem mo_lp_X6_run {d : Dp} {σ' : Sg} {r : Int32} {kF nF : Nat} : ∀ (f : Nat) (σ : Sg) (h0 : Nat) (v1 : Int32) (v2 : Int32) (v3 : Int32) (kc nc : Nat), lp_X6_run f d σ h0 v1 v2 v3 kc nc = some (r, σ', kF, nF) → kc ≤ kF ∧ nc ≤ nF := by
  intro f
  induction f with
  | zero => intro _ _ _ _ _ _ _ h; cases h
  | succ f ih =>
    intro σ h0 v1 v2 v3 kc nc h
    unfold lp_X6_run at h
    by_cases c18 : (1000000 : Int32) ≤ v3
    · have h := ift c18 h
      obtain ⟨_, h⟩ := ck h
      obtain ⟨a20, _, h⟩ := nn h
      obtain ⟨_, h⟩ := ck h
      obtain ⟨r25, s24, _, h⟩ := nb2 h
      obtain ⟨_, _, rfl, rfl⟩ := lf4 h
      exact ⟨by omega, by omega⟩
    · have h := iff' c18 h
      obtain ⟨_, h⟩ := ck h
      obtain ⟨a27, _, h⟩ := nn h
      obtain ⟨_, h⟩ := ck h
      obtain ⟨r32, s31, _, h⟩ := nb2 h
      by_cases c33 : r32 = (0 : Int32)
      · have h := ift c33 h
        obtain ⟨_, h⟩ := ck h
        obtain ⟨a35, _, h⟩ := nn h
        obtain ⟨_, h⟩ := ck h
        obtain ⟨r40, s39, _, h⟩ := nb2 h
        obtain ⟨_, _, rfl, rfl⟩ := lf4 h
        exact ⟨by omega, by omega⟩
      · have h := iff' c33 h
        obtain ⟨_, h⟩ := ck h
        obtain ⟨a42, _, h⟩ := nn h
        obtain ⟨_, h⟩ := ck h
        obtain ⟨r47, s46, k48, n49, _, h⟩ := nb4 h
        have hmo := ih _ _ _ _ _ _ _ h
        exact ⟨by omega, by omega⟩
set_option maxHeartbeats 4000000 in
set_option maxRecDepth 20000 in
theorem wlp_X6_run {p : Program} {l : Launch} {e : Env} {s : State} {m : MethodId} {args : Array Value} {below : List Frame} {meth : Method} {c : Code} {d : Dp} {σ0 σ' : Sg} {r : Int32} {kF nF : Nat} (E : Ev p s m args meth c RX6 cX6_run 4 (some .int) d (AA σ0)) : ∀ (f : Nat) (σ : Sg) (h0 : Nat) (v1 : Int32) (v2 : Int32) (v3 : Int32) (kc nc : Nat), lp_X6_run f d σ h0 v1 v2 v3 kc nc = some (r, σ', kF, nF) → Gk p l e { frames := 7, cells := kF, slots := nF, locals := 159 } s m args below meth c d (AA σ0) (MQ below (QQ d σ0 (some (.int r)) σ') args s kF nF (AA σ0)) 4 σ kc nc 32 [(0, va_rf (some h0)), (1, .int (v1)), (2, .int (v2)), (3, .int (v3))] [] := by
  intro f
  induction f with
  | zero => intro _ _ _ _ _ _ _ h; cases h
  | succ f ih =>
    intro σ h0 v1 v2 v3 kc nc h
    unfold lp_X6_run at h
    have hmo : kc ≤ kF ∧ nc ≤ nF := by
      by_cases c18 : (1000000 : Int32) ≤ v3
      · have h := ift c18 h
        obtain ⟨_, h⟩ := ck h
        obtain ⟨a20, _, h⟩ := nn h
        obtain ⟨_, h⟩ := ck h
        obtain ⟨r25, s24, _, h⟩ := nb2 h
        obtain ⟨_, _, rfl, rfl⟩ := lf4 h
        exact ⟨by omega, by omega⟩
      · have h := iff' c18 h
        obtain ⟨_, h⟩ := ck h
        obtain ⟨a27, _, h⟩ := nn h
        obtain ⟨_, h⟩ := ck h
        obtain ⟨r32, s31, _, h⟩ := nb2 h
        by_cases c33 : r32 = (0 : Int32)
        · have h := ift c33 h
          obtain ⟨_, h⟩ := ck h
          obtain ⟨a35, _, h⟩ := nn h
          obtain ⟨_, h⟩ := ck h
          obtain ⟨r40, s39, _, h⟩ := nb2 h
          obtain ⟨_, _, rfl, rfl⟩ := lf4 h
          exact ⟨by omega, by omega⟩
        · have h := iff' c33 h
          obtain ⟨_, h⟩ := ck h
          obtain ⟨a42, _, h⟩ := nn h
          obtain ⟨_, h⟩ := ck h
          obtain ⟨r47, s46, k48, n49, _, h⟩ := nb4 h
          have hmo := mo_lp_X6_run f _ _ _ _ _ _ _ h
          exact ⟨by omega, by omega⟩
    refine r_iload_n E (i := 3) (j := 3) dX6_run_32 rfl rfl ?_
    refine r_ldc E dX6_run_33 (v := 1000000) wm_2_117 ?_
    refine r_icmp_ge E (tgt := 61) dX6_run_35 (by decide) (fun c18 => ?_) (fun c18 => ?_)
    · have h := ift c18 h
      obtain ⟨g19, h⟩ := ck h
      obtain ⟨a20, e21, h⟩ := nn h
      obtain ⟨g22, h⟩ := ck h
      obtain ⟨r25, s24, hc23, h⟩ := nb2 h
      obtain ⟨rfl, rfl, rfl, rfl⟩ := lf4 h
      refine r_aload_n E (x := some h0) (i := 0) (j := 0) dX6_run_61 rfl rfl ?_
      refine gf_X6_10 E (x := gp σ 701 h0) dX6_run_62 rfl g19 rfl ?_
      refine cl_X6_53 E (m_X1_end hc23) dX6_run_65 ⟨Nat.le_of_ble_eq_true rfl, Nat.le_of_ble_eq_true rfl⟩ ⟨by first | decide | omega | (dsimp only; omega), by first | decide | omega | (dsimp only; omega)⟩ (by decide) e21 g22 ?_
      exact r_iret E dX6_run_68
    · have h := iff' c18 h
      obtain ⟨g26, h⟩ := ck h
      obtain ⟨a27, e28, h⟩ := nn h
      obtain ⟨g29, h⟩ := ck h
      obtain ⟨r32, s31, hc30, h⟩ := nb2 h
      have hmo : kc ≤ kF ∧ nc ≤ nF := by
        by_cases c33 : r32 = (0 : Int32)
        · have h := ift c33 h
          obtain ⟨_, h⟩ := ck h
          obtain ⟨a35, _, h⟩ := nn h
          obtain ⟨_, h⟩ := ck h
          obtain ⟨r40, s39, _, h⟩ := nb2 h
          obtain ⟨_, _, rfl, rfl⟩ := lf4 h
          exact ⟨by omega, by omega⟩
        · have h := iff' c33 h
          obtain ⟨_, h⟩ := ck h
          obtain ⟨a42, _, h⟩ := nn h
          obtain ⟨_, h⟩ := ck h
          obtain ⟨r47, s46, k48, n49, _, h⟩ := nb4 h
          have hmo := mo_lp_X6_run f _ _ _ _ _ _ _ h
          exact ⟨by omega, by omega⟩
      refine r_aload_n E (x := some h0) (i := 0) (j := 0) dX6_run_38 rfl rfl ?_
      refine gf_X6_10 E (x := gp σ 701 h0) dX6_run_39 rfl g26 rfl ?_
      refine cl_X6_46 E (m_X1_isAtWork hc30) dX6_run_42 ⟨Nat.le_of_ble_eq_true rfl, Nat.le_of_ble_eq_true rfl⟩ ⟨by first | decide | omega | (dsimp only; omega), by first | decide | omega | (dsimp only; omega)⟩ (by decide) e28 g29 ?_
      refine r_if_eq E (tgt := 61) dX6_run_45 (by decide) (fun c33 => ?_) (fun c33 => ?_)
      · have h := ift c33 h
        obtain ⟨g34, h⟩ := ck h
        obtain ⟨a35, e36, h⟩ := nn h
        obtain ⟨g37, h⟩ := ck h
        obtain ⟨r40, s39, hc38, h⟩ := nb2 h
        obtain ⟨rfl, rfl, rfl, rfl⟩ := lf4 h
        refine r_aload_n E (x := some h0) (i := 0) (j := 0) dX6_run_61 rfl rfl ?_
        refine gf_X6_10 E (x := gp s31 701 h0) dX6_run_62 rfl g34 rfl ?_
        refine cl_X6_53 E (m_X1_end hc38) dX6_run_65 ⟨Nat.le_of_ble_eq_true rfl, Nat.le_of_ble_eq_true rfl⟩ ⟨by first | decide | omega | (dsimp only; omega), by first | decide | omega | (dsimp only; omega)⟩ (by decide) e36 g37 ?_
        exact r_iret E dX6_run_68
      · have h := iff' c33 h
        obtain ⟨g41, h⟩ := ck h
        obtain ⟨a42, e43, h⟩ := nn h
        obtain ⟨g44, h⟩ := ck h
        obtain ⟨r47, s46, k48, n49, hc45, h⟩ := nb4 h
        have hmo := mo_lp_X6_run f _ _ _ _ _ _ _ h
        refine r_aload_n E (x := some h0) (i := 0) (j := 0) dX6_run_48 rfl rfl ?_
        refine gf_X6_10 E (x := gp s31 701 h0) dX6_run_49 rfl g41 rfl ?_
        refine cl_X6_50 E (m_X1_takeTurn hc45) dX6_run_52 ⟨Nat.le_of_ble_eq_true rfl, Nat.le_of_ble_eq_true rfl⟩ ⟨by first | decide | omega | (dsimp only; omega), by first | decide | omega | (dsimp only; omega)⟩ (by decide) e43 g44 ?_
        refine r_iinc E (j := 3) (v := v3 + 1) (lv' := [(3, .int (v3 + 1)), (0, va_rf (some h0)), (1, .int (v1)), (2, .int (v2))]) dX6_run_55 rfl rfl (by decide) (by first | rfl | (simp only [List.filter_cons, List.filter_nil, va_rf_cat]; rfl)) ?_
        refine r_goto E (tgt := 32) dX6_run_58 (by decide) ?_
        refine r_sub [1, 2, 3, 0] (lv' := [(0, va_rf (some h0)), (1, .int (v1)), (2, .int (v2)), (3, .int (v3 + 1))]) rfl ?_
        exact ih _ _ _ _ _ _ _ h
def ex_X6_run (d : Dp) (σ : Sg) (h0 : Nat) (p1 : Int32) (p2 : Int32) : Option (Int32 × Sg × Nat × Nat) := (if p2 < (0 : Int32) then some ((-2 : Int32), σ, 0, 0) else (if p2 ≤ (10000 : Int32) then (if gc σ h0 = 8 then (Option.bind (gp σ 700 h0) fun a4 => (if gc σ a4 = 6 then (b2 (ex_X4_at d σ a4 p1) fun r9 s8 => (Option.bind (gp σ 701 h0) fun a10 => (if gc s8 a10 = 3 then (b4 (ex_X1_begin d s8 a10 r9 p2) fun r15 s14 k16 n17 => lp_X6_run 1000010 d s14 h0 p1 p2 (0 : Int32) (0 + k16) (0 + n17)) else none))) else none)) else none) else some ((-2 : Int32), σ, 0, 0)))
set_option maxHeartbeats 4000000 in
set_option maxRecDepth 20000 in
theorem m_X6_run {l : Launch} {d : Dp} {σ σ' : Sg} {h0 : Nat} {p1 : Int32} {p2 : Int32} {r : Int32} {kF nF : Nat} (h : ex_X6_run d σ h0 p1 p2 = some (r, σ', kF, nF)) : Mt l d yX6_run cX6_run 4 (some .int) 7 159 σ [.ref h0, .int (p1), .int (p2)] (some (.int r)) σ' kF nF := by
  refine mt_start (own := RX6) (lv0 := [(0, va_rf (some h0)), (1, .int (p1)), (2, .int (p2))]) (by decide) rfl (by simp only [lg_sl, List.flatMap_cons, List.flatMap_nil, va_rf_cat]; exact Nat.le_of_ble_eq_true rfl) (by first | rfl | (simp only [lv_args, va_rf_cat]; rfl)) ?_
  intro p e s m args below meth c E hnm
  unfold ex_X6_run at h
  refine r_iload_n E (i := 2) (j := 2) dX6_run_0 rfl rfl ?_
  refine r_if_lt E (tgt := 11) dX6_run_1 (by decide) (fun c1 => ?_) (fun c1 => ?_)
  · have h := ift c1 h
    obtain ⟨rfl, rfl, rfl, rfl⟩ := lf4 h
    refine r_bipush E dX6_run_11 (v := -2) (by decide) ?_
    exact r_iret E dX6_run_13
  · have h := iff' c1 h
    refine r_iload_n E (i := 2) (j := 2) dX6_run_4 rfl rfl ?_
    refine r_sipush E dX6_run_5 (v := 10000) (by decide) ?_
    refine r_icmp_le E (tgt := 14) dX6_run_8 (by decide) (fun c2 => ?_) (fun c2 => ?_)
    · have h := ift c2 h
      obtain ⟨g3, h⟩ := ck h
      obtain ⟨a4, e5, h⟩ := nn h
      obtain ⟨g6, h⟩ := ck h
      obtain ⟨r9, s8, hc7, h⟩ := nb2 h
      obtain ⟨a10, e11, h⟩ := nn h
      obtain ⟨g12, h⟩ := ck h
      obtain ⟨r15, s14, k16, n17, hc13, h⟩ := nb4 h
      have hmo := mo_lp_X6_run _ _ _ _ _ _ _ _ h
      refine r_aload_n E (x := some h0) (i := 0) (j := 0) dX6_run_14 rfl rfl ?_
      refine gf_X6_10 E (x := gp σ 701 h0) dX6_run_15 rfl g3 rfl ?_
      refine r_aload_n E (x := some h0) (i := 0) (j := 0) dX6_run_18 rfl rfl ?_
      refine gf_X6_20 E (x := gp σ 700 h0) dX6_run_19 rfl g3 rfl ?_
      refine r_iload_n E (i := 1) (j := 1) dX6_run_22 rfl rfl ?_
      refine cl_X6_33 E (m_X4_at hc7) dX6_run_23 ⟨Nat.le_of_ble_eq_true rfl, Nat.le_of_ble_eq_true rfl⟩ ⟨by first | decide | omega | (dsimp only; omega), by first | decide | omega | (dsimp only; omega)⟩ (by simp only [List.map_cons, List.map_nil, va_rf_cat]; exact Nat.le_of_ble_eq_true rfl) e5 g6 ?_
      refine r_iload_n E (i := 2) (j := 2) dX6_run_26 rfl rfl ?_
      refine cl_X6_41 E (m_X1_begin hc13) dX6_run_27 ⟨Nat.le_of_ble_eq_true rfl, Nat.le_of_ble_eq_true rfl⟩ ⟨by first | decide | omega | (dsimp only; omega), by first | decide | omega | (dsimp only; omega)⟩ (by decide) e11 g12 ?_
      refine r_iconst E dX6_run_30 (v := 0) (by decide) ?_
      refine r_istore_n E (i := 3) (lv' := [(3, .int ((0 : Int32))), (0, va_rf (some h0)), (1, .int (p1)), (2, .int (p2))]) dX6_run_31 rfl (by decide) (by first | rfl | (simp only [List.filter_cons, List.filter_nil, va_rf_cat]; rfl)) ?_
      refine r_sub [1, 2, 3, 0] (lv' := [(0, va_rf (some h0)), (1, .int (p1)), (2, .int (p2)), (3, .int ((0 : Int32)))]) rfl ?_
      exact wlp_X6_run E _ _ _ _ _ _ _ _ h
    · have h := iff' c2 h
      obtain ⟨rfl, rfl, rfl, rfl⟩ := lf4 h
      refine r_bipush E dX6_run_11 (v := -2) (by decide) ?_
      exact r_iret E dX6_run_13
def ex_X6_value (d : Dp) (σ : Sg) (h0 : Nat) (p1 : Int32) : Option (Int64 × Sg) := (if gc σ h0 = 8 then (Option.bind (gp σ 701 h0) fun a2 => (if gc σ a2 = 3 then (b2 (ex_X1_seenAt d σ a2 p1) fun r7 s6 => (if r7 = none then some ((0 : Int64), s6) else (Option.bind r7 fun a9 => (if gc s6 a9 = 7 then (b2 (ex_X5_hasValue d s6 a9) fun r14 s13 => (if r14 = (0 : Int32) then some ((0 : Int64), s13) else (if gc s13 a9 = 7 then some (gj s13 602 a9, s13) else none))) else none)))) else none)) else none)
set_option maxHeartbeats 4000000 in
set_option maxRecDepth 20000 in
theorem m_X6_value {l : Launch} {d : Dp} {σ σ' : Sg} {h0 : Nat} {p1 : Int32} {r : Int64} (h : ex_X6_value d σ h0 p1 = some (r, σ')) : Mt l d yX6_value cX6_value 3 (some .long) 2 42 σ [.ref h0, .int (p1)] (some (.long r)) σ' 0 0 := by
  refine mt_start (own := RX6) (lv0 := [(0, va_rf (some h0)), (1, .int (p1))]) (by decide) rfl (by simp only [lg_sl, List.flatMap_cons, List.flatMap_nil, va_rf_cat]; exact Nat.le_of_ble_eq_true rfl) (by first | rfl | (simp only [lv_args, va_rf_cat]; rfl)) ?_
  intro p e s m args below meth c E hnm
  unfold ex_X6_value at h
  obtain ⟨g1, h⟩ := ck h
  obtain ⟨a2, e3, h⟩ := nn h
  obtain ⟨g4, h⟩ := ck h
  obtain ⟨r7, s6, hc5, h⟩ := nb2 h
  refine r_aload_n E (x := some h0) (i := 0) (j := 0) dX6_value_0 rfl rfl ?_
  refine gf_X6_10 E (x := gp σ 701 h0) dX6_value_1 rfl g1 rfl ?_
  refine r_iload_n E (i := 1) (j := 1) dX6_value_4 rfl rfl ?_
  refine cl_X6_57 E (m_X1_seenAt hc5) dX6_value_5 ⟨Nat.le_of_ble_eq_true rfl, Nat.le_of_ble_eq_true rfl⟩ ⟨by first | decide | omega | (dsimp only; omega), by first | decide | omega | (dsimp only; omega)⟩ (by decide) e3 g4 ?_
  refine r_astore_n E (i := 2) (lv' := [(2, va_rf (r7)), (0, va_rf (some h0)), (1, .int (p1))]) dX6_value_8 rfl (by decide) (by first | rfl | (simp only [List.filter_cons, List.filter_nil, va_rf_cat]; rfl)) ?_
  refine r_aload_n E (x := r7) (i := 2) (j := 0) dX6_value_9 rfl rfl ?_
  refine r_ifnull E (o := r7) (tgt := 27) dX6_value_10 (by decide) (fun c8 => ?_) (fun c8 => ?_)
  · have h := ift c8 h
    obtain ⟨rfl, rfl⟩ := lf2 h
    refine r_lconst E dX6_value_27 (v := 0) (by decide) ?_
    exact r_lret E dX6_value_28
  · have h := iff' c8 h
    obtain ⟨a9, e10, h⟩ := nn h
    obtain ⟨g11, h⟩ := ck h
    obtain ⟨r14, s13, hc12, h⟩ := nb2 h
    refine r_aload_n E (x := r7) (i := 2) (j := 0) dX6_value_13 rfl rfl ?_
    refine cl_X6_61 E (m_X5_hasValue hc12) dX6_value_14 ⟨Nat.le_of_ble_eq_true rfl, Nat.le_of_ble_eq_true rfl⟩ ⟨by first | decide | omega | (dsimp only; omega), by first | decide | omega | (dsimp only; omega)⟩ (by decide) e10 g11 ?_
    refine r_if_eq E (tgt := 27) dX6_value_17 (by decide) (fun c15 => ?_) (fun c15 => ?_)
    · have h := ift c15 h
      obtain ⟨rfl, rfl⟩ := lf2 h
      refine r_lconst E dX6_value_27 (v := 0) (by decide) ?_
      exact r_lret E dX6_value_28
    · have h := iff' c15 h
      obtain ⟨g16, h⟩ := ck h
      obtain ⟨rfl, rfl⟩ := lf2 h
      refine r_aload_n E (x := r7) (i := 2) (j := 0) dX6_value_20 rfl rfl ?_
      refine gf_X6_66 E (x := gj s13 602 a9) dX6_value_21 e10 g16 rfl ?_
      refine r_goto E (tgt := 28) dX6_value_24 (by decide) ?_
      exact r_lret E dX6_value_28
