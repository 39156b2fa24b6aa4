def ex_X7_forward (d : Dp) (σ : Sg) (h0 : Nat) (p1 : Int32) : Option (Unit × Sg) := (if gc σ h0 = 9 then (Option.bind (gp σ 801 h0) fun a2 => (if gc σ a2 = 10 then (if ¬ (p1 < 0 ∨ gl σ a2 ≤ Int32.toNatClampNeg p1) then (if (ai σ a2 (Int32.toNatClampNeg p1)) = (15 : Int32) then (Option.bind (gp σ 815 h0) fun a20 => (if gc σ a20 = 10 then (if ¬ ((gi σ 818 h0) < 0 ∨ gl σ a20 ≤ Int32.toNatClampNeg (gi σ 818 h0)) then (if (ai σ a20 (Int32.toNatClampNeg (gi σ 818 h0))) ≤ (0 : Int32) then (b2 (ex_X7_part0 d σ h0 p1) fun r27 s26 => some ((), s26)) else (bn (si σ 818 h0 ((gi σ 818 h0) - (1 : Int32))) fun s28 => some ((), s28))) else none) else none)) else (if ¬ (p1 < 0 ∨ gl σ a2 ≤ Int32.toNatClampNeg p1) then (if (ai σ a2 (Int32.toNatClampNeg p1)) = (19 : Int32) then (b2 (ex_X7_choose d σ h0 p1) fun r19 s18 => some ((), s18)) else (if ¬ (p1 < 0 ∨ gl σ a2 ≤ Int32.toNatClampNeg p1) then (if (ai σ a2 (Int32.toNatClampNeg p1)) = (20 : Int32) then (b2 (ex_X7_again d σ h0 p1) fun r16 s15 => some ((), s15)) else (b2 (ex_X7_eager d σ h0 p1) fun r13 s12 => some ((), s12))) else none)) else none)) else none) else none)) else none)
set_option maxHeartbeats 4000000 in
set_option maxRecDepth 20000 in
theorem m_X7_forward {l : Launch} {d : Dp} {σ σ' : Sg} {h0 : Nat} {p1 : Int32} {r : Unit} (h : ex_X7_forward d σ h0 p1 = some (r, σ')) : Mt l d yX7_forward cX7_forward 2 none 6 147 σ [.ref h0, .int (p1)] none σ' 0 0 := by
  refine mt_start (own := RX7) (lv0 := [(0, va_rf (some h0)), (1, .int (p1))]) (by decide) rfl (by simp only [lg_sl, List.flatMap_cons, List.flatMap_nil, va_rf_cat]; exact Nat.le_of_ble_eq_true rfl) (by first | rfl | (simp only [lv_args, va_rf_cat]; rfl)) ?_
  intro p e s m args below meth c E hnm
  unfold ex_X7_forward at h
  obtain ⟨g1, h⟩ := ck h
  obtain ⟨a2, e3, h⟩ := nn h
  obtain ⟨g4, h⟩ := ck h
  obtain ⟨g5, h⟩ := ck h
  refine r_aload_n E (x := some h0) (i := 0) (j := 0) dX7_forward_0 rfl rfl ?_
  refine gf_X7_13 E (x := gp σ 801 h0) dX7_forward_1 rfl g1 rfl ?_
  refine r_iload_n E (i := 1) (j := 1) dX7_forward_4 rfl rfl ?_
  refine r_iald E dX7_forward_5 e3 g4 g5 ?_
  refine r_bipush E dX7_forward_6 (v := 15) (by decide) ?_
  refine r_icmp_ne E (tgt := 44) dX7_forward_8 (by decide) (fun c6 => ?_) (fun c6 => ?_)
  · have h := iff' c6 h
    obtain ⟨g7, h⟩ := ck h
    refine r_aload_n E (x := some h0) (i := 0) (j := 0) dX7_forward_44 rfl rfl ?_
    refine gf_X7_13 E (x := gp σ 801 h0) dX7_forward_45 rfl g1 rfl ?_
    refine r_iload_n E (i := 1) (j := 1) dX7_forward_48 rfl rfl ?_
    refine r_iald E dX7_forward_49 e3 g4 g7 ?_
    refine r_bipush E dX7_forward_50 (v := 19) (by decide) ?_
    refine r_icmp_ne E (tgt := 63) dX7_forward_52 (by decide) (fun c8 => ?_) (fun c8 => ?_)
    · have h := iff' c8 h
      obtain ⟨g9, h⟩ := ck h
      refine r_aload_n E (x := some h0) (i := 0) (j := 0) dX7_forward_63 rfl rfl ?_
      refine gf_X7_13 E (x := gp σ 801 h0) dX7_forward_64 rfl g1 rfl ?_
      refine r_iload_n E (i := 1) (j := 1) dX7_forward_67 rfl rfl ?_
      refine r_iald E dX7_forward_68 e3 g4 g9 ?_
      refine r_bipush E dX7_forward_69 (v := 20) (by decide) ?_
      refine r_icmp_ne E (tgt := 82) dX7_forward_71 (by decide) (fun c10 => ?_) (fun c10 => ?_)
      · have h := iff' c10 h
        obtain ⟨r13, s12, hc11, h⟩ := nb2 h
        obtain ⟨rfl, rfl⟩ := lf2 h
        refine r_aload_n E (x := some h0) (i := 0) (j := 0) dX7_forward_82 rfl rfl ?_
        refine r_iload_n E (i := 1) (j := 1) dX7_forward_83 rfl rfl ?_
        refine cl_X7_140 E (m_X7_eager hc11) dX7_forward_84 ⟨Nat.le_of_ble_eq_true rfl, Nat.le_of_ble_eq_true rfl⟩ ⟨by first | decide | omega | (dsimp only; omega), by first | decide | omega | (dsimp only; omega)⟩ (by decide) rfl g1 ?_
        exact r_vret E dX7_forward_87
      · have h := ift c10 h
        obtain ⟨r16, s15, hc14, h⟩ := nb2 h
        obtain ⟨rfl, rfl⟩ := lf2 h
        refine r_aload_n E (x := some h0) (i := 0) (j := 0) dX7_forward_74 rfl rfl ?_
        refine r_iload_n E (i := 1) (j := 1) dX7_forward_75 rfl rfl ?_
        refine cl_X7_137 E (m_X7_again hc14) dX7_forward_76 ⟨Nat.le_of_ble_eq_true rfl, Nat.le_of_ble_eq_true rfl⟩ ⟨by first | decide | omega | (dsimp only; omega), by first | decide | omega | (dsimp only; omega)⟩ (by decide) rfl g1 ?_
        refine r_goto E (tgt := 87) dX7_forward_79 (by decide) ?_
        exact r_vret E dX7_forward_87
    · have h := ift c8 h
      obtain ⟨r19, s18, hc17, h⟩ := nb2 h
      obtain ⟨rfl, rfl⟩ := lf2 h
      refine r_aload_n E (x := some h0) (i := 0) (j := 0) dX7_forward_55 rfl rfl ?_
      refine r_iload_n E (i := 1) (j := 1) dX7_forward_56 rfl rfl ?_
      refine cl_X7_134 E (m_X7_choose hc17) dX7_forward_57 ⟨Nat.le_of_ble_eq_true rfl, Nat.le_of_ble_eq_true rfl⟩ ⟨by first | decide | omega | (dsimp only; omega), by first | decide | omega | (dsimp only; omega)⟩ (by decide) rfl g1 ?_
      refine r_goto E (tgt := 87) dX7_forward_60 (by decide) ?_
      exact r_vret E dX7_forward_87
  · have h := ift c6 h
    obtain ⟨a20, e21, h⟩ := nn h
    obtain ⟨g22, h⟩ := ck h
    obtain ⟨g23, h⟩ := ck h
    refine r_aload_n E (x := some h0) (i := 0) (j := 0) dX7_forward_11 rfl rfl ?_
    refine gf_X7_49 E (x := gp σ 815 h0) dX7_forward_12 rfl g1 rfl ?_
    refine r_aload_n E (x := some h0) (i := 0) (j := 0) dX7_forward_15 rfl rfl ?_
    refine gf_X7_98 E (x := gi σ 818 h0) dX7_forward_16 rfl g1 rfl ?_
    refine r_iald E dX7_forward_19 e21 g22 g23 ?_
    refine r_if_le E (tgt := 36) dX7_forward_20 (by decide) (fun c24 => ?_) (fun c24 => ?_)
    · have h := ift c24 h
      obtain ⟨r27, s26, hc25, h⟩ := nb2 h
      obtain ⟨rfl, rfl⟩ := lf2 h
      refine r_aload_n E (x := some h0) (i := 0) (j := 0) dX7_forward_36 rfl rfl ?_
      refine r_iload_n E (i := 1) (j := 1) dX7_forward_37 rfl rfl ?_
      refine cl_X7_131 E (m_X7_part0 hc25) dX7_forward_38 ⟨Nat.le_of_ble_eq_true rfl, Nat.le_of_ble_eq_true rfl⟩ ⟨by first | decide | omega | (dsimp only; omega), by first | decide | omega | (dsimp only; omega)⟩ (by decide) rfl g1 ?_
      refine r_goto E (tgt := 87) dX7_forward_41 (by decide) ?_
      exact r_vret E dX7_forward_87
    · have h := iff' c24 h
      obtain ⟨s28, e29, h⟩ := nbn h
      obtain ⟨rfl, rfl⟩ := lf2 h
      refine r_aload_n E (x := some h0) (i := 0) (j := 0) dX7_forward_23 rfl rfl ?_
      refine r_dup E dX7_forward_24 (va_rf_cat _) ?_
      refine gf_X7_98 E (x := gi σ 818 h0) dX7_forward_25 rfl g1 rfl ?_
      refine r_iconst E dX7_forward_28 (v := 1) (by decide) ?_
      refine r_isub E dX7_forward_29 ?_
      refine pf_X7_98 E dX7_forward_30 rfl g1 ?_
      refine r_nm e29 ?_
      refine r_goto E (tgt := 87) dX7_forward_33 (by decide) ?_
      exact r_vret E dX7_forward_87
