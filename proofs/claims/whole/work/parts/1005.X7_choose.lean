def ex_X7_choose (d : Dp) (σ : Sg) (h0 : Nat) (p1 : Int32) : Option (Unit × Sg) := (if gc σ h0 = 9 then (Option.bind (gp σ 815 h0) fun a2 => (if gc σ a2 = 10 then (if ¬ ((gi σ 818 h0) < 0 ∨ gl σ a2 ≤ Int32.toNatClampNeg (gi σ 818 h0)) then (if (ai σ a2 (Int32.toNatClampNeg (gi σ 818 h0))) = (0 : Int32) then (b2 (ex_X7_part0 d σ h0 p1) fun r36 s35 => some ((), s35)) else (if ¬ ((gi σ 818 h0) < 0 ∨ gl σ a2 ≤ Int32.toNatClampNeg (gi σ 818 h0)) then (if (ai σ a2 (Int32.toNatClampNeg (gi σ 818 h0))) = (2 : Int32) then (bn (si σ 818 h0 ((gi σ 818 h0) - (1 : Int32))) fun s32 => some ((), s32)) else (b2 (ex_X7_is d σ h0 p1 (gi σ 819 h0) (1 : Int32)) fun r11 s10 => (if r11 = (0 : Int32) then some ((), s10) else (if gc s10 h0 = 9 then (Option.bind (gp s10 815 h0) fun a14 => (if gc s10 a14 = 10 then (if ¬ ((gi s10 818 h0) < 0 ∨ gl s10 a14 ≤ Int32.toNatClampNeg (gi s10 818 h0)) then (bn (wi s10 a14 (Int32.toNatClampNeg (gi s10 818 h0)) (2 : Int32)) fun s18 => (if gc s18 h0 = 9 then (Option.bind (gp s18 808 h0) fun a21 => (if gc s18 a21 = 11 then (if ¬ ((gi s18 819 h0) < 0 ∨ gl s18 a21 ≤ Int32.toNatClampNeg (gi s18 819 h0)) then (if (lg_cmp (aj s18 a21 (Int32.toNatClampNeg (gi s18 819 h0))) (0 : Int64)) = (0 : Int32) then (b2 (ex_X7_begin d s18 h0 p1 (2 : Int32)) fun r28 s27 => some ((), s27)) else (b2 (ex_X7_begin d s18 h0 p1 (1 : Int32)) fun r31 s30 => some ((), s30))) else none) else none)) else none)) else none) else none)) else none)))) else none)) else none) else none)) else none)
set_option maxHeartbeats 4000000 in
set_option maxRecDepth 20000 in
theorem m_X7_choose {l : Launch} {d : Dp} {σ σ' : Sg} {h0 : Nat} {p1 : Int32} {r : Unit} (h : ex_X7_choose d σ h0 p1 = some (r, σ')) : Mt l d yX7_choose cX7_choose 2 none 4 87 σ [.ref h0, .int (p1)] none σ' 0 0 := by
  refine mt_start (own := RX7) (lv0 := [(0, va_rf (some h0)), (1, .int (p1))]) (by decide) rfl (by simp only [lg_sl, List.flatMap_cons, List.flatMap_nil, va_rf_cat]; exact Nat.le_of_ble_eq_true rfl) (by first | rfl | (simp only [lv_args, va_rf_cat]; rfl)) ?_
  intro p e s m args below meth c E hnm
  unfold ex_X7_choose at h
  obtain ⟨g1, h⟩ := ck h
  obtain ⟨a2, e3, h⟩ := nn h
  obtain ⟨g4, h⟩ := ck h
  obtain ⟨g5, h⟩ := ck h
  refine r_aload_n E (x := some h0) (i := 0) (j := 0) dX7_choose_0 rfl rfl ?_
  refine gf_X7_49 E (x := gp σ 815 h0) dX7_choose_1 rfl g1 rfl ?_
  refine r_aload_n E (x := some h0) (i := 0) (j := 0) dX7_choose_4 rfl rfl ?_
  refine gf_X7_98 E (x := gi σ 818 h0) dX7_choose_5 rfl g1 rfl ?_
  refine r_iald E dX7_choose_8 e3 g4 g5 ?_
  refine r_if_ne E (tgt := 20) dX7_choose_9 (by decide) (fun c6 => ?_) (fun c6 => ?_)
  · have h := iff' c6 h
    obtain ⟨g7, h⟩ := ck h
    refine r_aload_n E (x := some h0) (i := 0) (j := 0) dX7_choose_20 rfl rfl ?_
    refine gf_X7_49 E (x := gp σ 815 h0) dX7_choose_21 rfl g1 rfl ?_
    refine r_aload_n E (x := some h0) (i := 0) (j := 0) dX7_choose_24 rfl rfl ?_
    refine gf_X7_98 E (x := gi σ 818 h0) dX7_choose_25 rfl g1 rfl ?_
    refine r_iald E dX7_choose_28 e3 g4 g7 ?_
    refine r_iconst E dX7_choose_29 (v := 2) (by decide) ?_
    refine r_icmp_ne E (tgt := 46) dX7_choose_30 (by decide) (fun c8 => ?_) (fun c8 => ?_)
    · have h := iff' c8 h
      obtain ⟨r11, s10, hc9, h⟩ := nb2 h
      refine r_aload_n E (x := some h0) (i := 0) (j := 0) dX7_choose_46 rfl rfl ?_
      refine r_iload_n E (i := 1) (j := 1) dX7_choose_47 rfl rfl ?_
      refine r_aload_n E (x := some h0) (i := 0) (j := 0) dX7_choose_48 rfl rfl ?_
      refine gf_X7_114 E (x := gi σ 819 h0) dX7_choose_49 rfl g1 rfl ?_
      refine r_iconst E dX7_choose_52 (v := 1) (by decide) ?_
      refine cl_X7_143 E (m_X7_is hc9) dX7_choose_53 ⟨Nat.le_of_ble_eq_true rfl, Nat.le_of_ble_eq_true rfl⟩ ⟨by first | decide | omega | (dsimp only; omega), by first | decide | omega | (dsimp only; omega)⟩ (by decide) rfl g1 ?_
      refine r_if_eq E (tgt := 93) dX7_choose_56 (by decide) (fun c12 => ?_) (fun c12 => ?_)
      · have h := ift c12 h
        obtain ⟨rfl, rfl⟩ := lf2 h
        exact r_vret E dX7_choose_93
      · have h := iff' c12 h
        obtain ⟨g13, h⟩ := ck h
        obtain ⟨a14, e15, h⟩ := nn h
        obtain ⟨g16, h⟩ := ck h
        obtain ⟨g17, h⟩ := ck h
        obtain ⟨s18, e19, h⟩ := nbn h
        obtain ⟨g20, h⟩ := ck h
        obtain ⟨a21, e22, h⟩ := nn h
        obtain ⟨g23, h⟩ := ck h
        obtain ⟨g24, h⟩ := ck h
        refine r_aload_n E (x := some h0) (i := 0) (j := 0) dX7_choose_59 rfl rfl ?_
        refine gf_X7_49 E (x := gp s10 815 h0) dX7_choose_60 rfl g13 rfl ?_
        refine r_aload_n E (x := some h0) (i := 0) (j := 0) dX7_choose_63 rfl rfl ?_
        refine gf_X7_98 E (x := gi s10 818 h0) dX7_choose_64 rfl g13 rfl ?_
        refine r_iconst E dX7_choose_67 (v := 2) (by decide) ?_
        refine r_iast E dX7_choose_68 e15 g16 g17 ?_
        refine r_nm e19 ?_
        refine r_aload_n E (x := some h0) (i := 0) (j := 0) dX7_choose_69 rfl rfl ?_
        refine r_iload_n E (i := 1) (j := 1) dX7_choose_70 rfl rfl ?_
        refine r_aload_n E (x := some h0) (i := 0) (j := 0) dX7_choose_71 rfl rfl ?_
        refine gf_X7_33 E (x := gp s18 808 h0) dX7_choose_72 rfl g20 rfl ?_
        refine r_aload_n E (x := some h0) (i := 0) (j := 0) dX7_choose_75 rfl rfl ?_
        refine gf_X7_114 E (x := gi s18 819 h0) dX7_choose_76 rfl g20 rfl ?_
        refine r_lald E dX7_choose_79 e22 g23 g24 ?_
        refine r_lconst E dX7_choose_80 (v := 0) (by decide) ?_
        refine r_lcmp E dX7_choose_81 ?_
        refine r_if_eq E (tgt := 89) dX7_choose_82 (by decide) (fun c25 => ?_) (fun c25 => ?_)
        · have h := ift c25 h
          obtain ⟨r28, s27, hc26, h⟩ := nb2 h
          obtain ⟨rfl, rfl⟩ := lf2 h
          refine r_iconst E dX7_choose_89 (v := 2) (by decide) ?_
          refine cl_X7_127 E (m_X7_begin hc26) dX7_choose_90 ⟨Nat.le_of_ble_eq_true rfl, Nat.le_of_ble_eq_true rfl⟩ ⟨by first | decide | omega | (dsimp only; omega), by first | decide | omega | (dsimp only; omega)⟩ (by decide) rfl g20 ?_
          exact r_vret E dX7_choose_93
        · have h := iff' c25 h
          obtain ⟨r31, s30, hc29, h⟩ := nb2 h
          obtain ⟨rfl, rfl⟩ := lf2 h
          refine r_iconst E dX7_choose_85 (v := 1) (by decide) ?_
          refine r_goto E (tgt := 90) dX7_choose_86 (by decide) ?_
          refine cl_X7_127 E (m_X7_begin hc29) dX7_choose_90 ⟨Nat.le_of_ble_eq_true rfl, Nat.le_of_ble_eq_true rfl⟩ ⟨by first | decide | omega | (dsimp only; omega), by first | decide | omega | (dsimp only; omega)⟩ (by decide) rfl g20 ?_
          exact r_vret E dX7_choose_93
    · have h := ift c8 h
      obtain ⟨s32, e33, h⟩ := nbn h
      obtain ⟨rfl, rfl⟩ := lf2 h
      refine r_aload_n E (x := some h0) (i := 0) (j := 0) dX7_choose_33 rfl rfl ?_
      refine r_dup E dX7_choose_34 (va_rf_cat _) ?_
      refine gf_X7_98 E (x := gi σ 818 h0) dX7_choose_35 rfl g1 rfl ?_
      refine r_iconst E dX7_choose_38 (v := 1) (by decide) ?_
      refine r_isub E dX7_choose_39 ?_
      refine pf_X7_98 E dX7_choose_40 rfl g1 ?_
      refine r_nm e33 ?_
      refine r_goto E (tgt := 93) dX7_choose_43 (by decide) ?_
      exact r_vret E dX7_choose_93
  · have h := ift c6 h
    obtain ⟨r36, s35, hc34, h⟩ := nb2 h
    obtain ⟨rfl, rfl⟩ := lf2 h
    refine r_aload_n E (x := some h0) (i := 0) (j := 0) dX7_choose_12 rfl rfl ?_
    refine r_iload_n E (i := 1) (j := 1) dX7_choose_13 rfl rfl ?_
    refine cl_X7_131 E (m_X7_part0 hc34) dX7_choose_14 ⟨Nat.le_of_ble_eq_true rfl, Nat.le_of_ble_eq_true rfl⟩ ⟨by first | decide | omega | (dsimp only; omega), by first | decide | omega | (dsimp only; omega)⟩ (by decide) rfl g1 ?_
    refine r_goto E (tgt := 93) dX7_choose_17 (by decide) ?_
    exact r_vret E dX7_choose_93
