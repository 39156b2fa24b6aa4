def ex_X7_choose (d : Dp) (σ : Sg) (h0 : Nat) (p1 : Int32) : Option (Unit × Sg) := (if gc σ h0 = 9 then (Option.bind (gp σ 815 h0) fun a2 => (if gc σ a2 = 10 then (if ¬ ((gi σ 818 h0) < 0 ∨ gl σ a2 ≤ Int32.toNatClampNeg (gi σ 818 h0)) then (if (ai σ a2 (Int32.toNatClampNeg (gi σ 818 h0))) = (0 : Int32) then (b2 (ex_X7_part0 d σ h0 p1) fun r31 s30 => some ((), s30)) else (if ¬ ((gi σ 818 h0) < 0 ∨ gl σ a2 ≤ Int32.toNatClampNeg (gi σ 818 h0)) then (if (ai σ a2 (Int32.toNatClampNeg (gi σ 818 h0))) = (2 : Int32) then some ((), (si σ 818 h0 ((gi σ 818 h0) - (1 : Int32)))) else (b2 (ex_X7_is d σ h0 p1 (gi σ 819 h0) (1 : Int32)) fun r11 s10 => (if r11 = (0 : Int32) then some ((), s10) else (if gc s10 h0 = 9 then (Option.bind (gp s10 815 h0) fun a14 => (if gc s10 a14 = 10 then (if ¬ ((gi s10 818 h0) < 0 ∨ gl s10 a14 ≤ Int32.toNatClampNeg (gi s10 818 h0)) then (Option.bind (gp s10 808 h0) fun a18 => (if gc s10 a18 = 11 then (if ¬ ((gi s10 819 h0) < 0 ∨ gl s10 a18 ≤ Int32.toNatClampNeg (gi s10 819 h0)) then (if (lg_cmp (aj s10 a18 (Int32.toNatClampNeg (gi s10 819 h0))) (0 : Int64)) = (0 : Int32) then (b2 (ex_X7_begin d (wi s10 a14 (Int32.toNatClampNeg (gi s10 818 h0)) (2 : Int32)) h0 p1 (2 : Int32)) fun r25 s24 => some ((), s24)) else (b2 (ex_X7_begin d (wi s10 a14 (Int32.toNatClampNeg (gi s10 818 h0)) (2 : Int32)) h0 p1 (1 : Int32)) fun r28 s27 => some ((), s27))) else none) else none)) else none) else none)) else none)))) else none)) else none) else none)) else none)
set_option maxHeartbeats 4000000 in
set_option maxRecDepth 20000 in
theorem m_X7_choose {l : Launch} {d : Dp} {σ σ' : Sg} {h0 : Nat} {p1 : Int32} {r : Unit} (h : ex_X7_choose d σ h0 p1 = some (r, σ')) : Mt l d yX7_choose cX7_choose 2 none 4 87 σ [.ref h0, .int (p1)] none σ' 0 0 := by
  refine mt_start (own := RX7) (lv0 := [(0, va_rf (some h0)), (1, .int (p1))]) (by decide) rfl (by simp only [lg_sl, List.flatMap_cons, List.flatMap_nil, va_rf_cat]; exact Nat.le_of_ble_eq_true rfl) (by first | rfl | (simp only [lv_args, va_rf_cat]; rfl)) ?_
  intro p e s m args below meth c E hnm
  unfold ex_X7_choose at h
  obtain ⟨g1, h⟩ := ck h
  obtain ⟨a2, e3, h⟩ := nn h
  obtain ⟨g4, h⟩ := ck h
  obtain ⟨g5, h⟩ := ck h
  refine r_aload_n E (x := some h0) (i := 0) (j := 0) dX7_choose_0 rfl rfl ?_
  refine gf_X7_49 E (x := gp σ 815 h0) dX7_choose_1 rfl g1 rfl ?_
  refine r_aload_n E (x := some h0) (i := 0) (j := 0) dX7_choose_4 rfl rfl ?_
  refine gf_X7_98 E (x := gi σ 818 h0) dX7_choose_5 rfl g1 rfl ?_
  refine r_iald E dX7_choose_8 e3 g4 g5 ?_
  refine r_if_ne E (tgt := 20) dX7_choose_9 (by decide) (fun c6 => ?_) (fun c6 => ?_)
  · have h := iff' c6 h
    obtain ⟨g7, h⟩ := ck h
    refine r_aload_n E (x := some h0) (i := 0) (j := 0) dX7_choose_20 rfl rfl ?_
    refine gf_X7_49 E (x := gp σ 815 h0) dX7_choose_21 rfl g1 rfl ?_
    refine r_aload_n E (x := some h0) (i := 0) (j := 0) dX7_choose_24 rfl rfl ?_
    refine gf_X7_98 E (x := gi σ 818 h0) dX7_choose_25 rfl g1 rfl ?_
    refine r_iald E dX7_choose_28 e3 g4 g7 ?_
    refine r_iconst E dX7_choose_29 (v := 2) (by decide) ?_
    refine r_icmp_ne E (tgt := 46) dX7_choose_30 (by decide) (fun c8 => ?_) (fun c8 => ?_)
    · have h := iff' c8 h
      obtain ⟨r11, s10, hc9, h⟩ := nb2 h
      refine r_aload_n E (x := some h0) (i := 0) (j := 0) dX7_choose_46 rfl rfl ?_
      refine r_iload_n E (i := 1) (j := 1) dX7_choose_47 rfl rfl ?_
      refine r_aload_n E (x := some h0) (i := 0) (j := 0) dX7_choose_48 rfl rfl ?_
      refine gf_X7_114 E (x := gi σ 819 h0) dX7_choose_49 rfl g1 rfl ?_
      refine r_iconst E dX7_choose_52 (v := 1) (by decide) ?_
      refine cl_X7_143 E (m_X7_is hc9) dX7_choose_53 ⟨Nat.le_of_ble_eq_true rfl, Nat.le_of_ble_eq_true rfl⟩ ⟨by first | decide | omega | (dsimp only; omega), by first | decide | omega | (dsimp only; omega)⟩ (by decide) rfl g1 ?_
      refine r_if_eq E (tgt := 93) dX7_choose_56 (by decide) (fun c12 => ?_) (fun c12 => ?_)
      · have h := ift c12 h
        obtain ⟨rfl, rfl⟩ := lf2 h
        exact r_vret E dX7_choose_93
      · have h := iff' c12 h
        obtain ⟨g13, h⟩ := ck h
        obtain ⟨a14, e15, h⟩ := nn h
        obtain ⟨g16, h⟩ := ck h
        obtain ⟨g17, h⟩ := ck h
        obtain ⟨a18, e19, h⟩ := nn h
        obtain ⟨g20, h⟩ := ck h
        obtain ⟨g21, h⟩ := ck h
        refine r_aload_n E (x := some h0) (i := 0) (j := 0) dX7_choose_59 rfl rfl ?_
        refine gf_X7_49 E (x := gp s10 815 h0) dX7_choose_60 rfl g13 rfl ?_
        refine r_aload_n E (x := some h0) (i := 0) (j := 0) dX7_choose_63 rfl rfl ?_
        refine gf_X7_98 E (x := gi s10 818 h0) dX7_choose_64 rfl g13 rfl ?_
        refine r_iconst E dX7_choose_67 (v := 2) (by decide) ?_
        refine r_iast E dX7_choose_68 e15 g16 g17 ?_
        refine r_aload_n E (x := some h0) (i := 0) (j := 0) dX7_choose_69 rfl rfl ?_
        refine r_iload_n E (i := 1) (j := 1) dX7_choose_70 rfl rfl ?_
        refine r_aload_n E (x := some h0) (i := 0) (j := 0) dX7_choose_71 rfl rfl ?_
        refine gf_X7_33 E (x := gp s10 808 h0) dX7_choose_72 rfl g13 rfl ?_
        refine r_aload_n E (x := some h0) (i := 0) (j := 0) dX7_choose_75 rfl rfl ?_
        refine gf_X7_114 E (x := gi s10 819 h0) dX7_choose_76 rfl g13 rfl ?_
        refine r_lald E dX7_choose_79 e19 g20 g21 ?_
        refine r_lconst E dX7_choose_80 (v := 0) (by decide) ?_
        refine r_lcmp E dX7_choose_81 ?_
        refine r_if_eq E (tgt := 89) dX7_choose_82 (by decide) (fun c22 => ?_) (fun c22 => ?_)
        · have h := ift c22 h
          obtain ⟨r25, s24, hc23, h⟩ := nb2 h
          obtain ⟨rfl, rfl⟩ := lf2 h
          refine r_iconst E dX7_choose_89 (v := 2) (by decide) ?_
          refine cl_X7_127 E (m_X7_begin hc23) dX7_choose_90 ⟨Nat.le_of_ble_eq_true rfl, Nat.le_of_ble_eq_true rfl⟩ ⟨by first | decide | omega | (dsimp only; omega), by first | decide | omega | (dsimp only; omega)⟩ (by decide) rfl g13 ?_
          exact r_vret E dX7_choose_93
        · have h := iff' c22 h
          obtain ⟨r28, s27, hc26, h⟩ := nb2 h
          obtain ⟨rfl, rfl⟩ := lf2 h
          refine r_iconst E dX7_choose_85 (v := 1) (by decide) ?_
          refine r_goto E (tgt := 90) dX7_choose_86 (by decide) ?_
          refine cl_X7_127 E (m_X7_begin hc26) dX7_choose_90 ⟨Nat.le_of_ble_eq_true rfl, Nat.le_of_ble_eq_true rfl⟩ ⟨by first | decide | omega | (dsimp only; omega), by first | decide | omega | (dsimp only; omega)⟩ (by decide) rfl g13 ?_
          exact r_vret E dX7_choose_93
    · have h := ift c8 h
      obtain ⟨rfl, rfl⟩ := lf2 h
      refine r_aload_n E (x := some h0) (i := 0) (j := 0) dX7_choose_33 rfl rfl ?_
      refine r_dup E dX7_choose_34 (va_rf_cat _) ?_
      refine gf_X7_98 E (x := gi σ 818 h0) dX7_choose_35 rfl g1 rfl ?_
      refine r_iconst E dX7_choose_38 (v := 1) (by decide) ?_
      refine r_isub E dX7_choose_39 ?_
      refine pf_X7_98 E dX7_choose_40 rfl g1 ?_
      refine r_goto E (tgt := 93) dX7_choose_43 (by decide) ?_
      exact r_vret E dX7_choose_93
  · have h := ift c6 h
    obtain ⟨r31, s30, hc29, h⟩ := nb2 h
    obtain ⟨rfl, rfl⟩ := lf2 h
    refine r_aload_n E (x := some h0) (i := 0) (j := 0) dX7_choose_12 rfl rfl ?_
    refine r_iload_n E (i := 1) (j := 1) dX7_choose_13 rfl rfl ?_
    refine cl_X7_131 E (m_X7_part0 hc29) dX7_choose_14 ⟨Nat.le_of_ble_eq_true rfl, Nat.le_of_ble_eq_true rfl⟩ ⟨by first | decide | omega | (dsimp only; omega), by first | decide | omega | (dsimp only; omega)⟩ (by decide) rfl g1 ?_
    refine r_goto E (tgt := 93) dX7_choose_17 (by decide) ?_
    exact r_vret E dX7_choose_93
def ex_X7_again (d : Dp) (σ : Sg) (h0 : Nat) (p1 : Int32) : Option (Unit × Sg) := (if gc σ h0 = 9 then (Option.bind (gp σ 815 h0) fun a2 => (if gc σ a2 = 10 then (if ¬ ((gi σ 818 h0) < 0 ∨ gl σ a2 ≤ Int32.toNatClampNeg (gi σ 818 h0)) then (if (ai σ a2 (Int32.toNatClampNeg (gi σ 818 h0))) = (0 : Int32) then (b2 (ex_X7_part0 d σ h0 p1) fun r43 s42 => some ((), s42)) else (if ¬ ((gi σ 818 h0) < 0 ∨ gl σ a2 ≤ Int32.toNatClampNeg (gi σ 818 h0)) then (if (ai σ a2 (Int32.toNatClampNeg (gi σ 818 h0))) = (1 : Int32) then (b2 (ex_X7_is d σ h0 p1 (gi σ 819 h0) (1 : Int32)) fun r21 s20 => (if r21 = (0 : Int32) then some ((), s20) else (if gc s20 h0 = 9 then (Option.bind (gp s20 808 h0) fun a24 => (if gc s20 a24 = 11 then (if ¬ ((gi s20 819 h0) < 0 ∨ gl s20 a24 ≤ Int32.toNatClampNeg (gi s20 819 h0)) then (Option.bind (gp s20 817 h0) fun a28 => (if gc s20 a28 = 11 then (if ¬ ((gi s20 818 h0) < 0 ∨ gl s20 a28 ≤ Int32.toNatClampNeg (gi s20 818 h0)) then (Option.bind (gp s20 815 h0) fun a32 => (if gc s20 a32 = 10 then (if ¬ ((gi s20 818 h0) < 0 ∨ gl s20 a32 ≤ Int32.toNatClampNeg (gi s20 818 h0)) then (if ¬ ((gi s20 818 h0) < 0 ∨ gl s20 a28 ≤ Int32.toNatClampNeg (gi s20 818 h0)) then (if (lg_cmp (aj (wj s20 a28 (Int32.toNatClampNeg (gi s20 818 h0)) (aj s20 a24 (Int32.toNatClampNeg (gi s20 819 h0)))) a28 (Int32.toNatClampNeg (gi s20 818 h0))) (0 : Int64)) ≤ (0 : Int32) then some ((), (si (wi (si (wj s20 a28 (Int32.toNatClampNeg (gi s20 818 h0)) (aj s20 a24 (Int32.toNatClampNeg (gi s20 819 h0)))) 819 h0 (-1 : Int32)) a32 (Int32.toNatClampNeg (gi s20 818 h0)) (2 : Int32)) 818 h0 ((gi s20 818 h0) - (1 : Int32)))) else (b2 (ex_X7_begin d (wi (si (wj s20 a28 (Int32.toNatClampNeg (gi s20 818 h0)) (aj s20 a24 (Int32.toNatClampNeg (gi s20 819 h0)))) 819 h0 (-1 : Int32)) a32 (Int32.toNatClampNeg (gi s20 818 h0)) (2 : Int32)) h0 p1 (1 : Int32)) fun r40 s39 => some ((), s39))) else none) else none) else none)) else none) else none)) else none) else none)) else none))) else (Option.bind (gp σ 817 h0) fun a9 => (if gc σ a9 = 11 then (if ¬ ((gi σ 818 h0) < 0 ∨ gl σ a9 ≤ Int32.toNatClampNeg (gi σ 818 h0)) then (if ¬ ((gi σ 818 h0) < 0 ∨ gl σ a9 ≤ Int32.toNatClampNeg (gi σ 818 h0)) then (if ¬ ((gi σ 818 h0) < 0 ∨ gl σ a9 ≤ Int32.toNatClampNeg (gi σ 818 h0)) then (if (lg_cmp (aj (wj σ a9 (Int32.toNatClampNeg (gi σ 818 h0)) ((aj σ a9 (Int32.toNatClampNeg (gi σ 818 h0))) - (1 : Int64))) a9 (Int32.toNatClampNeg (gi σ 818 h0))) (0 : Int64)) ≤ (0 : Int32) then some ((), (si (wj σ a9 (Int32.toNatClampNeg (gi σ 818 h0)) ((aj σ a9 (Int32.toNatClampNeg (gi σ 818 h0))) - (1 : Int64))) 818 h0 ((gi σ 818 h0) - (1 : Int32)))) else (b2 (ex_X7_begin d (wj σ a9 (Int32.toNatClampNeg (gi σ 818 h0)) ((aj σ a9 (Int32.toNatClampNeg (gi σ 818 h0))) - (1 : Int64))) h0 p1 (1 : Int32)) fun r18 s17 => some ((), s17))) else none) else none) else none) else none))) else none)) else none) else none)) else none)
set_option maxHeartbeats 4000000 in
set_option maxRecDepth 20000 in
theorem m_X7_again {l : Launch} {d : Dp} {σ σ' : Sg} {h0 : Nat} {p1 : Int32} {r : Unit} (h : ex_X7_again d σ h0 p1 = some (r, σ')) : Mt l d yX7_again cX7_again 2 none 4 87 σ [.ref h0, .int (p1)] none σ' 0 0 := by
  refine mt_start (own := RX7) (lv0 := [(0, va_rf (some h0)), (1, .int (p1))]) (by decide) rfl (by simp only [lg_sl, List.flatMap_cons, List.flatMap_nil, va_rf_cat]; exact Nat.le_of_ble_eq_true rfl) (by first | rfl | (simp only [lv_args, va_rf_cat]; rfl)) ?_
  intro p e s m args below meth c E hnm
  unfold ex_X7_again at h
  obtain ⟨g1, h⟩ := ck h
  obtain ⟨a2, e3, h⟩ := nn h
  obtain ⟨g4, h⟩ := ck h
  obtain ⟨g5, h⟩ := ck h
  refine r_aload_n E (x := some h0) (i := 0) (j := 0) dX7_again_0 rfl rfl ?_
  refine gf_X7_49 E (x := gp σ 815 h0) dX7_again_1 rfl g1 rfl ?_
  refine r_aload_n E (x := some h0) (i := 0) (j := 0) dX7_again_4 rfl rfl ?_
  refine gf_X7_98 E (x := gi σ 818 h0) dX7_again_5 rfl g1 rfl ?_
  refine r_iald E dX7_again_8 e3 g4 g5 ?_
  refine r_if_ne E (tgt := 18) dX7_again_9 (by decide) (fun c6 => ?_) (fun c6 => ?_)
  · have h := iff' c6 h
    obtain ⟨g7, h⟩ := ck h
    refine r_aload_n E (x := some h0) (i := 0) (j := 0) dX7_again_18 rfl rfl ?_
    refine gf_X7_49 E (x := gp σ 815 h0) dX7_again_19 rfl g1 rfl ?_
    refine r_aload_n E (x := some h0) (i := 0) (j := 0) dX7_again_22 rfl rfl ?_
    refine gf_X7_98 E (x := gi σ 818 h0) dX7_again_23 rfl g1 rfl ?_
    refine r_iald E dX7_again_26 e3 g4 g7 ?_
    refine r_iconst E dX7_again_27 (v := 1) (by decide) ?_
    refine r_icmp_ne E (tgt := 81) dX7_again_28 (by decide) (fun c8 => ?_) (fun c8 => ?_)
    · have h := iff' c8 h
      obtain ⟨a9, e10, h⟩ := nn h
      obtain ⟨g11, h⟩ := ck h
      obtain ⟨g12, h⟩ := ck h
      obtain ⟨g13, h⟩ := ck h
      obtain ⟨g14, h⟩ := ck h
      refine r_aload_n E (x := some h0) (i := 0) (j := 0) dX7_again_81 rfl rfl ?_
      refine gf_X7_55 E (x := gp σ 817 h0) dX7_again_82 rfl g1 rfl ?_
      refine r_aload_n E (x := some h0) (i := 0) (j := 0) dX7_again_85 rfl rfl ?_
      refine gf_X7_98 E (x := gi σ 818 h0) dX7_again_86 rfl g1 rfl ?_
      refine r_dup2 E dX7_again_89 rfl (va_rf_cat _) ?_
      refine r_lald E dX7_again_90 e10 g11 g12 ?_
      refine r_lconst E dX7_again_91 (v := 1) (by decide) ?_
      refine r_lsub E dX7_again_92 ?_
      refine r_last E dX7_again_93 e10 g11 g13 ?_
      refine r_aload_n E (x := some h0) (i := 0) (j := 0) dX7_again_94 rfl rfl ?_
      refine gf_X7_55 E (x := gp σ 817 h0) dX7_again_95 rfl g1 rfl ?_
      refine r_aload_n E (x := some h0) (i := 0) (j := 0) dX7_again_98 rfl rfl ?_
      refine gf_X7_98 E (x := gi σ 818 h0) dX7_again_99 rfl g1 rfl ?_
      refine r_lald E dX7_again_102 e10 g11 g14 ?_
      refine r_lconst E dX7_again_103 (v := 0) (by decide) ?_
      refine r_lcmp E dX7_again_104 ?_
      refine r_if_le E (tgt := 117) dX7_again_105 (by decide) (fun c15 => ?_) (fun c15 => ?_)
      · have h := ift c15 h
        obtain ⟨rfl, rfl⟩ := lf2 h
        refine r_aload_n E (x := some h0) (i := 0) (j := 0) dX7_again_117 rfl rfl ?_
        refine r_dup E dX7_again_118 (va_rf_cat _) ?_
        refine gf_X7_98 E (x := gi σ 818 h0) dX7_again_119 rfl g1 rfl ?_
        refine r_iconst E dX7_again_122 (v := 1) (by decide) ?_
        refine r_isub E dX7_again_123 ?_
        refine pf_X7_98 E dX7_again_124 rfl g1 ?_
        exact r_vret E dX7_again_127
      · have h := iff' c15 h
        obtain ⟨r18, s17, hc16, h⟩ := nb2 h
        obtain ⟨rfl, rfl⟩ := lf2 h
        refine r_aload_n E (x := some h0) (i := 0) (j := 0) dX7_again_108 rfl rfl ?_
        refine r_iload_n E (i := 1) (j := 1) dX7_again_109 rfl rfl ?_
        refine r_iconst E dX7_again_110 (v := 1) (by decide) ?_
        refine cl_X7_127 E (m_X7_begin hc16) dX7_again_111 ⟨Nat.le_of_ble_eq_true rfl, Nat.le_of_ble_eq_true rfl⟩ ⟨by first | decide | omega | (dsimp only; omega), by first | decide | omega | (dsimp only; omega)⟩ (by decide) rfl g1 ?_
        refine r_goto E (tgt := 127) dX7_again_114 (by decide) ?_
        exact r_vret E dX7_again_127
    · have h := ift c8 h
      obtain ⟨r21, s20, hc19, h⟩ := nb2 h
      refine r_aload_n E (x := some h0) (i := 0) (j := 0) dX7_again_31 rfl rfl ?_
      refine r_iload_n E (i := 1) (j := 1) dX7_again_32 rfl rfl ?_
      refine r_aload_n E (x := some h0) (i := 0) (j := 0) dX7_again_33 rfl rfl ?_
      refine gf_X7_114 E (x := gi σ 819 h0) dX7_again_34 rfl g1 rfl ?_
      refine r_iconst E dX7_again_37 (v := 1) (by decide) ?_
      refine cl_X7_143 E (m_X7_is hc19) dX7_again_38 ⟨Nat.le_of_ble_eq_true rfl, Nat.le_of_ble_eq_true rfl⟩ ⟨by first | decide | omega | (dsimp only; omega), by first | decide | omega | (dsimp only; omega)⟩ (by decide) rfl g1 ?_
      refine r_if_ne E (tgt := 45) dX7_again_41 (by decide) (fun c22 => ?_) (fun c22 => ?_)
      · have h := iff' c22 h
        obtain ⟨g23, h⟩ := ck h
        obtain ⟨a24, e25, h⟩ := nn h
        obtain ⟨g26, h⟩ := ck h
        obtain ⟨g27, h⟩ := ck h
        obtain ⟨a28, e29, h⟩ := nn h
        obtain ⟨g30, h⟩ := ck h
        obtain ⟨g31, h⟩ := ck h
        obtain ⟨a32, e33, h⟩ := nn h
        obtain ⟨g34, h⟩ := ck h
        obtain ⟨g35, h⟩ := ck h
        obtain ⟨g36, h⟩ := ck h
        refine r_aload_n E (x := some h0) (i := 0) (j := 0) dX7_again_45 rfl rfl ?_
        refine gf_X7_55 E (x := gp s20 817 h0) dX7_again_46 rfl g23 rfl ?_
        refine r_aload_n E (x := some h0) (i := 0) (j := 0) dX7_again_49 rfl rfl ?_
        refine gf_X7_98 E (x := gi s20 818 h0) dX7_again_50 rfl g23 rfl ?_
        refine r_aload_n E (x := some h0) (i := 0) (j := 0) dX7_again_53 rfl rfl ?_
        refine gf_X7_33 E (x := gp s20 808 h0) dX7_again_54 rfl g23 rfl ?_
        refine r_aload_n E (x := some h0) (i := 0) (j := 0) dX7_again_57 rfl rfl ?_
        refine gf_X7_114 E (x := gi s20 819 h0) dX7_again_58 rfl g23 rfl ?_
        refine r_lald E dX7_again_61 e25 g26 g27 ?_
        refine r_last E dX7_again_62 e29 g30 g31 ?_
        refine r_aload_n E (x := some h0) (i := 0) (j := 0) dX7_again_63 rfl rfl ?_
        refine r_iconst E dX7_again_64 (v := -1) (by decide) ?_
        refine pf_X7_114 E dX7_again_65 rfl g23 ?_
        refine r_aload_n E (x := some h0) (i := 0) (j := 0) dX7_again_68 rfl rfl ?_
        refine gf_X7_49 E (x := gp s20 815 h0) dX7_again_69 rfl g23 rfl ?_
        refine r_aload_n E (x := some h0) (i := 0) (j := 0) dX7_again_72 rfl rfl ?_
        refine gf_X7_98 E (x := gi s20 818 h0) dX7_again_73 rfl g23 rfl ?_
        refine r_iconst E dX7_again_76 (v := 2) (by decide) ?_
        refine r_iast E dX7_again_77 e33 g34 g35 ?_
        refine r_goto E (tgt := 94) dX7_again_78 (by decide) ?_
        refine r_aload_n E (x := some h0) (i := 0) (j := 0) dX7_again_94 rfl rfl ?_
        refine gf_X7_55 E (x := gp s20 817 h0) dX7_again_95 rfl g23 rfl ?_
        refine r_aload_n E (x := some h0) (i := 0) (j := 0) dX7_again_98 rfl rfl ?_
        refine gf_X7_98 E (x := gi s20 818 h0) dX7_again_99 rfl g23 rfl ?_
        refine r_lald E dX7_again_102 e29 g30 g36 ?_
        refine r_lconst E dX7_again_103 (v := 0) (by decide) ?_
        refine r_lcmp E dX7_again_104 ?_
        refine r_if_le E (tgt := 117) dX7_again_105 (by decide) (fun c37 => ?_) (fun c37 => ?_)
        · have h := ift c37 h
          obtain ⟨rfl, rfl⟩ := lf2 h
          refine r_aload_n E (x := some h0) (i := 0) (j := 0) dX7_again_117 rfl rfl ?_
          refine r_dup E dX7_again_118 (va_rf_cat _) ?_
          refine gf_X7_98 E (x := gi s20 818 h0) dX7_again_119 rfl g23 rfl ?_
          refine r_iconst E dX7_again_122 (v := 1) (by decide) ?_
          refine r_isub E dX7_again_123 ?_
          refine pf_X7_98 E dX7_again_124 rfl g23 ?_
          exact r_vret E dX7_again_127
        · have h := iff' c37 h
          obtain ⟨r40, s39, hc38, h⟩ := nb2 h
          obtain ⟨rfl, rfl⟩ := lf2 h
          refine r_aload_n E (x := some h0) (i := 0) (j := 0) dX7_again_108 rfl rfl ?_
          refine r_iload_n E (i := 1) (j := 1) dX7_again_109 rfl rfl ?_
          refine r_iconst E dX7_again_110 (v := 1) (by decide) ?_
          refine cl_X7_127 E (m_X7_begin hc38) dX7_again_111 ⟨Nat.le_of_ble_eq_true rfl, Nat.le_of_ble_eq_true rfl⟩ ⟨by first | decide | omega | (dsimp only; omega), by first | decide | omega | (dsimp only; omega)⟩ (by decide) rfl g23 ?_
          refine r_goto E (tgt := 127) dX7_again_114 (by decide) ?_
          exact r_vret E dX7_again_127
      · have h := ift c22 h
        obtain ⟨rfl, rfl⟩ := lf2 h
        exact r_vret E dX7_again_44
  · have h := ift c6 h
    obtain ⟨r43, s42, hc41, h⟩ := nb2 h
    obtain ⟨rfl, rfl⟩ := lf2 h
    refine r_aload_n E (x := some h0) (i := 0) (j := 0) dX7_again_12 rfl rfl ?_
    refine r_iload_n E (i := 1) (j := 1) dX7_again_13 rfl rfl ?_
    refine cl_X7_131 E (m_X7_part0 hc41) dX7_again_14 ⟨Nat.le_of_ble_eq_true rfl, Nat.le_of_ble_eq_true rfl⟩ ⟨by first | decide | omega | (dsimp only; omega), by first | decide | omega | (dsimp only; omega)⟩ (by decide) rfl g1 ?_
    exact r_vret E dX7_again_17
