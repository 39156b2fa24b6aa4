def ex_X7_again (d : Dp) (σ : Sg) (h0 : Nat) (p1 : Int32) : Option (Unit × Sg) := (if gc σ h0 = 9 then (Option.bind (gp σ 815 h0) fun a2 => (if gc σ a2 = 10 then (if ¬ ((gi σ 818 h0) < 0 ∨ gl σ a2 ≤ Int32.toNatClampNeg (gi σ 818 h0)) then (if (ai σ a2 (Int32.toNatClampNeg (gi σ 818 h0))) = (0 : Int32) then (b2 (ex_X7_part0 d σ h0 p1) fun r65 s64 => some ((), s64)) else (if ¬ ((gi σ 818 h0) < 0 ∨ gl σ a2 ≤ Int32.toNatClampNeg (gi σ 818 h0)) then (if (ai σ a2 (Int32.toNatClampNeg (gi σ 818 h0))) = (1 : Int32) then (b2 (ex_X7_is d σ h0 p1 (gi σ 819 h0) (1 : Int32)) fun r29 s28 => (if r29 = (0 : Int32) then some ((), s28) else (if gc s28 h0 = 9 then (Option.bind (gp s28 808 h0) fun a32 => (if gc s28 a32 = 11 then (if ¬ ((gi s28 819 h0) < 0 ∨ gl s28 a32 ≤ Int32.toNatClampNeg (gi s28 819 h0)) then (Option.bind (gp s28 817 h0) fun a36 => (if gc s28 a36 = 11 then (if ¬ ((gi s28 818 h0) < 0 ∨ gl s28 a36 ≤ Int32.toNatClampNeg (gi s28 818 h0)) then (bn (wj s28 a36 (Int32.toNatClampNeg (gi s28 818 h0)) (aj s28 a32 (Int32.toNatClampNeg (gi s28 819 h0)))) fun s40 => (if gc s40 h0 = 9 then (bn (si s40 819 h0 (-1 : Int32)) fun s43 => (if gc s43 h0 = 9 then (Option.bind (gp s43 815 h0) fun a46 => (if gc s43 a46 = 10 then (if ¬ ((gi s43 818 h0) < 0 ∨ gl s43 a46 ≤ Int32.toNatClampNeg (gi s43 818 h0)) then (bn (wi s43 a46 (Int32.toNatClampNeg (gi s43 818 h0)) (2 : Int32)) fun s50 => (if gc s50 h0 = 9 then (Option.bind (gp s50 817 h0) fun a53 => (if gc s50 a53 = 11 then (if ¬ ((gi s50 818 h0) < 0 ∨ gl s50 a53 ≤ Int32.toNatClampNeg (gi s50 818 h0)) then (if (lg_cmp (aj s50 a53 (Int32.toNatClampNeg (gi s50 818 h0))) (0 : Int64)) ≤ (0 : Int32) then (bn (si s50 818 h0 ((gi s50 818 h0) - (1 : Int32))) fun s58 => some ((), s58)) else (b2 (ex_X7_begin d s50 h0 p1 (1 : Int32)) fun r62 s61 => some ((), s61))) else none) else none)) else none)) else none) else none)) else none)) else none)) else none) else none)) else none) else none)) else none))) else (Option.bind (gp σ 817 h0) fun a9 => (if gc σ a9 = 11 then (if ¬ ((gi σ 818 h0) < 0 ∨ gl σ a9 ≤ Int32.toNatClampNeg (gi σ 818 h0)) then (if ¬ ((gi σ 818 h0) < 0 ∨ gl σ a9 ≤ Int32.toNatClampNeg (gi σ 818 h0)) then (bn (wj σ a9 (Int32.toNatClampNeg (gi σ 818 h0)) ((aj σ a9 (Int32.toNatClampNeg (gi σ 818 h0))) - (1 : Int64))) fun s14 => (if gc s14 h0 = 9 then (Option.bind (gp s14 817 h0) fun a17 => (if gc s14 a17 = 11 then (if ¬ ((gi s14 818 h0) < 0 ∨ gl s14 a17 ≤ Int32.toNatClampNeg (gi s14 818 h0)) then (if (lg_cmp (aj s14 a17 (Int32.toNatClampNeg (gi s14 818 h0))) (0 : Int64)) ≤ (0 : Int32) then (bn (si s14 818 h0 ((gi s14 818 h0) - (1 : Int32))) fun s22 => some ((), s22)) else (b2 (ex_X7_begin d s14 h0 p1 (1 : Int32)) fun r26 s25 => some ((), s25))) else none) else none)) else none)) else none) else none) else none))) else none)) else none) else none)) else none)
set_option maxHeartbeats 4000000 in
set_option maxRecDepth 20000 in
theorem m_X7_again {l : Launch} {d : Dp} {σ σ' : Sg} {h0 : Nat} {p1 : Int32} {r : Unit} (h : ex_X7_again d σ h0 p1 = some (r, σ')) : Mt l d yX7_again cX7_again 2 none 4 87 σ [.ref h0, .int (p1)] none σ' 0 0 := by
  refine mt_start (own := RX7) (lv0 := [(0, va_rf (some h0)), (1, .int (p1))]) (by decide) rfl (by simp only [lg_sl, List.flatMap_cons, List.flatMap_nil, va_rf_cat]; exact Nat.le_of_ble_eq_true rfl) (by first | rfl | (simp only [lv_args, va_rf_cat]; rfl)) ?_
  intro p e s m args below meth c E hnm
  unfold ex_X7_again at h
  obtain ⟨g1, h⟩ := ck h
  obtain ⟨a2, e3, h⟩ := nn h
  obtain ⟨g4, h⟩ := ck h
  obtain ⟨g5, h⟩ := ck h
  refine r_aload_n E (x := some h0) (i := 0) (j := 0) dX7_again_0 rfl rfl ?_
  refine gf_X7_49 E (x := gp σ 815 h0) dX7_again_1 rfl g1 rfl ?_
  refine r_aload_n E (x := some h0) (i := 0) (j := 0) dX7_again_4 rfl rfl ?_
  refine gf_X7_98 E (x := gi σ 818 h0) dX7_again_5 rfl g1 rfl ?_
  refine r_iald E dX7_again_8 e3 g4 g5 ?_
  refine r_if_ne E (tgt := 18) dX7_again_9 (by decide) (fun c6 => ?_) (fun c6 => ?_)
  · have h := iff' c6 h
    obtain ⟨g7, h⟩ := ck h
    refine r_aload_n E (x := some h0) (i := 0) (j := 0) dX7_again_18 rfl rfl ?_
    refine gf_X7_49 E (x := gp σ 815 h0) dX7_again_19 rfl g1 rfl ?_
    refine r_aload_n E (x := some h0) (i := 0) (j := 0) dX7_again_22 rfl rfl ?_
    refine gf_X7_98 E (x := gi σ 818 h0) dX7_again_23 rfl g1 rfl ?_
    refine r_iald E dX7_again_26 e3 g4 g7 ?_
    refine r_iconst E dX7_again_27 (v := 1) (by decide) ?_
    refine r_icmp_ne E (tgt := 81) dX7_again_28 (by decide) (fun c8 => ?_) (fun c8 => ?_)
    · have h := iff' c8 h
      obtain ⟨a9, e10, h⟩ := nn h
      obtain ⟨g11, h⟩ := ck h
      obtain ⟨g12, h⟩ := ck h
      obtain ⟨g13, h⟩ := ck h
      obtain ⟨s14, e15, h⟩ := nbn h
      obtain ⟨g16, h⟩ := ck h
      obtain ⟨a17, e18, h⟩ := nn h
      obtain ⟨g19, h⟩ := ck h
      obtain ⟨g20, h⟩ := ck h
      refine r_aload_n E (x := some h0) (i := 0) (j := 0) dX7_again_81 rfl rfl ?_
      refine gf_X7_55 E (x := gp σ 817 h0) dX7_again_82 rfl g1 rfl ?_
      refine r_aload_n E (x := some h0) (i := 0) (j := 0) dX7_again_85 rfl rfl ?_
      refine gf_X7_98 E (x := gi σ 818 h0) dX7_again_86 rfl g1 rfl ?_
      refine r_dup2 E dX7_again_89 rfl (va_rf_cat _) ?_
      refine r_lald E dX7_again_90 e10 g11 g12 ?_
      refine r_lconst E dX7_again_91 (v := 1) (by decide) ?_
      refine r_lsub E dX7_again_92 ?_
      refine r_last E dX7_again_93 e10 g11 g13 ?_
      refine r_nm e15 ?_
      refine r_aload_n E (x := some h0) (i := 0) (j := 0) dX7_again_94 rfl rfl ?_
      refine gf_X7_55 E (x := gp s14 817 h0) dX7_again_95 rfl g16 rfl ?_
      refine r_aload_n E (x := some h0) (i := 0) (j := 0) dX7_again_98 rfl rfl ?_
      refine gf_X7_98 E (x := gi s14 818 h0) dX7_again_99 rfl g16 rfl ?_
      refine r_lald E dX7_again_102 e18 g19 g20 ?_
      refine r_lconst E dX7_again_103 (v := 0) (by decide) ?_
      refine r_lcmp E dX7_again_104 ?_
      refine r_if_le E (tgt := 117) dX7_again_105 (by decide) (fun c21 => ?_) (fun c21 => ?_)
      · have h := ift c21 h
        obtain ⟨s22, e23, h⟩ := nbn h
        obtain ⟨rfl, rfl⟩ := lf2 h
        refine r_aload_n E (x := some h0) (i := 0) (j := 0) dX7_again_117 rfl rfl ?_
        refine r_dup E dX7_again_118 (va_rf_cat _) ?_
        refine gf_X7_98 E (x := gi s14 818 h0) dX7_again_119 rfl g16 rfl ?_
        refine r_iconst E dX7_again_122 (v := 1) (by decide) ?_
        refine r_isub E dX7_again_123 ?_
        refine pf_X7_98 E dX7_again_124 rfl g16 ?_
        refine r_nm e23 ?_
        exact r_vret E dX7_again_127
      · have h := iff' c21 h
        obtain ⟨r26, s25, hc24, h⟩ := nb2 h
        obtain ⟨rfl, rfl⟩ := lf2 h
        refine r_aload_n E (x := some h0) (i := 0) (j := 0) dX7_again_108 rfl rfl ?_
        refine r_iload_n E (i := 1) (j := 1) dX7_again_109 rfl rfl ?_
        refine r_iconst E dX7_again_110 (v := 1) (by decide) ?_
        refine cl_X7_127 E (m_X7_begin hc24) dX7_again_111 ⟨Nat.le_of_ble_eq_true rfl, Nat.le_of_ble_eq_true rfl⟩ ⟨by first | decide | omega | (dsimp only; omega), by first | decide | omega | (dsimp only; omega)⟩ (by decide) rfl g16 ?_
        refine r_goto E (tgt := 127) dX7_again_114 (by decide) ?_
        exact r_vret E dX7_again_127
    · have h := ift c8 h
      obtain ⟨r29, s28, hc27, h⟩ := nb2 h
      refine r_aload_n E (x := some h0) (i := 0) (j := 0) dX7_again_31 rfl rfl ?_
      refine r_iload_n E (i := 1) (j := 1) dX7_again_32 rfl rfl ?_
      refine r_aload_n E (x := some h0) (i := 0) (j := 0) dX7_again_33 rfl rfl ?_
      refine gf_X7_114 E (x := gi σ 819 h0) dX7_again_34 rfl g1 rfl ?_
      refine r_iconst E dX7_again_37 (v := 1) (by decide) ?_
      refine cl_X7_143 E (m_X7_is hc27) dX7_again_38 ⟨Nat.le_of_ble_eq_true rfl, Nat.le_of_ble_eq_true rfl⟩ ⟨by first | decide | omega | (dsimp only; omega), by first | decide | omega | (dsimp only; omega)⟩ (by decide) rfl g1 ?_
      refine r_if_ne E (tgt := 45) dX7_again_41 (by decide) (fun c30 => ?_) (fun c30 => ?_)
      · have h := iff' c30 h
        obtain ⟨g31, h⟩ := ck h
        obtain ⟨a32, e33, h⟩ := nn h
        obtain ⟨g34, h⟩ := ck h
        obtain ⟨g35, h⟩ := ck h
        obtain ⟨a36, e37, h⟩ := nn h
        obtain ⟨g38, h⟩ := ck h
        obtain ⟨g39, h⟩ := ck h
        obtain ⟨s40, e41, h⟩ := nbn h
        obtain ⟨g42, h⟩ := ck h
        obtain ⟨s43, e44, h⟩ := nbn h
        obtain ⟨g45, h⟩ := ck h
        obtain ⟨a46, e47, h⟩ := nn h
        obtain ⟨g48, h⟩ := ck h
        obtain ⟨g49, h⟩ := ck h
        obtain ⟨s50, e51, h⟩ := nbn h
        obtain ⟨g52, h⟩ := ck h
        obtain ⟨a53, e54, h⟩ := nn h
        obtain ⟨g55, h⟩ := ck h
        obtain ⟨g56, h⟩ := ck h
        refine r_aload_n E (x := some h0) (i := 0) (j := 0) dX7_again_45 rfl rfl ?_
        refine gf_X7_55 E (x := gp s28 817 h0) dX7_again_46 rfl g31 rfl ?_
        refine r_aload_n E (x := some h0) (i := 0) (j := 0) dX7_again_49 rfl rfl ?_
        refine gf_X7_98 E (x := gi s28 818 h0) dX7_again_50 rfl g31 rfl ?_
        refine r_aload_n E (x := some h0) (i := 0) (j := 0) dX7_again_53 rfl rfl ?_
        refine gf_X7_33 E (x := gp s28 808 h0) dX7_again_54 rfl g31 rfl ?_
        refine r_aload_n E (x := some h0) (i := 0) (j := 0) dX7_again_57 rfl rfl ?_
        refine gf_X7_114 E (x := gi s28 819 h0) dX7_again_58 rfl g31 rfl ?_
        refine r_lald E dX7_again_61 e33 g34 g35 ?_
        refine r_last E dX7_again_62 e37 g38 g39 ?_
        refine r_nm e41 ?_
        refine r_aload_n E (x := some h0) (i := 0) (j := 0) dX7_again_63 rfl rfl ?_
        refine r_iconst E dX7_again_64 (v := -1) (by decide) ?_
        refine pf_X7_114 E dX7_again_65 rfl g42 ?_
        refine r_nm e44 ?_
        refine r_aload_n E (x := some h0) (i := 0) (j := 0) dX7_again_68 rfl rfl ?_
        refine gf_X7_49 E (x := gp s43 815 h0) dX7_again_69 rfl g45 rfl ?_
        refine r_aload_n E (x := some h0) (i := 0) (j := 0) dX7_again_72 rfl rfl ?_
        refine gf_X7_98 E (x := gi s43 818 h0) dX7_again_73 rfl g45 rfl ?_
        refine r_iconst E dX7_again_76 (v := 2) (by decide) ?_
        refine r_iast E dX7_again_77 e47 g48 g49 ?_
        refine r_nm e51 ?_
        refine r_goto E (tgt := 94) dX7_again_78 (by decide) ?_
        refine r_aload_n E (x := some h0) (i := 0) (j := 0) dX7_again_94 rfl rfl ?_
        refine gf_X7_55 E (x := gp s50 817 h0) dX7_again_95 rfl g52 rfl ?_
        refine r_aload_n E (x := some h0) (i := 0) (j := 0) dX7_again_98 rfl rfl ?_
        refine gf_X7_98 E (x := gi s50 818 h0) dX7_again_99 rfl g52 rfl ?_
        refine r_lald E dX7_again_102 e54 g55 g56 ?_
        refine r_lconst E dX7_again_103 (v := 0) (by decide) ?_
        refine r_lcmp E dX7_again_104 ?_
        refine r_if_le E (tgt := 117) dX7_again_105 (by decide) (fun c57 => ?_) (fun c57 => ?_)
        · have h := ift c57 h
          obtain ⟨s58, e59, h⟩ := nbn h
          obtain ⟨rfl, rfl⟩ := lf2 h
          refine r_aload_n E (x := some h0) (i := 0) (j := 0) dX7_again_117 rfl rfl ?_
          refine r_dup E dX7_again_118 (va_rf_cat _) ?_
          refine gf_X7_98 E (x := gi s50 818 h0) dX7_again_119 rfl g52 rfl ?_
          refine r_iconst E dX7_again_122 (v := 1) (by decide) ?_
          refine r_isub E dX7_again_123 ?_
          refine pf_X7_98 E dX7_again_124 rfl g52 ?_
          refine r_nm e59 ?_
          exact r_vret E dX7_again_127
        · have h := iff' c57 h
          obtain ⟨r62, s61, hc60, h⟩ := nb2 h
          obtain ⟨rfl, rfl⟩ := lf2 h
          refine r_aload_n E (x := some h0) (i := 0) (j := 0) dX7_again_108 rfl rfl ?_
          refine r_iload_n E (i := 1) (j := 1) dX7_again_109 rfl rfl ?_
          refine r_iconst E dX7_again_110 (v := 1) (by decide) ?_
          refine cl_X7_127 E (m_X7_begin hc60) dX7_again_111 ⟨Nat.le_of_ble_eq_true rfl, Nat.le_of_ble_eq_true rfl⟩ ⟨by first | decide | omega | (dsimp only; omega), by first | decide | omega | (dsimp only; omega)⟩ (by decide) rfl g52 ?_
          refine r_goto E (tgt := 127) dX7_again_114 (by decide) ?_
          exact r_vret E dX7_again_127
      · have h := ift c30 h
        obtain ⟨rfl, rfl⟩ := lf2 h
        exact r_vret E dX7_again_44
  · have h := ift c6 h
    obtain ⟨r65, s64, hc63, h⟩ := nb2 h
    obtain ⟨rfl, rfl⟩ := lf2 h
    refine r_aload_n E (x := some h0) (i := 0) (j := 0) dX7_again_12 rfl rfl ?_
    refine r_iload_n E (i := 1) (j := 1) dX7_again_13 rfl rfl ?_
    refine cl_X7_131 E (m_X7_part0 hc63) dX7_again_14 ⟨Nat.le_of_ble_eq_true rfl, Nat.le_of_ble_eq_true rfl⟩ ⟨by first | decide | omega | (dsimp only; omega), by first | decide | omega | (dsimp only; omega)⟩ (by decide) rfl g1 ?_
    exact r_vret E dX7_again_17
def ex_X7_noSlot (d : Dp) (σ : Sg) (h0 : Nat) (p1 : Int32) (p2 : Int32) : Option (Int32 × Sg) := (if p2 < (0 : Int32) then (if gc σ h0 = 9 then (b2 (ex_X7_fail d σ h0 (2 : Int32) p1) fun r5 s4 => some ((1 : Int32), s4)) else none) else (if (256 : Int32) ≤ p2 then (if gc σ h0 = 9 then (b2 (ex_X7_fail d σ h0 (2 : Int32) p1) fun r10 s9 => some ((1 : Int32), s9)) else none) else some ((0 : Int32), σ)))
set_option maxHeartbeats 4000000 in
set_option maxRecDepth 20000 in
theorem m_X7_noSlot {l : Launch} {d : Dp} {σ σ' : Sg} {h0 : Nat} {p1 : Int32} {p2 : Int32} {r : Int32} (h : ex_X7_noSlot d σ h0 p1 p2 = some (r, σ')) : Mt l d yX7_noSlot cX7_noSlot 3 (some .boolean) 1 22 σ [.ref h0, .int (p1), .int (p2)] (some (.int r)) σ' 0 0 := by
  refine mt_start (own := RX7) (lv0 := [(0, va_rf (some h0)), (1, .int (p1)), (2, .int (p2))]) (by decide) rfl (by simp only [lg_sl, List.flatMap_cons, List.flatMap_nil, va_rf_cat]; exact Nat.le_of_ble_eq_true rfl) (by first | rfl | (simp only [lv_args, va_rf_cat]; rfl)) ?_
  intro p e s m args below meth c E hnm
  unfold ex_X7_noSlot at h
  refine r_iload_n E (i := 2) (j := 2) dX7_noSlot_0 rfl rfl ?_
  refine r_if_lt E (tgt := 13) dX7_noSlot_1 (by decide) (fun c1 => ?_) (fun c1 => ?_)
  · have h := ift c1 h
    obtain ⟨g2, h⟩ := ck h
    obtain ⟨r5, s4, hc3, h⟩ := nb2 h
    obtain ⟨rfl, rfl⟩ := lf2 h
    refine r_aload_n E (x := some h0) (i := 0) (j := 0) dX7_noSlot_13 rfl rfl ?_
    refine r_iconst E dX7_noSlot_14 (v := 2) (by decide) ?_
    refine r_iload_n E (i := 1) (j := 1) dX7_noSlot_15 rfl rfl ?_
    refine cl_X7_88 E (m_X7_fail hc3) dX7_noSlot_16 ⟨Nat.le_of_ble_eq_true rfl, Nat.le_of_ble_eq_true rfl⟩ ⟨by first | decide | omega | (dsimp only; omega), by first | decide | omega | (dsimp only; omega)⟩ (by decide) rfl g2 ?_
    refine r_pop E dX7_noSlot_19 rfl ?_
    refine r_iconst E dX7_noSlot_20 (v := 1) (by decide) ?_
    exact r_zret E dX7_noSlot_21 (by decide)
  · have h := iff' c1 h
    refine r_iload_n E (i := 2) (j := 2) dX7_noSlot_4 rfl rfl ?_
    refine r_sipush E dX7_noSlot_5 (v := 256) (by decide) ?_
    refine r_icmp_ge E (tgt := 13) dX7_noSlot_8 (by decide) (fun c6 => ?_) (fun c6 => ?_)
    · have h := ift c6 h
      obtain ⟨g7, h⟩ := ck h
      obtain ⟨r10, s9, hc8, h⟩ := nb2 h
      obtain ⟨rfl, rfl⟩ := lf2 h
      refine r_aload_n E (x := some h0) (i := 0) (j := 0) dX7_noSlot_13 rfl rfl ?_
      refine r_iconst E dX7_noSlot_14 (v := 2) (by decide) ?_
      refine r_iload_n E (i := 1) (j := 1) dX7_noSlot_15 rfl rfl ?_
      refine cl_X7_88 E (m_X7_fail hc8) dX7_noSlot_16 ⟨Nat.le_of_ble_eq_true rfl, Nat.le_of_ble_eq_true rfl⟩ ⟨by first | decide | omega | (dsimp only; omega), by first | decide | omega | (dsimp only; omega)⟩ (by decide) rfl g7 ?_
      refine r_pop E dX7_noSlot_19 rfl ?_
      refine r_iconst E dX7_noSlot_20 (v := 1) (by decide) ?_
      exact r_zret E dX7_noSlot_21 (by decide)
    · have h := iff' c6 h
      obtain ⟨rfl, rfl⟩ := lf2 h
      refine r_iconst E dX7_noSlot_11 (v := 0) (by decide) ?_
      exact r_zret E dX7_noSlot_12 (by decide)
