def ex_X7_begin (d : Dp) (σ : Sg) (h0 : Nat) (p1 : Int32) (p2 : Int32) : Option (Unit × Sg) := (if gc σ h0 = 9 then (b2 (ex_X7_number d σ h0 p1 p2) fun r4 s3 => (if r4 = (-1 : Int32) then (if gc s3 h0 = 9 then (b2 (ex_X7_fail d s3 h0 (1 : Int32) p1) fun r17 s16 => some ((), s16)) else none) else (if gc s3 h0 = 9 then (b2 (ex_X7_number d s3 h0 p1 p2) fun r9 s8 => (if gc s8 h0 = 9 then (b2 (ex_X7_enter d s8 h0 r9) fun r13 s12 => some ((), s12)) else none)) else none))) else none)
set_option maxHeartbeats 4000000 in
set_option maxRecDepth 20000 in
theorem m_X7_begin {l : Launch} {d : Dp} {σ σ' : Sg} {h0 : Nat} {p1 : Int32} {p2 : Int32} {r : Unit} (h : ex_X7_begin d σ h0 p1 p2 = some (r, σ')) : Mt l d yX7_begin cX7_begin 3 none 2 44 σ [.ref h0, .int (p1), .int (p2)] none σ' 0 0 := by
  refine mt_start (own := RX7) (lv0 := [(0, va_rf (some h0)), (1, .int (p1)), (2, .int (p2))]) (by decide) rfl (by simp only [lg_sl, List.flatMap_cons, List.flatMap_nil, va_rf_cat]; exact Nat.le_of_ble_eq_true rfl) (by first | rfl | (simp only [lv_args, va_rf_cat]; rfl)) ?_
  intro p e s m args below meth c E hnm
  unfold ex_X7_begin at h
  obtain ⟨g1, h⟩ := ck h
  obtain ⟨r4, s3, hc2, h⟩ := nb2 h
  refine r_aload_n E (x := some h0) (i := 0) (j := 0) dX7_begin_0 rfl rfl ?_
  refine r_iload_n E (i := 1) (j := 1) dX7_begin_1 rfl rfl ?_
  refine r_iload_n E (i := 2) (j := 2) dX7_begin_2 rfl rfl ?_
  refine cl_X7_101 E (m_X7_number hc2) dX7_begin_3 ⟨Nat.le_of_ble_eq_true rfl, Nat.le_of_ble_eq_true rfl⟩ ⟨by first | decide | omega | (dsimp only; omega), by first | decide | omega | (dsimp only; omega)⟩ (by decide) rfl g1 ?_
  refine r_iconst E dX7_begin_6 (v := -1) (by decide) ?_
  refine r_icmp_ne E (tgt := 20) dX7_begin_7 (by decide) (fun c5 => ?_) (fun c5 => ?_)
  · have h := iff' c5 h
    obtain ⟨g6, h⟩ := ck h
    obtain ⟨r9, s8, hc7, h⟩ := nb2 h
    obtain ⟨g10, h⟩ := ck h
    obtain ⟨r13, s12, hc11, h⟩ := nb2 h
    obtain ⟨rfl, rfl⟩ := lf2 h
    refine r_aload_n E (x := some h0) (i := 0) (j := 0) dX7_begin_20 rfl rfl ?_
    refine r_aload_n E (x := some h0) (i := 0) (j := 0) dX7_begin_21 rfl rfl ?_
    refine r_iload_n E (i := 1) (j := 1) dX7_begin_22 rfl rfl ?_
    refine r_iload_n E (i := 2) (j := 2) dX7_begin_23 rfl rfl ?_
    refine cl_X7_101 E (m_X7_number hc7) dX7_begin_24 ⟨Nat.le_of_ble_eq_true rfl, Nat.le_of_ble_eq_true rfl⟩ ⟨by first | decide | omega | (dsimp only; omega), by first | decide | omega | (dsimp only; omega)⟩ (by simp only [List.map_cons, List.map_nil, va_rf_cat]; exact Nat.le_of_ble_eq_true rfl) rfl g6 ?_
    refine cl_X7_104 E (m_X7_enter hc11) dX7_begin_27 ⟨Nat.le_of_ble_eq_true rfl, Nat.le_of_ble_eq_true rfl⟩ ⟨by first | decide | omega | (dsimp only; omega), by first | decide | omega | (dsimp only; omega)⟩ (by decide) rfl g10 ?_
    exact r_vret E dX7_begin_30
  · have h := ift c5 h
    obtain ⟨g14, h⟩ := ck h
    obtain ⟨r17, s16, hc15, h⟩ := nb2 h
    obtain ⟨rfl, rfl⟩ := lf2 h
    refine r_aload_n E (x := some h0) (i := 0) (j := 0) dX7_begin_10 rfl rfl ?_
    refine r_iconst E dX7_begin_11 (v := 1) (by decide) ?_
    refine r_iload_n E (i := 1) (j := 1) dX7_begin_12 rfl rfl ?_
    refine cl_X7_88 E (m_X7_fail hc15) dX7_begin_13 ⟨Nat.le_of_ble_eq_true rfl, Nat.le_of_ble_eq_true rfl⟩ ⟨by first | decide | omega | (dsimp only; omega), by first | decide | omega | (dsimp only; omega)⟩ (by decide) rfl g14 ?_
    refine r_pop E dX7_begin_16 rfl ?_
    refine r_goto E (tgt := 30) dX7_begin_17 (by decide) ?_
    exact r_vret E dX7_begin_30
def ex_X7_outward (d : Dp) (σ : Sg) (h0 : Nat) (p1 : Int32) : Option (Unit × Sg) := (if gc σ h0 = 9 then (Option.bind (gp σ 801 h0) fun a2 => (if gc σ a2 = 10 then (if ¬ (p1 < 0 ∨ gl σ a2 ≤ Int32.toNatClampNeg p1) then (if (ai σ a2 (Int32.toNatClampNeg p1)) = (15 : Int32) then (Option.bind (gp σ 815 h0) fun a7 => (if gc σ a7 = 10 then (if ¬ ((gi σ 818 h0) < 0 ∨ gl σ a7 ≤ Int32.toNatClampNeg (gi σ 818 h0)) then (if (ai σ a7 (Int32.toNatClampNeg (gi σ 818 h0))) = (1 : Int32) then (b2 (ex_X7_number d σ h0 p1 (1 : Int32)) fun r14 s13 => (if r14 = (0 : Int32) then (if gc s13 h0 = 9 then (b2 (ex_X7_num d s13 h0 (Int32.toInt64 (gi s13 820 h0))) fun r19 s18 => (Option.bind (gp s13 812 h0) fun a20 => (if gc s18 a20 = 10 then (if ¬ ((0 : Int32) < 0 ∨ gl s18 a20 ≤ Int32.toNatClampNeg (0 : Int32)) then (if gc s18 h0 = 9 then (Option.bind (gp s18 815 h0) fun a25 => (if gc s18 a25 = 10 then (if ¬ ((gi s18 818 h0) < 0 ∨ gl s18 a25 ≤ Int32.toNatClampNeg (gi s18 818 h0)) then (b2 (ex_X7_begin d (wi (si (wi s18 a20 (Int32.toNatClampNeg (0 : Int32)) r19) 820 h0 (0 : Int32)) a25 (Int32.toNatClampNeg (gi s18 818 h0)) (2 : Int32)) h0 p1 (2 : Int32)) fun r31 s30 => some ((), s30)) else none) else none)) else none) else none) else none))) else none) else (if gc s13 h0 = 9 then (b2 (ex_X7_number d s13 h0 p1 (1 : Int32)) fun r35 s34 => (if gc s34 h0 = 9 then (if r35 = (gi s34 820 h0) then (b2 (ex_X7_num d s34 h0 (Int32.toInt64 (gi s34 820 h0))) fun r40 s39 => (Option.bind (gp s34 812 h0) fun a41 => (if gc s39 a41 = 10 then (if ¬ ((0 : Int32) < 0 ∨ gl s39 a41 ≤ Int32.toNatClampNeg (0 : Int32)) then (if gc s39 h0 = 9 then (Option.bind (gp s39 815 h0) fun a46 => (if gc s39 a46 = 10 then (if ¬ ((gi s39 818 h0) < 0 ∨ gl s39 a46 ≤ Int32.toNatClampNeg (gi s39 818 h0)) then (b2 (ex_X7_begin d (wi (si (wi s39 a41 (Int32.toNatClampNeg (0 : Int32)) r40) 820 h0 (0 : Int32)) a46 (Int32.toNatClampNeg (gi s39 818 h0)) (2 : Int32)) h0 p1 (2 : Int32)) fun r52 s51 => some ((), s51)) else none) else none)) else none) else none) else none))) else some ((), (si s34 818 h0 ((gi s34 818 h0) - (1 : Int32))))) else none)) else none))) else some ((), (si σ 818 h0 ((gi σ 818 h0) - (1 : Int32))))) else none) else none)) else some ((), (si σ 818 h0 ((gi σ 818 h0) - (1 : Int32))))) else none) else none)) else none)
set_option maxHeartbeats 4000000 in
set_option maxRecDepth 20000 in
theorem m_X7_outward {l : Launch} {d : Dp} {σ σ' : Sg} {h0 : Nat} {p1 : Int32} {r : Unit} (h : ex_X7_outward d σ h0 p1 = some (r, σ')) : Mt l d yX7_outward cX7_outward 2 none 3 66 σ [.ref h0, .int (p1)] none σ' 0 0 := by
  refine mt_start (own := RX7) (lv0 := [(0, va_rf (some h0)), (1, .int (p1))]) (by decide) rfl (by simp only [lg_sl, List.flatMap_cons, List.flatMap_nil, va_rf_cat]; exact Nat.le_of_ble_eq_true rfl) (by first | rfl | (simp only [lv_args, va_rf_cat]; rfl)) ?_
  intro p e s m args below meth c E hnm
  unfold ex_X7_outward at h
  obtain ⟨g1, h⟩ := ck h
  obtain ⟨a2, e3, h⟩ := nn h
  obtain ⟨g4, h⟩ := ck h
  obtain ⟨g5, h⟩ := ck h
  refine r_aload_n E (x := some h0) (i := 0) (j := 0) dX7_outward_0 rfl rfl ?_
  refine gf_X7_13 E (x := gp σ 801 h0) dX7_outward_1 rfl g1 rfl ?_
  refine r_iload_n E (i := 1) (j := 1) dX7_outward_4 rfl rfl ?_
  refine r_iald E dX7_outward_5 e3 g4 g5 ?_
  refine r_bipush E dX7_outward_6 (v := 15) (by decide) ?_
  refine r_icmp_ne E (tgt := 46) dX7_outward_8 (by decide) (fun c6 => ?_) (fun c6 => ?_)
  · have h := iff' c6 h
    obtain ⟨rfl, rfl⟩ := lf2 h
    refine r_aload_n E (x := some h0) (i := 0) (j := 0) dX7_outward_46 rfl rfl ?_
    refine r_dup E dX7_outward_47 (va_rf_cat _) ?_
    refine gf_X7_98 E (x := gi σ 818 h0) dX7_outward_48 rfl g1 rfl ?_
    refine r_iconst E dX7_outward_51 (v := 1) (by decide) ?_
    refine r_isub E dX7_outward_52 ?_
    refine pf_X7_98 E dX7_outward_53 rfl g1 ?_
    exact r_vret E dX7_outward_56
  · have h := ift c6 h
    obtain ⟨a7, e8, h⟩ := nn h
    obtain ⟨g9, h⟩ := ck h
    obtain ⟨g10, h⟩ := ck h
    refine r_aload_n E (x := some h0) (i := 0) (j := 0) dX7_outward_11 rfl rfl ?_
    refine gf_X7_49 E (x := gp σ 815 h0) dX7_outward_12 rfl g1 rfl ?_
    refine r_aload_n E (x := some h0) (i := 0) (j := 0) dX7_outward_15 rfl rfl ?_
    refine gf_X7_98 E (x := gi σ 818 h0) dX7_outward_16 rfl g1 rfl ?_
    refine r_iald E dX7_outward_19 e8 g9 g10 ?_
    refine r_iconst E dX7_outward_20 (v := 1) (by decide) ?_
    refine r_icmp_ne E (tgt := 46) dX7_outward_21 (by decide) (fun c11 => ?_) (fun c11 => ?_)
    · have h := iff' c11 h
      obtain ⟨rfl, rfl⟩ := lf2 h
      refine r_aload_n E (x := some h0) (i := 0) (j := 0) dX7_outward_46 rfl rfl ?_
      refine r_dup E dX7_outward_47 (va_rf_cat _) ?_
      refine gf_X7_98 E (x := gi σ 818 h0) dX7_outward_48 rfl g1 rfl ?_
      refine r_iconst E dX7_outward_51 (v := 1) (by decide) ?_
      refine r_isub E dX7_outward_52 ?_
      refine pf_X7_98 E dX7_outward_53 rfl g1 ?_
      exact r_vret E dX7_outward_56
    · have h := ift c11 h
      obtain ⟨r14, s13, hc12, h⟩ := nb2 h
      refine r_aload_n E (x := some h0) (i := 0) (j := 0) dX7_outward_24 rfl rfl ?_
      refine r_iload_n E (i := 1) (j := 1) dX7_outward_25 rfl rfl ?_
      refine r_iconst E dX7_outward_26 (v := 1) (by decide) ?_
      refine cl_X7_101 E (m_X7_number hc12) dX7_outward_27 ⟨Nat.le_of_ble_eq_true rfl, Nat.le_of_ble_eq_true rfl⟩ ⟨by first | decide | omega | (dsimp only; omega), by first | decide | omega | (dsimp only; omega)⟩ (by decide) rfl g1 ?_
      refine r_if_eq E (tgt := 57) dX7_outward_30 (by decide) (fun c15 => ?_) (fun c15 => ?_)
      · have h := ift c15 h
        obtain ⟨g16, h⟩ := ck h
        obtain ⟨r19, s18, hc17, h⟩ := nb2 h
        obtain ⟨a20, e21, h⟩ := nn h
        obtain ⟨g22, h⟩ := ck h
        obtain ⟨g23, h⟩ := ck h
        obtain ⟨g24, h⟩ := ck h
        obtain ⟨a25, e26, h⟩ := nn h
        obtain ⟨g27, h⟩ := ck h
        obtain ⟨g28, h⟩ := ck h
        obtain ⟨r31, s30, hc29, h⟩ := nb2 h
        obtain ⟨rfl, rfl⟩ := lf2 h
        refine r_aload_n E (x := some h0) (i := 0) (j := 0) dX7_outward_57 rfl rfl ?_
        refine gf_X7_39 E (x := gp s13 812 h0) dX7_outward_58 rfl g16 rfl ?_
        refine r_iconst E dX7_outward_61 (v := 0) (by decide) ?_
        refine r_aload_n E (x := some h0) (i := 0) (j := 0) dX7_outward_62 rfl rfl ?_
        refine r_aload_n E (x := some h0) (i := 0) (j := 0) dX7_outward_63 rfl rfl ?_
        refine gf_X7_82 E (x := gi s13 820 h0) dX7_outward_64 rfl g16 rfl ?_
        refine r_i2l E dX7_outward_67 ?_
        refine cl_X7_123 E (m_X7_num hc17) dX7_outward_68 ⟨Nat.le_of_ble_eq_true rfl, Nat.le_of_ble_eq_true rfl⟩ ⟨by first | decide | omega | (dsimp only; omega), by first | decide | omega | (dsimp only; omega)⟩ (by simp only [List.map_cons, List.map_nil, va_rf_cat]; exact Nat.le_of_ble_eq_true rfl) rfl g16 ?_
        refine r_iast E dX7_outward_71 e21 g22 g23 ?_
        refine r_aload_n E (x := some h0) (i := 0) (j := 0) dX7_outward_72 rfl rfl ?_
        refine r_iconst E dX7_outward_73 (v := 0) (by decide) ?_
        refine pf_X7_82 E dX7_outward_74 rfl g24 ?_
        refine r_aload_n E (x := some h0) (i := 0) (j := 0) dX7_outward_77 rfl rfl ?_
        refine gf_X7_49 E (x := gp s18 815 h0) dX7_outward_78 rfl g24 rfl ?_
        refine r_aload_n E (x := some h0) (i := 0) (j := 0) dX7_outward_81 rfl rfl ?_
        refine gf_X7_98 E (x := gi s18 818 h0) dX7_outward_82 rfl g24 rfl ?_
        refine r_iconst E dX7_outward_85 (v := 2) (by decide) ?_
        refine r_iast E dX7_outward_86 e26 g27 g28 ?_
        refine r_aload_n E (x := some h0) (i := 0) (j := 0) dX7_outward_87 rfl rfl ?_
        refine r_iload_n E (i := 1) (j := 1) dX7_outward_88 rfl rfl ?_
        refine r_iconst E dX7_outward_89 (v := 2) (by decide) ?_
        refine cl_X7_127 E (m_X7_begin hc29) dX7_outward_90 ⟨Nat.le_of_ble_eq_true rfl, Nat.le_of_ble_eq_true rfl⟩ ⟨by first | decide | omega | (dsimp only; omega), by first | decide | omega | (dsimp only; omega)⟩ (by decide) rfl g24 ?_
        exact r_vret E dX7_outward_93
      · have h := iff' c15 h
        obtain ⟨g32, h⟩ := ck h
        obtain ⟨r35, s34, hc33, h⟩ := nb2 h
        obtain ⟨g36, h⟩ := ck h
        refine r_aload_n E (x := some h0) (i := 0) (j := 0) dX7_outward_33 rfl rfl ?_
        refine r_iload_n E (i := 1) (j := 1) dX7_outward_34 rfl rfl ?_
        refine r_iconst E dX7_outward_35 (v := 1) (by decide) ?_
        refine cl_X7_101 E (m_X7_number hc33) dX7_outward_36 ⟨Nat.le_of_ble_eq_true rfl, Nat.le_of_ble_eq_true rfl⟩ ⟨by first | decide | omega | (dsimp only; omega), by first | decide | omega | (dsimp only; omega)⟩ (by decide) rfl g32 ?_
        refine r_aload_n E (x := some h0) (i := 0) (j := 0) dX7_outward_39 rfl rfl ?_
        refine gf_X7_82 E (x := gi s34 820 h0) dX7_outward_40 rfl g36 rfl ?_
        refine r_icmp_eq E (tgt := 57) dX7_outward_43 (by decide) (fun c37 => ?_) (fun c37 => ?_)
        · have h := ift c37 h
          obtain ⟨r40, s39, hc38, h⟩ := nb2 h
          obtain ⟨a41, e42, h⟩ := nn h
          obtain ⟨g43, h⟩ := ck h
          obtain ⟨g44, h⟩ := ck h
          obtain ⟨g45, h⟩ := ck h
          obtain ⟨a46, e47, h⟩ := nn h
          obtain ⟨g48, h⟩ := ck h
          obtain ⟨g49, h⟩ := ck h
          obtain ⟨r52, s51, hc50, h⟩ := nb2 h
          obtain ⟨rfl, rfl⟩ := lf2 h
          refine r_aload_n E (x := some h0) (i := 0) (j := 0) dX7_outward_57 rfl rfl ?_
          refine gf_X7_39 E (x := gp s34 812 h0) dX7_outward_58 rfl g36 rfl ?_
          refine r_iconst E dX7_outward_61 (v := 0) (by decide) ?_
          refine r_aload_n E (x := some h0) (i := 0) (j := 0) dX7_outward_62 rfl rfl ?_
          refine r_aload_n E (x := some h0) (i := 0) (j := 0) dX7_outward_63 rfl rfl ?_
          refine gf_X7_82 E (x := gi s34 820 h0) dX7_outward_64 rfl g36 rfl ?_
          refine r_i2l E dX7_outward_67 ?_
          refine cl_X7_123 E (m_X7_num hc38) dX7_outward_68 ⟨Nat.le_of_ble_eq_true rfl, Nat.le_of_ble_eq_true rfl⟩ ⟨by first | decide | omega | (dsimp only; omega), by first | decide | omega | (dsimp only; omega)⟩ (by simp only [List.map_cons, List.map_nil, va_rf_cat]; exact Nat.le_of_ble_eq_true rfl) rfl g36 ?_
          refine r_iast E dX7_outward_71 e42 g43 g44 ?_
          refine r_aload_n E (x := some h0) (i := 0) (j := 0) dX7_outward_72 rfl rfl ?_
          refine r_iconst E dX7_outward_73 (v := 0) (by decide) ?_
          refine pf_X7_82 E dX7_outward_74 rfl g45 ?_
          refine r_aload_n E (x := some h0) (i := 0) (j := 0) dX7_outward_77 rfl rfl ?_
          refine gf_X7_49 E (x := gp s39 815 h0) dX7_outward_78 rfl g45 rfl ?_
          refine r_aload_n E (x := some h0) (i := 0) (j := 0) dX7_outward_81 rfl rfl ?_
          refine gf_X7_98 E (x := gi s39 818 h0) dX7_outward_82 rfl g45 rfl ?_
          refine r_iconst E dX7_outward_85 (v := 2) (by decide) ?_
          refine r_iast E dX7_outward_86 e47 g48 g49 ?_
          refine r_aload_n E (x := some h0) (i := 0) (j := 0) dX7_outward_87 rfl rfl ?_
          refine r_iload_n E (i := 1) (j := 1) dX7_outward_88 rfl rfl ?_
          refine r_iconst E dX7_outward_89 (v := 2) (by decide) ?_
          refine cl_X7_127 E (m_X7_begin hc50) dX7_outward_90 ⟨Nat.le_of_ble_eq_true rfl, Nat.le_of_ble_eq_true rfl⟩ ⟨by first | decide | omega | (dsimp only; omega), by first | decide | omega | (dsimp only; omega)⟩ (by decide) rfl g45 ?_
          exact r_vret E dX7_outward_93
        · have h := iff' c37 h
          obtain ⟨rfl, rfl⟩ := lf2 h
          refine r_aload_n E (x := some h0) (i := 0) (j := 0) dX7_outward_46 rfl rfl ?_
          refine r_dup E dX7_outward_47 (va_rf_cat _) ?_
          refine gf_X7_98 E (x := gi s34 818 h0) dX7_outward_48 rfl g36 rfl ?_
          refine r_iconst E dX7_outward_51 (v := 1) (by decide) ?_
          refine r_isub E dX7_outward_52 ?_
          refine pf_X7_98 E dX7_outward_53 rfl g36 ?_
          exact r_vret E dX7_outward_56
def ex_X7_part0 (d : Dp) (σ : Sg) (h0 : Nat) (p1 : Int32) : Option (Unit × Sg) := (if gc σ h0 = 9 then (Option.bind (gp σ 815 h0) fun a2 => (if gc σ a2 = 10 then (if ¬ ((gi σ 818 h0) < 0 ∨ gl σ a2 ≤ Int32.toNatClampNeg (gi σ 818 h0)) then (b2 (ex_X7_begin d (wi σ a2 (Int32.toNatClampNeg (gi σ 818 h0)) (1 : Int32)) h0 p1 (0 : Int32)) fun r8 s7 => some ((), s7)) else none) else none)) else none)
set_option maxHeartbeats 4000000 in
set_option maxRecDepth 20000 in
theorem m_X7_part0 {l : Launch} {d : Dp} {σ σ' : Sg} {h0 : Nat} {p1 : Int32} {r : Unit} (h : ex_X7_part0 d σ h0 p1 = some (r, σ')) : Mt l d yX7_part0 cX7_part0 2 none 3 66 σ [.ref h0, .int (p1)] none σ' 0 0 := by
  refine mt_start (own := RX7) (lv0 := [(0, va_rf (some h0)), (1, .int (p1))]) (by decide) rfl (by simp only [lg_sl, List.flatMap_cons, List.flatMap_nil, va_rf_cat]; exact Nat.le_of_ble_eq_true rfl) (by first | rfl | (simp only [lv_args, va_rf_cat]; rfl)) ?_
  intro p e s m args below meth c E hnm
  unfold ex_X7_part0 at h
  obtain ⟨g1, h⟩ := ck h
  obtain ⟨a2, e3, h⟩ := nn h
  obtain ⟨g4, h⟩ := ck h
  obtain ⟨g5, h⟩ := ck h
  obtain ⟨r8, s7, hc6, h⟩ := nb2 h
  obtain ⟨rfl, rfl⟩ := lf2 h
  refine r_aload_n E (x := some h0) (i := 0) (j := 0) dX7_part0_0 rfl rfl ?_
  refine gf_X7_49 E (x := gp σ 815 h0) dX7_part0_1 rfl g1 rfl ?_
  refine r_aload_n E (x := some h0) (i := 0) (j := 0) dX7_part0_4 rfl rfl ?_
  refine gf_X7_98 E (x := gi σ 818 h0) dX7_part0_5 rfl g1 rfl ?_
  refine r_iconst E dX7_part0_8 (v := 1) (by decide) ?_
  refine r_iast E dX7_part0_9 e3 g4 g5 ?_
  refine r_aload_n E (x := some h0) (i := 0) (j := 0) dX7_part0_10 rfl rfl ?_
  refine r_iload_n E (i := 1) (j := 1) dX7_part0_11 rfl rfl ?_
  refine r_iconst E dX7_part0_12 (v := 0) (by decide) ?_
  refine cl_X7_127 E (m_X7_begin hc6) dX7_part0_13 ⟨Nat.le_of_ble_eq_true rfl, Nat.le_of_ble_eq_true rfl⟩ ⟨by first | decide | omega | (dsimp only; omega), by first | decide | omega | (dsimp only; omega)⟩ (by decide) rfl g1 ?_
  exact r_vret E dX7_part0_16
