def ex_X7_begin (d : Dp) (σ : Sg) (h0 : Nat) (p1 : Int32) (p2 : Int32) : Option (Unit × Sg) := (if gc σ h0 = 9 then (b2 (ex_X7_number d σ h0 p1 p2) fun r4 s3 => (if r4 = (-1 : Int32) then (if gc s3 h0 = 9 then (b2 (ex_X7_fail d s3 h0 (1 : Int32) p1) fun r17 s16 => some ((), s16)) else none) else (if gc s3 h0 = 9 then (b2 (ex_X7_number d s3 h0 p1 p2) fun r9 s8 => (if gc s8 h0 = 9 then (b2 (ex_X7_enter d s8 h0 r9) fun r13 s12 => some ((), s12)) else none)) else none))) else none)
set_option maxHeartbeats 4000000 in
set_option maxRecDepth 20000 in
theorem m_X7_begin {l : Launch} {d : Dp} {σ σ' : Sg} {h0 : Nat} {p1 : Int32} {p2 : Int32} {r : Unit} (h : ex_X7_begin d σ h0 p1 p2 = some (r, σ')) : Mt l d yX7_begin cX7_begin 3 none 2 44 σ [.ref h0, .int (p1), .int (p2)] none σ' 0 0 := by
  refine mt_start (own := RX7) (lv0 := [(0, va_rf (some h0)), (1, .int (p1)), (2, .int (p2))]) (by decide) rfl (by simp only [lg_sl, List.flatMap_cons, List.flatMap_nil, va_rf_cat]; exact Nat.le_of_ble_eq_true rfl) (by first | rfl | (simp only [lv_args, va_rf_cat]; rfl)) ?_
  intro p e s m args below meth c E hnm
  unfold ex_X7_begin at h
  obtain ⟨g1, h⟩ := ck h
  obtain ⟨r4, s3, hc2, h⟩ := nb2 h
  refine r_aload_n E (x := some h0) (i := 0) (j := 0) dX7_begin_0 rfl rfl ?_
  refine r_iload_n E (i := 1) (j := 1) dX7_begin_1 rfl rfl ?_
  refine r_iload_n E (i := 2) (j := 2) dX7_begin_2 rfl rfl ?_
  refine cl_X7_101 E (m_X7_number hc2) dX7_begin_3 ⟨Nat.le_of_ble_eq_true rfl, Nat.le_of_ble_eq_true rfl⟩ ⟨by first | decide | omega | (dsimp only; omega), by first | decide | omega | (dsimp only; omega)⟩ (by decide) rfl g1 ?_
  refine r_iconst E dX7_begin_6 (v := -1) (by decide) ?_
  refine r_icmp_ne E (tgt := 20) dX7_begin_7 (by decide) (fun c5 => ?_) (fun c5 => ?_)
  · have h := iff' c5 h
    obtain ⟨g6, h⟩ := ck h
    obtain ⟨r9, s8, hc7, h⟩ := nb2 h
    obtain ⟨g10, h⟩ := ck h
    obtain ⟨r13, s12, hc11, h⟩ := nb2 h
    obtain ⟨rfl, rfl⟩ := lf2 h
    refine r_aload_n E (x := some h0) (i := 0) (j := 0) dX7_begin_20 rfl rfl ?_
    refine r_aload_n E (x := some h0) (i := 0) (j := 0) dX7_begin_21 rfl rfl ?_
    refine r_iload_n E (i := 1) (j := 1) dX7_begin_22 rfl rfl ?_
    refine r_iload_n E (i := 2) (j := 2) dX7_begin_23 rfl rfl ?_
    refine cl_X7_101 E (m_X7_number hc7) dX7_begin_24 ⟨Nat.le_of_ble_eq_true rfl, Nat.le_of_ble_eq_true rfl⟩ ⟨by first | decide | omega | (dsimp only; omega), by first | decide | omega | (dsimp only; omega)⟩ (by simp only [List.map_cons, List.map_nil, va_rf_cat]; exact Nat.le_of_ble_eq_true rfl) rfl g6 ?_
    refine cl_X7_104 E (m_X7_enter hc11) dX7_begin_27 ⟨Nat.le_of_ble_eq_true rfl, Nat.le_of_ble_eq_true rfl⟩ ⟨by first | decide | omega | (dsimp only; omega), by first | decide | omega | (dsimp only; omega)⟩ (by decide) rfl g10 ?_
    exact r_vret E dX7_begin_30
  · have h := ift c5 h
    obtain ⟨g14, h⟩ := ck h
    obtain ⟨r17, s16, hc15, h⟩ := nb2 h
    obtain ⟨rfl, rfl⟩ := lf2 h
    refine r_aload_n E (x := some h0) (i := 0) (j := 0) dX7_begin_10 rfl rfl ?_
    refine r_iconst E dX7_begin_11 (v := 1) (by decide) ?_
    refine r_iload_n E (i := 1) (j := 1) dX7_begin_12 rfl rfl ?_
    refine cl_X7_88 E (m_X7_fail hc15) dX7_begin_13 ⟨Nat.le_of_ble_eq_true rfl, Nat.le_of_ble_eq_true rfl⟩ ⟨by first | decide | omega | (dsimp only; omega), by first | decide | omega | (dsimp only; omega)⟩ (by decide) rfl g14 ?_
    refine r_pop E dX7_begin_16 rfl ?_
    refine r_goto E (tgt := 30) dX7_begin_17 (by decide) ?_
    exact r_vret E dX7_begin_30
def ex_X7_outward (d : Dp) (σ : Sg) (h0 : Nat) (p1 : Int32) : Option (Unit × Sg) := (if gc σ h0 = 9 then (Option.bind (gp σ 801 h0) fun a2 => (if gc σ a2 = 10 then (if ¬ (p1 < 0 ∨ gl σ a2 ≤ Int32.toNatClampNeg p1) then (if (ai σ a2 (Int32.toNatClampNeg p1)) = (15 : Int32) then (Option.bind (gp σ 815 h0) fun a9 => (if gc σ a9 = 10 then (if ¬ ((gi σ 818 h0) < 0 ∨ gl σ a9 ≤ Int32.toNatClampNeg (gi σ 818 h0)) then (if (ai σ a9 (Int32.toNatClampNeg (gi σ 818 h0))) = (1 : Int32) then (b2 (ex_X7_number d σ h0 p1 (1 : Int32)) fun r18 s17 => (if r18 = (0 : Int32) then (if gc s17 h0 = 9 then (b2 (ex_X7_num d s17 h0 (Int32.toInt64 (gi s17 820 h0))) fun r23 s22 => (Option.bind (gp s17 812 h0) fun a24 => (if gc s22 a24 = 10 then (if ¬ ((0 : Int32) < 0 ∨ gl s22 a24 ≤ Int32.toNatClampNeg (0 : Int32)) then (bn (wi s22 a24 (Int32.toNatClampNeg (0 : Int32)) r23) fun s28 => (if gc s28 h0 = 9 then (bn (si s28 820 h0 (0 : Int32)) fun s31 => (if gc s31 h0 = 9 then (Option.bind (gp s31 815 h0) fun a34 => (if gc s31 a34 = 10 then (if ¬ ((gi s31 818 h0) < 0 ∨ gl s31 a34 ≤ Int32.toNatClampNeg (gi s31 818 h0)) then (bn (wi s31 a34 (Int32.toNatClampNeg (gi s31 818 h0)) (2 : Int32)) fun s38 => (if gc s38 h0 = 9 then (b2 (ex_X7_begin d s38 h0 p1 (2 : Int32)) fun r43 s42 => some ((), s42)) else none)) else none) else none)) else none)) else none)) else none) else none))) else none) else (if gc s17 h0 = 9 then (b2 (ex_X7_number d s17 h0 p1 (1 : Int32)) fun r47 s46 => (if gc s46 h0 = 9 then (if r47 = (gi s46 820 h0) then (b2 (ex_X7_num d s46 h0 (Int32.toInt64 (gi s46 820 h0))) fun r52 s51 => (Option.bind (gp s46 812 h0) fun a53 => (if gc s51 a53 = 10 then (if ¬ ((0 : Int32) < 0 ∨ gl s51 a53 ≤ Int32.toNatClampNeg (0 : Int32)) then (bn (wi s51 a53 (Int32.toNatClampNeg (0 : Int32)) r52) fun s57 => (if gc s57 h0 = 9 then (bn (si s57 820 h0 (0 : Int32)) fun s60 => (if gc s60 h0 = 9 then (Option.bind (gp s60 815 h0) fun a63 => (if gc s60 a63 = 10 then (if ¬ ((gi s60 818 h0) < 0 ∨ gl s60 a63 ≤ Int32.toNatClampNeg (gi s60 818 h0)) then (bn (wi s60 a63 (Int32.toNatClampNeg (gi s60 818 h0)) (2 : Int32)) fun s67 => (if gc s67 h0 = 9 then (b2 (ex_X7_begin d s67 h0 p1 (2 : Int32)) fun r72 s71 => some ((), s71)) else none)) else none) else none)) else none)) else none)) else none) else none))) else (bn (si s46 818 h0 ((gi s46 818 h0) - (1 : Int32))) fun s73 => some ((), s73))) else none)) else none))) else (bn (si σ 818 h0 ((gi σ 818 h0) - (1 : Int32))) fun s14 => some ((), s14))) else none) else none)) else (bn (si σ 818 h0 ((gi σ 818 h0) - (1 : Int32))) fun s7 => some ((), s7))) else none) else none)) else none)
set_option maxHeartbeats 4000000 in
set_option maxRecDepth 20000 in
theorem m_X7_outward {l : Launch} {d : Dp} {σ σ' : Sg} {h0 : Nat} {p1 : Int32} {r : Unit} (h : ex_X7_outward d σ h0 p1 = some (r, σ')) : Mt l d yX7_outward cX7_outward 2 none 3 66 σ [.ref h0, .int (p1)] none σ' 0 0 := by
  refine mt_start (own := RX7) (lv0 := [(0, va_rf (some h0)), (1, .int (p1))]) (by decide) rfl (by simp only [lg_sl, List.flatMap_cons, List.flatMap_nil, va_rf_cat]; exact Nat.le_of_ble_eq_true rfl) (by first | rfl | (simp only [lv_args, va_rf_cat]; rfl)) ?_
  intro p e s m args below meth c E hnm
  unfold ex_X7_outward at h
  obtain ⟨g1, h⟩ := ck h
  obtain ⟨a2, e3, h⟩ := nn h
  obtain ⟨g4, h⟩ := ck h
  obtain ⟨g5, h⟩ := ck h
  refine r_aload_n E (x := some h0) (i := 0) (j := 0) dX7_outward_0 rfl rfl ?_
  refine gf_X7_13 E (x := gp σ 801 h0) dX7_outward_1 rfl g1 rfl ?_
  refine r_iload_n E (i := 1) (j := 1) dX7_outward_4 rfl rfl ?_
  refine r_iald E dX7_outward_5 e3 g4 g5 ?_
  refine r_bipush E dX7_outward_6 (v := 15) (by decide) ?_
  refine r_icmp_ne E (tgt := 46) dX7_outward_8 (by decide) (fun c6 => ?_) (fun c6 => ?_)
  · have h := iff' c6 h
    obtain ⟨s7, e8, h⟩ := nbn h
    obtain ⟨rfl, rfl⟩ := lf2 h
    refine r_aload_n E (x := some h0) (i := 0) (j := 0) dX7_outward_46 rfl rfl ?_
    refine r_dup E dX7_outward_47 (va_rf_cat _) ?_
    refine gf_X7_98 E (x := gi σ 818 h0) dX7_outward_48 rfl g1 rfl ?_
    refine r_iconst E dX7_outward_51 (v := 1) (by decide) ?_
    refine r_isub E dX7_outward_52 ?_
    refine pf_X7_98 E dX7_outward_53 rfl g1 ?_
    refine r_nm e8 ?_
    exact r_vret E dX7_outward_56
  · have h := ift c6 h
    obtain ⟨a9, e10, h⟩ := nn h
    obtain ⟨g11, h⟩ := ck h
    obtain ⟨g12, h⟩ := ck h
    refine r_aload_n E (x := some h0) (i := 0) (j := 0) dX7_outward_11 rfl rfl ?_
    refine gf_X7_49 E (x := gp σ 815 h0) dX7_outward_12 rfl g1 rfl ?_
    refine r_aload_n E (x := some h0) (i := 0) (j := 0) dX7_outward_15 rfl rfl ?_
    refine gf_X7_98 E (x := gi σ 818 h0) dX7_outward_16 rfl g1 rfl ?_
    refine r_iald E dX7_outward_19 e10 g11 g12 ?_
    refine r_iconst E dX7_outward_20 (v := 1) (by decide) ?_
    refine r_icmp_ne E (tgt := 46) dX7_outward_21 (by decide) (fun c13 => ?_) (fun c13 => ?_)
    · have h := iff' c13 h
      obtain ⟨s14, e15, h⟩ := nbn h
      obtain ⟨rfl, rfl⟩ := lf2 h
      refine r_aload_n E (x := some h0) (i := 0) (j := 0) dX7_outward_46 rfl rfl ?_
      refine r_dup E dX7_outward_47 (va_rf_cat _) ?_
      refine gf_X7_98 E (x := gi σ 818 h0) dX7_outward_48 rfl g1 rfl ?_
      refine r_iconst E dX7_outward_51 (v := 1) (by decide) ?_
      refine r_isub E dX7_outward_52 ?_
      refine pf_X7_98 E dX7_outward_53 rfl g1 ?_
      refine r_nm e15 ?_
      exact r_vret E dX7_outward_56
    · have h := ift c13 h
      obtain ⟨r18, s17, hc16, h⟩ := nb2 h
      refine r_aload_n E (x := some h0) (i := 0) (j := 0) dX7_outward_24 rfl rfl ?_
      refine r_iload_n E (i := 1) (j := 1) dX7_outward_25 rfl rfl ?_
      refine r_iconst E dX7_outward_26 (v := 1) (by decide) ?_
      refine cl_X7_101 E (m_X7_number hc16) dX7_outward_27 ⟨Nat.le_of_ble_eq_true rfl, Nat.le_of_ble_eq_true rfl⟩ ⟨by first | decide | omega | (dsimp only; omega), by first | decide | omega | (dsimp only; omega)⟩ (by decide) rfl g1 ?_
      refine r_if_eq E (tgt := 57) dX7_outward_30 (by decide) (fun c19 => ?_) (fun c19 => ?_)
      · have h := ift c19 h
        obtain ⟨g20, h⟩ := ck h
        obtain ⟨r23, s22, hc21, h⟩ := nb2 h
        obtain ⟨a24, e25, h⟩ := nn h
        obtain ⟨g26, h⟩ := ck h
        obtain ⟨g27, h⟩ := ck h
        obtain ⟨s28, e29, h⟩ := nbn h
        obtain ⟨g30, h⟩ := ck h
        obtain ⟨s31, e32, h⟩ := nbn h
        obtain ⟨g33, h⟩ := ck h
        obtain ⟨a34, e35, h⟩ := nn h
        obtain ⟨g36, h⟩ := ck h
        obtain ⟨g37, h⟩ := ck h
        obtain ⟨s38, e39, h⟩ := nbn h
        obtain ⟨g40, h⟩ := ck h
        obtain ⟨r43, s42, hc41, h⟩ := nb2 h
        obtain ⟨rfl, rfl⟩ := lf2 h
        refine r_aload_n E (x := some h0) (i := 0) (j := 0) dX7_outward_57 rfl rfl ?_
        refine gf_X7_39 E (x := gp s17 812 h0) dX7_outward_58 rfl g20 rfl ?_
        refine r_iconst E dX7_outward_61 (v := 0) (by decide) ?_
        refine r_aload_n E (x := some h0) (i := 0) (j := 0) dX7_outward_62 rfl rfl ?_
        refine r_aload_n E (x := some h0) (i := 0) (j := 0) dX7_outward_63 rfl rfl ?_
        refine gf_X7_82 E (x := gi s17 820 h0) dX7_outward_64 rfl g20 rfl ?_
        refine r_i2l E dX7_outward_67 ?_
        refine cl_X7_123 E (m_X7_num hc21) dX7_outward_68 ⟨Nat.le_of_ble_eq_true rfl, Nat.le_of_ble_eq_true rfl⟩ ⟨by first | decide | omega | (dsimp only; omega), by first | decide | omega | (dsimp only; omega)⟩ (by simp only [List.map_cons, List.map_nil, va_rf_cat]; exact Nat.le_of_ble_eq_true rfl) rfl g20 ?_
        refine r_iast E dX7_outward_71 e25 g26 g27 ?_
        refine r_nm e29 ?_
        refine r_aload_n E (x := some h0) (i := 0) (j := 0) dX7_outward_72 rfl rfl ?_
        refine r_iconst E dX7_outward_73 (v := 0) (by decide) ?_
        refine pf_X7_82 E dX7_outward_74 rfl g30 ?_
        refine r_nm e32 ?_
        refine r_aload_n E (x := some h0) (i := 0) (j := 0) dX7_outward_77 rfl rfl ?_
        refine gf_X7_49 E (x := gp s31 815 h0) dX7_outward_78 rfl g33 rfl ?_
        refine r_aload_n E (x := some h0) (i := 0) (j := 0) dX7_outward_81 rfl rfl ?_
        refine gf_X7_98 E (x := gi s31 818 h0) dX7_outward_82 rfl g33 rfl ?_
        refine r_iconst E dX7_outward_85 (v := 2) (by decide) ?_
        refine r_iast E dX7_outward_86 e35 g36 g37 ?_
        refine r_nm e39 ?_
        refine r_aload_n E (x := some h0) (i := 0) (j := 0) dX7_outward_87 rfl rfl ?_
        refine r_iload_n E (i := 1) (j := 1) dX7_outward_88 rfl rfl ?_
        refine r_iconst E dX7_outward_89 (v := 2) (by decide) ?_
        refine cl_X7_127 E (m_X7_begin hc41) dX7_outward_90 ⟨Nat.le_of_ble_eq_true rfl, Nat.le_of_ble_eq_true rfl⟩ ⟨by first | decide | omega | (dsimp only; omega), by first | decide | omega | (dsimp only; omega)⟩ (by decide) rfl g40 ?_
        exact r_vret E dX7_outward_93
      · have h := iff' c19 h
        obtain ⟨g44, h⟩ := ck h
        obtain ⟨r47, s46, hc45, h⟩ := nb2 h
        obtain ⟨g48, h⟩ := ck h
        refine r_aload_n E (x := some h0) (i := 0) (j := 0) dX7_outward_33 rfl rfl ?_
        refine r_iload_n E (i := 1) (j := 1) dX7_outward_34 rfl rfl ?_
        refine r_iconst E dX7_outward_35 (v := 1) (by decide) ?_
        refine cl_X7_101 E (m_X7_number hc45) dX7_outward_36 ⟨Nat.le_of_ble_eq_true rfl, Nat.le_of_ble_eq_true rfl⟩ ⟨by first | decide | omega | (dsimp only; omega), by first | decide | omega | (dsimp only; omega)⟩ (by decide) rfl g44 ?_
        refine r_aload_n E (x := some h0) (i := 0) (j := 0) dX7_outward_39 rfl rfl ?_
        refine gf_X7_82 E (x := gi s46 820 h0) dX7_outward_40 rfl g48 rfl ?_
        refine r_icmp_eq E (tgt := 57) dX7_outward_43 (by decide) (fun c49 => ?_) (fun c49 => ?_)
        · have h := ift c49 h
          obtain ⟨r52, s51, hc50, h⟩ := nb2 h
          obtain ⟨a53, e54, h⟩ := nn h
          obtain ⟨g55, h⟩ := ck h
          obtain ⟨g56, h⟩ := ck h
          obtain ⟨s57, e58, h⟩ := nbn h
          obtain ⟨g59, h⟩ := ck h
          obtain ⟨s60, e61, h⟩ := nbn h
          obtain ⟨g62, h⟩ := ck h
          obtain ⟨a63, e64, h⟩ := nn h
          obtain ⟨g65, h⟩ := ck h
          obtain ⟨g66, h⟩ := ck h
          obtain ⟨s67, e68, h⟩ := nbn h
          obtain ⟨g69, h⟩ := ck h
          obtain ⟨r72, s71, hc70, h⟩ := nb2 h
          obtain ⟨rfl, rfl⟩ := lf2 h
          refine r_aload_n E (x := some h0) (i := 0) (j := 0) dX7_outward_57 rfl rfl ?_
          refine gf_X7_39 E (x := gp s46 812 h0) dX7_outward_58 rfl g48 rfl ?_
          refine r_iconst E dX7_outward_61 (v := 0) (by decide) ?_
          refine r_aload_n E (x := some h0) (i := 0) (j := 0) dX7_outward_62 rfl rfl ?_
          refine r_aload_n E (x := some h0) (i := 0) (j := 0) dX7_outward_63 rfl rfl ?_
          refine gf_X7_82 E (x := gi s46 820 h0) dX7_outward_64 rfl g48 rfl ?_
          refine r_i2l E dX7_outward_67 ?_
          refine cl_X7_123 E (m_X7_num hc50) dX7_outward_68 ⟨Nat.le_of_ble_eq_true rfl, Nat.le_of_ble_eq_true rfl⟩ ⟨by first | decide | omega | (dsimp only; omega), by first | decide | omega | (dsimp only; omega)⟩ (by simp only [List.map_cons, List.map_nil, va_rf_cat]; exact Nat.le_of_ble_eq_true rfl) rfl g48 ?_
          refine r_iast E dX7_outward_71 e54 g55 g56 ?_
          refine r_nm e58 ?_
          refine r_aload_n E (x := some h0) (i := 0) (j := 0) dX7_outward_72 rfl rfl ?_
          refine r_iconst E dX7_outward_73 (v := 0) (by decide) ?_
          refine pf_X7_82 E dX7_outward_74 rfl g59 ?_
          refine r_nm e61 ?_
          refine r_aload_n E (x := some h0) (i := 0) (j := 0) dX7_outward_77 rfl rfl ?_
          refine gf_X7_49 E (x := gp s60 815 h0) dX7_outward_78 rfl g62 rfl ?_
          refine r_aload_n E (x := some h0) (i := 0) (j := 0) dX7_outward_81 rfl rfl ?_
          refine gf_X7_98 E (x := gi s60 818 h0) dX7_outward_82 rfl g62 rfl ?_
          refine r_iconst E dX7_outward_85 (v := 2) (by decide) ?_
          refine r_iast E dX7_outward_86 e64 g65 g66 ?_
          refine r_nm e68 ?_
          refine r_aload_n E (x := some h0) (i := 0) (j := 0) dX7_outward_87 rfl rfl ?_
          refine r_iload_n E (i := 1) (j := 1) dX7_outward_88 rfl rfl ?_
          refine r_iconst E dX7_outward_89 (v := 2) (by decide) ?_
          refine cl_X7_127 E (m_X7_begin hc70) dX7_outward_90 ⟨Nat.le_of_ble_eq_true rfl, Nat.le_of_ble_eq_true rfl⟩ ⟨by first | decide | omega | (dsimp only; omega), by first | decide | omega | (dsimp only; omega)⟩ (by decide) rfl g69 ?_
          exact r_vret E dX7_outward_93
        · have h := iff' c49 h
          obtain ⟨s73, e74, h⟩ := nbn h
          obtain ⟨rfl, rfl⟩ := lf2 h
          refine r_aload_n E (x := some h0) (i := 0) (j := 0) dX7_outward_46 rfl rfl ?_
          refine r_dup E dX7_outward_47 (va_rf_cat _) ?_
          refine gf_X7_98 E (x := gi s46 818 h0) dX7_outward_48 rfl g48 rfl ?_
          refine r_iconst E dX7_outward_51 (v := 1) (by decide) ?_
          refine r_isub E dX7_outward_52 ?_
          refine pf_X7_98 E dX7_outward_53 rfl g48 ?_
          refine r_nm e74 ?_
          exact r_vret E dX7_outward_56
def ex_X7_part0 (d : Dp) (σ : Sg) (h0 : Nat) (p1 : Int32) : Option (Unit × Sg) := (if gc σ h0 = 9 then (Option.bind (gp σ 815 h0) fun a2 => (if gc σ a2 = 10 then (if ¬ ((gi σ 818 h0) < 0 ∨ gl σ a2 ≤ Int32.toNatClampNeg (gi σ 818 h0)) then (bn (wi σ a2 (Int32.toNatClampNeg (gi σ 818 h0)) (1 : Int32)) fun s6 => (if gc s6 h0 = 9 then (b2 (ex_X7_begin d s6 h0 p1 (0 : Int32)) fun r11 s10 => some ((), s10)) else none)) else none) else none)) else none)
set_option maxHeartbeats 4000000 in
set_option maxRecDepth 20000 in
theorem m_X7_part0 {l : Launch} {d : Dp} {σ σ' : Sg} {h0 : Nat} {p1 : Int32} {r : Unit} (h : ex_X7_part0 d σ h0 p1 = some (r, σ')) : Mt l d yX7_part0 cX7_part0 2 none 3 66 σ [.ref h0, .int (p1)] none σ' 0 0 := by
  refine mt_start (own := RX7) (lv0 := [(0, va_rf (some h0)), (1, .int (p1))]) (by decide) rfl (by simp only [lg_sl, List.flatMap_cons, List.flatMap_nil, va_rf_cat]; exact Nat.le_of_ble_eq_true rfl) (by first | rfl | (simp only [lv_args, va_rf_cat]; rfl)) ?_
  intro p e s m args below meth c E hnm
  unfold ex_X7_part0 at h
  obtain ⟨g1, h⟩ := ck h
  obtain ⟨a2, e3, h⟩ := nn h
  obtain ⟨g4, h⟩ := ck h
  obtain ⟨g5, h⟩ := ck h
  obtain ⟨s6, e7, h⟩ := nbn h
  obtain ⟨g8, h⟩ := ck h
  obtain ⟨r11, s10, hc9, h⟩ := nb2 h
  obtain ⟨rfl, rfl⟩ := lf2 h
  refine r_aload_n E (x := some h0) (i := 0) (j := 0) dX7_part0_0 rfl rfl ?_
  refine gf_X7_49 E (x := gp σ 815 h0) dX7_part0_1 rfl g1 rfl ?_
  refine r_aload_n E (x := some h0) (i := 0) (j := 0) dX7_part0_4 rfl rfl ?_
  refine gf_X7_98 E (x := gi σ 818 h0) dX7_part0_5 rfl g1 rfl ?_
  refine r_iconst E dX7_part0_8 (v := 1) (by decide) ?_
  refine r_iast E dX7_part0_9 e3 g4 g5 ?_
  refine r_nm e7 ?_
  refine r_aload_n E (x := some h0) (i := 0) (j := 0) dX7_part0_10 rfl rfl ?_
  refine r_iload_n E (i := 1) (j := 1) dX7_part0_11 rfl rfl ?_
  refine r_iconst E dX7_part0_12 (v := 0) (by decide) ?_
  refine cl_X7_127 E (m_X7_begin hc9) dX7_part0_13 ⟨Nat.le_of_ble_eq_true rfl, Nat.le_of_ble_eq_true rfl⟩ ⟨by first | decide | omega | (dsimp only; omega), by first | decide | omega | (dsimp only; omega)⟩ (by decide) rfl g8 ?_
  exact r_vret E dX7_part0_16
