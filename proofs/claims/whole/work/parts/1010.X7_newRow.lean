def lp_X7_newRow : Nat → Dp → Sg → Nat → Int32 → Int32 → Int32 → Int32 → Int32 → Option (Int32 × Sg)
  | 0, _, _, _, _, _, _, _, _ => none
  | f + 1, d, σ, h0, v1, v2, v3, v4, v5 => (if v2 ≤ v5 then (if gc σ h0 = 9 then (bn (si σ 811 h0 ((gi σ 811 h0) + v2)) fun s19 => some (v4, s19)) else none) else (if gc σ h0 = 9 then (Option.bind (gp σ 810 h0) fun a22 => (if gc σ a22 = 10 then (if ¬ (((gi σ 811 h0) + v5) < 0 ∨ gl σ a22 ≤ Int32.toNatClampNeg ((gi σ 811 h0) + v5)) then (bn (wi σ a22 (Int32.toNatClampNeg ((gi σ 811 h0) + v5)) (-1 : Int32)) fun s26 => lp_X7_newRow f d s26 h0 v1 v2 v3 v4 (v5 + 1)) else none) else none)) else none))
set_option maxHeartbeats 4000000 in
set_option maxRecDepth 20000 in
theorem wlp_X7_newRow {p : Program} {l : Launch} {e : Env} {s : State} {m : MethodId} {args : Array Value} {below : List Frame} {meth : Method} {c : Code} {d : Dp} {σ0 σ' : Sg} {r : Int32} (E : Ev p s m args meth c RX7 cX7_newRow 6 (some .int) d (AA σ0)) : ∀ (f : Nat) (σ : Sg) (h0 : Nat) (v1 : Int32) (v2 : Int32) (v3 : Int32) (v4 : Int32) (v5 : Int32), lp_X7_newRow f d σ h0 v1 v2 v3 v4 v5 = some (r, σ') → Gk p l e { frames := 1, cells := 0, slots := 0, locals := 26 } s m args below meth c d (AA σ0) (MQ below (QQ d σ0 (some (.int r)) σ') args s 0 0 (AA σ0)) 6 σ 0 0 73 [(0, va_rf (some h0)), (1, .int (v1)), (2, .int (v2)), (3, .int (v3)), (4, .int (v4)), (5, .int (v5))] [] := by
  intro f
  induction f with
  | zero => intro _ _ _ _ _ _ _ h; cases h
  | succ f ih =>
    intro σ h0 v1 v2 v3 v4 v5 h
    unfold lp_X7_newRow at h
    refine r_iload E (j := 5) dX7_newRow_73 rfl ?_
    refine r_iload_n E (i := 2) (j := 2) dX7_newRow_75 rfl rfl ?_
    refine r_icmp_ge E (tgt := 98) dX7_newRow_76 (by decide) (fun c17 => ?_) (fun c17 => ?_)
    · have h := ift c17 h
      obtain ⟨g18, h⟩ := ck h
      obtain ⟨s19, e20, h⟩ := nbn h
      obtain ⟨rfl, rfl⟩ := lf2 h
      refine r_aload_n E (x := some h0) (i := 0) (j := 0) dX7_newRow_98 rfl rfl ?_
      refine r_dup E dX7_newRow_99 (va_rf_cat _) ?_
      refine gf_X7_176 E (x := gi σ 811 h0) dX7_newRow_100 rfl g18 rfl ?_
      refine r_iload_n E (i := 2) (j := 2) dX7_newRow_103 rfl rfl ?_
      refine r_iadd E dX7_newRow_104 ?_
      refine pf_X7_176 E dX7_newRow_105 rfl g18 ?_
      refine r_nm e20 ?_
      refine r_iload E (j := 4) dX7_newRow_108 rfl ?_
      exact r_iret E dX7_newRow_110
    · have h := iff' c17 h
      obtain ⟨g21, h⟩ := ck h
      obtain ⟨a22, e23, h⟩ := nn h
      obtain ⟨g24, h⟩ := ck h
      obtain ⟨g25, h⟩ := ck h
      obtain ⟨s26, e27, h⟩ := nbn h
      refine r_aload_n E (x := some h0) (i := 0) (j := 0) dX7_newRow_79 rfl rfl ?_
      refine gf_X7_36 E (x := gp σ 810 h0) dX7_newRow_80 rfl g21 rfl ?_
      refine r_aload_n E (x := some h0) (i := 0) (j := 0) dX7_newRow_83 rfl rfl ?_
      refine gf_X7_176 E (x := gi σ 811 h0) dX7_newRow_84 rfl g21 rfl ?_
      refine r_iload E (j := 5) dX7_newRow_87 rfl ?_
      refine r_iadd E dX7_newRow_89 ?_
      refine r_iconst E dX7_newRow_90 (v := -1) (by decide) ?_
      refine r_iast E dX7_newRow_91 e23 g24 g25 ?_
      refine r_nm e27 ?_
      refine r_iinc E (j := 5) (v := v5 + 1) (lv' := [(5, .int (v5 + 1)), (0, va_rf (some h0)), (1, .int (v1)), (2, .int (v2)), (3, .int (v3)), (4, .int (v4))]) dX7_newRow_92 rfl rfl (by decide) (by first | rfl | (simp only [List.filter_cons, List.filter_nil, va_rf_cat]; rfl)) ?_
      refine r_goto E (tgt := 73) dX7_newRow_95 (by decide) ?_
      refine r_sub [1, 2, 3, 4, 5, 0] (lv' := [(0, va_rf (some h0)), (1, .int (v1)), (2, .int (v2)), (3, .int (v3)), (4, .int (v4)), (5, .int (v5 + 1))]) rfl ?_
      exact ih _ _ _ _ _ _ _ h
def ex_X7_newRow (d : Dp) (σ : Sg) (h0 : Nat) (p1 : Int32) (p2 : Int32) : Option (Int32 × Sg) := (if gc σ h0 = 9 then (b2 (ex_X7_number d σ h0 p1 (0 : Int32)) fun r4 s3 => (if r4 < (0 : Int32) then (if gc s3 h0 = 9 then (b2 (ex_X7_make d s3 h0 (5 : Int32) (0 : Int64) (-1 : Int32) (-1 : Int32)) fun r9 s8 => some (r9, s8)) else none) else (if r4 ≤ (2 : Int32) then (if (0 : Int32) ≤ p2 then (if gc s3 h0 = 9 then (if p2 ≤ ((20000 : Int32) - (gi s3 811 h0)) then (b2 (ex_X7_make d s3 h0 (5 : Int32) (Int32.toInt64 (gi s3 811 h0)) p2 r4) fun r16 s15 => lp_X7_newRow 20010 d s15 h0 p1 p2 r4 r16 (0 : Int32)) else (b2 (ex_X7_fail d s3 h0 (8 : Int32) p1) fun r30 s29 => some (r30, s29))) else none) else (if gc s3 h0 = 9 then (b2 (ex_X7_fail d s3 h0 (5 : Int32) p1) fun r34 s33 => some (r34, s33)) else none)) else (if gc s3 h0 = 9 then (b2 (ex_X7_make d s3 h0 (5 : Int32) (0 : Int64) (-1 : Int32) (-1 : Int32)) fun r38 s37 => some (r38, s37)) else none)))) else none)
set_option maxHeartbeats 4000000 in
set_option maxRecDepth 20000 in
theorem m_X7_newRow {l : Launch} {d : Dp} {σ σ' : Sg} {h0 : Nat} {p1 : Int32} {p2 : Int32} {r : Int32} (h : ex_X7_newRow d σ h0 p1 p2 = some (r, σ')) : Mt l d yX7_newRow cX7_newRow 6 (some .int) 1 26 σ [.ref h0, .int (p1), .int (p2)] (some (.int r)) σ' 0 0 := by
  refine mt_start (own := RX7) (lv0 := [(0, va_rf (some h0)), (1, .int (p1)), (2, .int (p2))]) (by decide) rfl (by simp only [lg_sl, List.flatMap_cons, List.flatMap_nil, va_rf_cat]; exact Nat.le_of_ble_eq_true rfl) (by first | rfl | (simp only [lv_args, va_rf_cat]; rfl)) ?_
  intro p e s m args below meth c E hnm
  unfold ex_X7_newRow at h
  obtain ⟨g1, h⟩ := ck h
  obtain ⟨r4, s3, hc2, h⟩ := nb2 h
  refine r_aload_n E (x := some h0) (i := 0) (j := 0) dX7_newRow_0 rfl rfl ?_
  refine r_iload_n E (i := 1) (j := 1) dX7_newRow_1 rfl rfl ?_
  refine r_iconst E dX7_newRow_2 (v := 0) (by decide) ?_
  refine cl_X7_101 E (m_X7_number hc2) dX7_newRow_3 ⟨Nat.le_of_ble_eq_true rfl, Nat.le_of_ble_eq_true rfl⟩ ⟨by first | decide | omega | (dsimp only; omega), by first | decide | omega | (dsimp only; omega)⟩ (by decide) rfl g1 ?_
  refine r_istore_n E (i := 3) (lv' := [(3, .int (r4)), (0, va_rf (some h0)), (1, .int (p1)), (2, .int (p2))]) dX7_newRow_6 rfl (by decide) (by first | rfl | (simp only [List.filter_cons, List.filter_nil, va_rf_cat]; rfl)) ?_
  refine r_iload_n E (i := 3) (j := 0) dX7_newRow_7 rfl rfl ?_
  refine r_if_lt E (tgt := 16) dX7_newRow_8 (by decide) (fun c5 => ?_) (fun c5 => ?_)
  · have h := ift c5 h
    obtain ⟨g6, h⟩ := ck h
    obtain ⟨r9, s8, hc7, h⟩ := nb2 h
    obtain ⟨rfl, rfl⟩ := lf2 h
    refine r_aload_n E (x := some h0) (i := 0) (j := 1) dX7_newRow_16 rfl rfl ?_
    refine r_iconst E dX7_newRow_17 (v := 5) (by decide) ?_
    refine r_lconst E dX7_newRow_18 (v := 0) (by decide) ?_
    refine r_iconst E dX7_newRow_19 (v := -1) (by decide) ?_
    refine r_iconst E dX7_newRow_20 (v := -1) (by decide) ?_
    refine cl_X7_78 E (m_X7_make hc7) dX7_newRow_21 ⟨Nat.le_of_ble_eq_true rfl, Nat.le_of_ble_eq_true rfl⟩ ⟨by first | decide | omega | (dsimp only; omega), by first | decide | omega | (dsimp only; omega)⟩ (by decide) rfl g6 ?_
    exact r_iret E dX7_newRow_24
  · have h := iff' c5 h
    refine r_iload_n E (i := 3) (j := 0) dX7_newRow_11 rfl rfl ?_
    refine r_iconst E dX7_newRow_12 (v := 2) (by decide) ?_
    refine r_icmp_le E (tgt := 25) dX7_newRow_13 (by decide) (fun c10 => ?_) (fun c10 => ?_)
    · have h := ift c10 h
      refine r_iload_n E (i := 2) (j := 3) dX7_newRow_25 rfl rfl ?_
      refine r_if_ge E (tgt := 36) dX7_newRow_26 (by decide) (fun c11 => ?_) (fun c11 => ?_)
      · have h := ift c11 h
        obtain ⟨g12, h⟩ := ck h
        refine r_iload_n E (i := 2) (j := 3) dX7_newRow_36 rfl rfl ?_
        refine r_sipush E dX7_newRow_37 (v := 20000) (by decide) ?_
        refine r_aload_n E (x := some h0) (i := 0) (j := 1) dX7_newRow_40 rfl rfl ?_
        refine gf_X7_176 E (x := gi s3 811 h0) dX7_newRow_41 rfl g12 rfl ?_
        refine r_isub E dX7_newRow_44 ?_
        refine r_icmp_le E (tgt := 56) dX7_newRow_45 (by decide) (fun c13 => ?_) (fun c13 => ?_)
        · have h := ift c13 h
          obtain ⟨r16, s15, hc14, h⟩ := nb2 h
          refine r_aload_n E (x := some h0) (i := 0) (j := 1) dX7_newRow_56 rfl rfl ?_
          refine r_iconst E dX7_newRow_57 (v := 5) (by decide) ?_
          refine r_aload_n E (x := some h0) (i := 0) (j := 1) dX7_newRow_58 rfl rfl ?_
          refine gf_X7_176 E (x := gi s3 811 h0) dX7_newRow_59 rfl g12 rfl ?_
          refine r_i2l E dX7_newRow_62 ?_
          refine r_iload_n E (i := 2) (j := 3) dX7_newRow_63 rfl rfl ?_
          refine r_iload_n E (i := 3) (j := 0) dX7_newRow_64 rfl rfl ?_
          refine cl_X7_78 E (m_X7_make hc14) dX7_newRow_65 ⟨Nat.le_of_ble_eq_true rfl, Nat.le_of_ble_eq_true rfl⟩ ⟨by first | decide | omega | (dsimp only; omega), by first | decide | omega | (dsimp only; omega)⟩ (by decide) rfl g12 ?_
          refine r_istore E (lv' := [(4, .int (r16)), (3, .int (r4)), (0, va_rf (some h0)), (1, .int (p1)), (2, .int (p2))]) dX7_newRow_68 (by decide) (by first | rfl | (simp only [List.filter_cons, List.filter_nil, va_rf_cat]; rfl)) ?_
          refine r_iconst E dX7_newRow_70 (v := 0) (by decide) ?_
          refine r_istore E (lv' := [(5, .int ((0 : Int32))), (4, .int (r16)), (3, .int (r4)), (0, va_rf (some h0)), (1, .int (p1)), (2, .int (p2))]) dX7_newRow_71 (by decide) (by first | rfl | (simp only [List.filter_cons, List.filter_nil, va_rf_cat]; rfl)) ?_
          refine r_sub [3, 4, 5, 2, 1, 0] (lv' := [(0, va_rf (some h0)), (1, .int (p1)), (2, .int (p2)), (3, .int (r4)), (4, .int (r16)), (5, .int ((0 : Int32)))]) rfl ?_
          exact wlp_X7_newRow E _ _ _ _ _ _ _ _ h
        · have h := iff' c13 h
          obtain ⟨r30, s29, hc28, h⟩ := nb2 h
          obtain ⟨rfl, rfl⟩ := lf2 h
          refine r_aload_n E (x := some h0) (i := 0) (j := 1) dX7_newRow_48 rfl rfl ?_
          refine r_bipush E dX7_newRow_49 (v := 8) (by decide) ?_
          refine r_iload_n E (i := 1) (j := 2) dX7_newRow_51 rfl rfl ?_
          refine cl_X7_88 E (m_X7_fail hc28) dX7_newRow_52 ⟨Nat.le_of_ble_eq_true rfl, Nat.le_of_ble_eq_true rfl⟩ ⟨by first | decide | omega | (dsimp only; omega), by first | decide | omega | (dsimp only; omega)⟩ (by decide) rfl g12 ?_
          exact r_iret E dX7_newRow_55
      · have h := iff' c11 h
        obtain ⟨g31, h⟩ := ck h
        obtain ⟨r34, s33, hc32, h⟩ := nb2 h
        obtain ⟨rfl, rfl⟩ := lf2 h
        refine r_aload_n E (x := some h0) (i := 0) (j := 1) dX7_newRow_29 rfl rfl ?_
        refine r_iconst E dX7_newRow_30 (v := 5) (by decide) ?_
        refine r_iload_n E (i := 1) (j := 2) dX7_newRow_31 rfl rfl ?_
        refine cl_X7_88 E (m_X7_fail hc32) dX7_newRow_32 ⟨Nat.le_of_ble_eq_true rfl, Nat.le_of_ble_eq_true rfl⟩ ⟨by first | decide | omega | (dsimp only; omega), by first | decide | omega | (dsimp only; omega)⟩ (by decide) rfl g31 ?_
        exact r_iret E dX7_newRow_35
    · have h := iff' c10 h
      obtain ⟨g35, h⟩ := ck h
      obtain ⟨r38, s37, hc36, h⟩ := nb2 h
      obtain ⟨rfl, rfl⟩ := lf2 h
      refine r_aload_n E (x := some h0) (i := 0) (j := 1) dX7_newRow_16 rfl rfl ?_
      refine r_iconst E dX7_newRow_17 (v := 5) (by decide) ?_
      refine r_lconst E dX7_newRow_18 (v := 0) (by decide) ?_
      refine r_iconst E dX7_newRow_19 (v := -1) (by decide) ?_
      refine r_iconst E dX7_newRow_20 (v := -1) (by decide) ?_
      refine cl_X7_78 E (m_X7_make hc36) dX7_newRow_21 ⟨Nat.le_of_ble_eq_true rfl, Nat.le_of_ble_eq_true rfl⟩ ⟨by first | decide | omega | (dsimp only; omega), by first | decide | omega | (dsimp only; omega)⟩ (by decide) rfl g35 ?_
      exact r_iret E dX7_newRow_24
