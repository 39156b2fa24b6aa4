def ex_X7_is (d : Dp) (σ : Sg) (h0 : Nat) (p1 : Int32) (p2 : Int32) (p3 : Int32) : Option (Int32 × Sg) := (if p2 = (-1 : Int32) then (if p2 = (-1 : Int32) then (if gc σ h0 = 9 then (b2 (ex_X7_fail d σ h0 (1 : Int32) p1) fun r10 s9 => some ((0 : Int32), s9)) else none) else (if gc σ h0 = 9 then (b2 (ex_X7_fail d σ h0 (3 : Int32) p1) fun r6 s5 => some ((0 : Int32), s5)) else none)) else (if gc σ h0 = 9 then (Option.bind (gp σ 805 h0) fun a12 => (if gc σ a12 = 10 then (if ¬ (p2 < 0 ∨ gl σ a12 ≤ Int32.toNatClampNeg p2) then (if (ai σ a12 (Int32.toNatClampNeg p2)) = p3 then some ((1 : Int32), σ) else (if p3 = (2 : Int32) then (if ¬ (p2 < 0 ∨ gl σ a12 ≤ Int32.toNatClampNeg p2) then (if (ai σ a12 (Int32.toNatClampNeg p2)) = (3 : Int32) then some ((1 : Int32), σ) else (if p2 = (-1 : Int32) then (b2 (ex_X7_fail d σ h0 (1 : Int32) p1) fun r33 s32 => some ((0 : Int32), s32)) else (b2 (ex_X7_fail d σ h0 (3 : Int32) p1) fun r30 s29 => some ((0 : Int32), s29)))) else none) else (if p2 = (-1 : Int32) then (b2 (ex_X7_fail d σ h0 (1 : Int32) p1) fun r24 s23 => some ((0 : Int32), s23)) else (b2 (ex_X7_fail d σ h0 (3 : Int32) p1) fun r21 s20 => some ((0 : Int32), s20))))) else none) else none)) else none))
set_option maxHeartbeats 4000000 in
set_option maxRecDepth 20000 in
theorem m_X7_is {l : Launch} {d : Dp} {σ σ' : Sg} {h0 : Nat} {p1 : Int32} {p2 : Int32} {p3 : Int32} {r : Int32} (h : ex_X7_is d σ h0 p1 p2 p3 = some (r, σ')) : Mt l d yX7_is cX7_is 4 (some .boolean) 1 22 σ [.ref h0, .int (p1), .int (p2), .int (p3)] (some (.int r)) σ' 0 0 := by
  refine mt_start (own := RX7) (lv0 := [(0, va_rf (some h0)), (1, .int (p1)), (2, .int (p2)), (3, .int (p3))]) (by decide) rfl (by simp only [lg_sl, List.flatMap_cons, List.flatMap_nil, va_rf_cat]; exact Nat.le_of_ble_eq_true rfl) (by first | rfl | (simp only [lv_args, va_rf_cat]; rfl)) ?_
  intro p e s m args below meth c E hnm
  unfold ex_X7_is at h
  refine r_iload_n E (i := 2) (j := 2) dX7_is_0 rfl rfl ?_
  refine r_iconst E dX7_is_1 (v := -1) (by decide) ?_
  refine r_icmp_eq E (tgt := 32) dX7_is_2 (by decide) (fun c1 => ?_) (fun c1 => ?_)
  · have h := ift c1 h
    refine r_aload_n E (x := some h0) (i := 0) (j := 0) dX7_is_32 rfl rfl ?_
    refine r_iload_n E (i := 2) (j := 2) dX7_is_33 rfl rfl ?_
    refine r_iconst E dX7_is_34 (v := -1) (by decide) ?_
    refine r_icmp_ne E (tgt := 42) dX7_is_35 (by decide) (fun c2 => ?_) (fun c2 => ?_)
    · have h := iff' c2 h
      obtain ⟨g3, h⟩ := ck h
      obtain ⟨r6, s5, hc4, h⟩ := nb2 h
      obtain ⟨rfl, rfl⟩ := lf2 h
      refine r_iconst E dX7_is_42 (v := 3) (by decide) ?_
      refine r_iload_n E (i := 1) (j := 1) dX7_is_43 rfl rfl ?_
      refine cl_X7_88 E (m_X7_fail hc4) dX7_is_44 ⟨Nat.le_of_ble_eq_true rfl, Nat.le_of_ble_eq_true rfl⟩ ⟨by first | decide | omega | (dsimp only; omega), by first | decide | omega | (dsimp only; omega)⟩ (by decide) rfl g3 ?_
      refine r_pop E dX7_is_47 rfl ?_
      refine r_iconst E dX7_is_48 (v := 0) (by decide) ?_
      exact r_zret E dX7_is_49 (by decide)
    · have h := ift c2 h
      obtain ⟨g7, h⟩ := ck h
      obtain ⟨r10, s9, hc8, h⟩ := nb2 h
      obtain ⟨rfl, rfl⟩ := lf2 h
      refine r_iconst E dX7_is_38 (v := 1) (by decide) ?_
      refine r_goto E (tgt := 43) dX7_is_39 (by decide) ?_
      refine r_iload_n E (i := 1) (j := 1) dX7_is_43 rfl rfl ?_
      refine cl_X7_88 E (m_X7_fail hc8) dX7_is_44 ⟨Nat.le_of_ble_eq_true rfl, Nat.le_of_ble_eq_true rfl⟩ ⟨by first | decide | omega | (dsimp only; omega), by first | decide | omega | (dsimp only; omega)⟩ (by decide) rfl g7 ?_
      refine r_pop E dX7_is_47 rfl ?_
      refine r_iconst E dX7_is_48 (v := 0) (by decide) ?_
      exact r_zret E dX7_is_49 (by decide)
  · have h := iff' c1 h
    obtain ⟨g11, h⟩ := ck h
    obtain ⟨a12, e13, h⟩ := nn h
    obtain ⟨g14, h⟩ := ck h
    obtain ⟨g15, h⟩ := ck h
    refine r_aload_n E (x := some h0) (i := 0) (j := 0) dX7_is_5 rfl rfl ?_
    refine gf_X7_24 E (x := gp σ 805 h0) dX7_is_6 rfl g11 rfl ?_
    refine r_iload_n E (i := 2) (j := 2) dX7_is_9 rfl rfl ?_
    refine r_iald E dX7_is_10 e13 g14 g15 ?_
    refine r_iload_n E (i := 3) (j := 3) dX7_is_11 rfl rfl ?_
    refine r_icmp_eq E (tgt := 30) dX7_is_12 (by decide) (fun c16 => ?_) (fun c16 => ?_)
    · have h := ift c16 h
      obtain ⟨rfl, rfl⟩ := lf2 h
      refine r_iconst E dX7_is_30 (v := 1) (by decide) ?_
      exact r_zret E dX7_is_31 (by decide)
    · have h := iff' c16 h
      refine r_iload_n E (i := 3) (j := 3) dX7_is_15 rfl rfl ?_
      refine r_iconst E dX7_is_16 (v := 2) (by decide) ?_
      refine r_icmp_ne E (tgt := 32) dX7_is_17 (by decide) (fun c17 => ?_) (fun c17 => ?_)
      · have h := iff' c17 h
        refine r_aload_n E (x := some h0) (i := 0) (j := 0) dX7_is_32 rfl rfl ?_
        refine r_iload_n E (i := 2) (j := 2) dX7_is_33 rfl rfl ?_
        refine r_iconst E dX7_is_34 (v := -1) (by decide) ?_
        refine r_icmp_ne E (tgt := 42) dX7_is_35 (by decide) (fun c18 => ?_) (fun c18 => ?_)
        · have h := iff' c18 h
          obtain ⟨r21, s20, hc19, h⟩ := nb2 h
          obtain ⟨rfl, rfl⟩ := lf2 h
          refine r_iconst E dX7_is_42 (v := 3) (by decide) ?_
          refine r_iload_n E (i := 1) (j := 1) dX7_is_43 rfl rfl ?_
          refine cl_X7_88 E (m_X7_fail hc19) dX7_is_44 ⟨Nat.le_of_ble_eq_true rfl, Nat.le_of_ble_eq_true rfl⟩ ⟨by first | decide | omega | (dsimp only; omega), by first | decide | omega | (dsimp only; omega)⟩ (by decide) rfl g11 ?_
          refine r_pop E dX7_is_47 rfl ?_
          refine r_iconst E dX7_is_48 (v := 0) (by decide) ?_
          exact r_zret E dX7_is_49 (by decide)
        · have h := ift c18 h
          obtain ⟨r24, s23, hc22, h⟩ := nb2 h
          obtain ⟨rfl, rfl⟩ := lf2 h
          refine r_iconst E dX7_is_38 (v := 1) (by decide) ?_
          refine r_goto E (tgt := 43) dX7_is_39 (by decide) ?_
          refine r_iload_n E (i := 1) (j := 1) dX7_is_43 rfl rfl ?_
          refine cl_X7_88 E (m_X7_fail hc22) dX7_is_44 ⟨Nat.le_of_ble_eq_true rfl, Nat.le_of_ble_eq_true rfl⟩ ⟨by first | decide | omega | (dsimp only; omega), by first | decide | omega | (dsimp only; omega)⟩ (by decide) rfl g11 ?_
          refine r_pop E dX7_is_47 rfl ?_
          refine r_iconst E dX7_is_48 (v := 0) (by decide) ?_
          exact r_zret E dX7_is_49 (by decide)
      · have h := ift c17 h
        obtain ⟨g25, h⟩ := ck h
        refine r_aload_n E (x := some h0) (i := 0) (j := 0) dX7_is_20 rfl rfl ?_
        refine gf_X7_24 E (x := gp σ 805 h0) dX7_is_21 rfl g11 rfl ?_
        refine r_iload_n E (i := 2) (j := 2) dX7_is_24 rfl rfl ?_
        refine r_iald E dX7_is_25 e13 g14 g25 ?_
        refine r_iconst E dX7_is_26 (v := 3) (by decide) ?_
        refine r_icmp_ne E (tgt := 32) dX7_is_27 (by decide) (fun c26 => ?_) (fun c26 => ?_)
        · have h := iff' c26 h
          refine r_aload_n E (x := some h0) (i := 0) (j := 0) dX7_is_32 rfl rfl ?_
          refine r_iload_n E (i := 2) (j := 2) dX7_is_33 rfl rfl ?_
          refine r_iconst E dX7_is_34 (v := -1) (by decide) ?_
          refine r_icmp_ne E (tgt := 42) dX7_is_35 (by decide) (fun c27 => ?_) (fun c27 => ?_)
          · have h := iff' c27 h
            obtain ⟨r30, s29, hc28, h⟩ := nb2 h
            obtain ⟨rfl, rfl⟩ := lf2 h
            refine r_iconst E dX7_is_42 (v := 3) (by decide) ?_
            refine r_iload_n E (i := 1) (j := 1) dX7_is_43 rfl rfl ?_
            refine cl_X7_88 E (m_X7_fail hc28) dX7_is_44 ⟨Nat.le_of_ble_eq_true rfl, Nat.le_of_ble_eq_true rfl⟩ ⟨by first | decide | omega | (dsimp only; omega), by first | decide | omega | (dsimp only; omega)⟩ (by decide) rfl g11 ?_
            refine r_pop E dX7_is_47 rfl ?_
            refine r_iconst E dX7_is_48 (v := 0) (by decide) ?_
            exact r_zret E dX7_is_49 (by decide)
          · have h := ift c27 h
            obtain ⟨r33, s32, hc31, h⟩ := nb2 h
            obtain ⟨rfl, rfl⟩ := lf2 h
            refine r_iconst E dX7_is_38 (v := 1) (by decide) ?_
            refine r_goto E (tgt := 43) dX7_is_39 (by decide) ?_
            refine r_iload_n E (i := 1) (j := 1) dX7_is_43 rfl rfl ?_
            refine cl_X7_88 E (m_X7_fail hc31) dX7_is_44 ⟨Nat.le_of_ble_eq_true rfl, Nat.le_of_ble_eq_true rfl⟩ ⟨by first | decide | omega | (dsimp only; omega), by first | decide | omega | (dsimp only; omega)⟩ (by decide) rfl g11 ?_
            refine r_pop E dX7_is_47 rfl ?_
            refine r_iconst E dX7_is_48 (v := 0) (by decide) ?_
            exact r_zret E dX7_is_49 (by decide)
        · have h := ift c26 h
          obtain ⟨rfl, rfl⟩ := lf2 h
          refine r_iconst E dX7_is_30 (v := 1) (by decide) ?_
          exact r_zret E dX7_is_31 (by decide)
def lp_X7_enter : Nat → Dp → Sg → Nat → Int32 → Int32 → Option (Unit × Sg)
  | 0, _, _, _, _, _ => none
  | f + 1, d, σ, h0, v1, v2 => (if (3 : Int32) ≤ v2 then some ((), σ) else (if gc σ h0 = 9 then (Option.bind (gp σ 816 h0) fun a28 => (if gc σ a28 = 10 then (if ¬ (((((3 : Int32) * (gi σ 818 h0)) - (3 : Int32)) + v2) < 0 ∨ gl σ a28 ≤ Int32.toNatClampNeg ((((3 : Int32) * (gi σ 818 h0)) - (3 : Int32)) + v2)) then (bn (wi σ a28 (Int32.toNatClampNeg ((((3 : Int32) * (gi σ 818 h0)) - (3 : Int32)) + v2)) (-1 : Int32)) fun s32 => lp_X7_enter f d s32 h0 v1 (v2 + 1)) else none) else none)) else none))
set_option maxHeartbeats 4000000 in
set_option maxRecDepth 20000 in
theorem wlp_X7_enter {p : Program} {l : Launch} {e : Env} {s : State} {m : MethodId} {args : Array Value} {below : List Frame} {meth : Method} {c : Code} {d : Dp} {σ0 σ' : Sg} {r : Unit} (E : Ev p s m args meth c RX7 cX7_enter 3 none d (AA σ0)) : ∀ (f : Nat) (σ : Sg) (h0 : Nat) (v1 : Int32) (v2 : Int32), lp_X7_enter f d σ h0 v1 v2 = some (r, σ') → Gk p l e { frames := 1, cells := 0, slots := 0, locals := 22 } s m args below meth c d (AA σ0) (MQ below (QQ d σ0 none σ') args s 0 0 (AA σ0)) 3 σ 0 0 84 [(0, va_rf (some h0)), (1, .int (v1)), (2, .int (v2))] [] := by
  intro f
  induction f with
  | zero => intro _ _ _ _ h; cases h
  | succ f ih =>
    intro σ h0 v1 v2 h
    unfold lp_X7_enter at h
    refine r_iload_n E (i := 2) (j := 2) dX7_enter_84 rfl rfl ?_
    refine r_iconst E dX7_enter_85 (v := 3) (by decide) ?_
    refine r_icmp_ge E (tgt := 111) dX7_enter_86 (by decide) (fun c26 => ?_) (fun c26 => ?_)
    · have h := ift c26 h
      obtain ⟨rfl, rfl⟩ := lf2 h
      exact r_vret E dX7_enter_111
    · have h := iff' c26 h
      obtain ⟨g27, h⟩ := ck h
      obtain ⟨a28, e29, h⟩ := nn h
      obtain ⟨g30, h⟩ := ck h
      obtain ⟨g31, h⟩ := ck h
      obtain ⟨s32, e33, h⟩ := nbn h
      refine r_aload_n E (x := some h0) (i := 0) (j := 0) dX7_enter_89 rfl rfl ?_
      refine gf_X7_52 E (x := gp σ 816 h0) dX7_enter_90 rfl g27 rfl ?_
      refine r_iconst E dX7_enter_93 (v := 3) (by decide) ?_
      refine r_aload_n E (x := some h0) (i := 0) (j := 0) dX7_enter_94 rfl rfl ?_
      refine gf_X7_98 E (x := gi σ 818 h0) dX7_enter_95 rfl g27 rfl ?_
      refine r_imul E dX7_enter_98 ?_
      refine r_iconst E dX7_enter_99 (v := 3) (by decide) ?_
      refine r_isub E dX7_enter_100 ?_
      refine r_iload_n E (i := 2) (j := 2) dX7_enter_101 rfl rfl ?_
      refine r_iadd E dX7_enter_102 ?_
      refine r_iconst E dX7_enter_103 (v := -1) (by decide) ?_
      refine r_iast E dX7_enter_104 e29 g30 g31 ?_
      refine r_nm e33 ?_
      refine r_iinc E (j := 2) (v := v2 + 1) (lv' := [(2, .int (v2 + 1)), (0, va_rf (some h0)), (1, .int (v1))]) dX7_enter_105 rfl rfl (by decide) (by first | rfl | (simp only [List.filter_cons, List.filter_nil, va_rf_cat]; rfl)) ?_
      refine r_goto E (tgt := 84) dX7_enter_108 (by decide) ?_
      refine r_sub [1, 2, 0] (lv' := [(0, va_rf (some h0)), (1, .int (v1)), (2, .int (v2 + 1))]) rfl ?_
      exact ih _ _ _ _ h
def ex_X7_enter (d : Dp) (σ : Sg) (h0 : Nat) (p1 : Int32) : Option (Unit × Sg) := (if gc σ h0 = 9 then (if (gi σ 822 h0) = (0 : Int32) then (bn (si σ 820 h0 (-1 : Int32)) fun s37 => some ((), s37)) else (bn (si σ 822 h0 ((gi σ 822 h0) - (1 : Int32))) fun s3 => (if gc s3 h0 = 9 then (bn (si s3 823 h0 ((gi s3 823 h0) + (1 : Int32))) fun s6 => (if gc s6 h0 = 9 then (if (gi s6 818 h0) = (200 : Int32) then (b2 (ex_X7_fail d s6 h0 (7 : Int32) p1) fun r36 s35 => some ((), s35)) else (bn (si s6 818 h0 ((gi s6 818 h0) + (1 : Int32))) fun s10 => (if gc s10 h0 = 9 then (Option.bind (gp s10 814 h0) fun a13 => (if gc s10 a13 = 10 then (if ¬ ((gi s10 818 h0) < 0 ∨ gl s10 a13 ≤ Int32.toNatClampNeg (gi s10 818 h0)) then (bn (wi s10 a13 (Int32.toNatClampNeg (gi s10 818 h0)) p1) fun s17 => (if gc s17 h0 = 9 then (Option.bind (gp s17 815 h0) fun a20 => (if gc s17 a20 = 10 then (if ¬ ((gi s17 818 h0) < 0 ∨ gl s17 a20 ≤ Int32.toNatClampNeg (gi s17 818 h0)) then (bn (wi s17 a20 (Int32.toNatClampNeg (gi s17 818 h0)) (0 : Int32)) fun s24 => lp_X7_enter 300 d s24 h0 p1 (0 : Int32)) else none) else none)) else none)) else none) else none)) else none))) else none)) else none))) else none)
set_option maxHeartbeats 4000000 in
set_option maxRecDepth 20000 in
theorem m_X7_enter {l : Launch} {d : Dp} {σ σ' : Sg} {h0 : Nat} {p1 : Int32} {r : Unit} (h : ex_X7_enter d σ h0 p1 = some (r, σ')) : Mt l d yX7_enter cX7_enter 3 none 1 22 σ [.ref h0, .int (p1)] none σ' 0 0 := by
  refine mt_start (own := RX7) (lv0 := [(0, va_rf (some h0)), (1, .int (p1))]) (by decide) rfl (by simp only [lg_sl, List.flatMap_cons, List.flatMap_nil, va_rf_cat]; exact Nat.le_of_ble_eq_true rfl) (by first | rfl | (simp only [lv_args, va_rf_cat]; rfl)) ?_
  intro p e s m args below meth c E hnm
  unfold ex_X7_enter at h
  obtain ⟨g1, h⟩ := ck h
  refine r_aload_n E (x := some h0) (i := 0) (j := 0) dX7_enter_0 rfl rfl ?_
  refine gf_X7_92 E (x := gi σ 822 h0) dX7_enter_1 rfl g1 rfl ?_
  refine r_if_ne E (tgt := 13) dX7_enter_4 (by decide) (fun c2 => ?_) (fun c2 => ?_)
  · have h := iff' c2 h
    obtain ⟨s3, e4, h⟩ := nbn h
    obtain ⟨g5, h⟩ := ck h
    obtain ⟨s6, e7, h⟩ := nbn h
    obtain ⟨g8, h⟩ := ck h
    refine r_aload_n E (x := some h0) (i := 0) (j := 0) dX7_enter_13 rfl rfl ?_
    refine r_dup E dX7_enter_14 (va_rf_cat _) ?_
    refine gf_X7_92 E (x := gi σ 822 h0) dX7_enter_15 rfl g1 rfl ?_
    refine r_iconst E dX7_enter_18 (v := 1) (by decide) ?_
    refine r_isub E dX7_enter_19 ?_
    refine pf_X7_92 E dX7_enter_20 rfl g1 ?_
    refine r_nm e4 ?_
    refine r_aload_n E (x := some h0) (i := 0) (j := 0) dX7_enter_23 rfl rfl ?_
    refine r_dup E dX7_enter_24 (va_rf_cat _) ?_
    refine gf_X7_95 E (x := gi s3 823 h0) dX7_enter_25 rfl g5 rfl ?_
    refine r_iconst E dX7_enter_28 (v := 1) (by decide) ?_
    refine r_iadd E dX7_enter_29 ?_
    refine pf_X7_95 E dX7_enter_30 rfl g5 ?_
    refine r_nm e7 ?_
    refine r_aload_n E (x := some h0) (i := 0) (j := 0) dX7_enter_33 rfl rfl ?_
    refine gf_X7_98 E (x := gi s6 818 h0) dX7_enter_34 rfl g8 rfl ?_
    refine r_sipush E dX7_enter_37 (v := 200) (by decide) ?_
    refine r_icmp_ne E (tgt := 52) dX7_enter_40 (by decide) (fun c9 => ?_) (fun c9 => ?_)
    · have h := iff' c9 h
      obtain ⟨s10, e11, h⟩ := nbn h
      obtain ⟨g12, h⟩ := ck h
      obtain ⟨a13, e14, h⟩ := nn h
      obtain ⟨g15, h⟩ := ck h
      obtain ⟨g16, h⟩ := ck h
      obtain ⟨s17, e18, h⟩ := nbn h
      obtain ⟨g19, h⟩ := ck h
      obtain ⟨a20, e21, h⟩ := nn h
      obtain ⟨g22, h⟩ := ck h
      obtain ⟨g23, h⟩ := ck h
      obtain ⟨s24, e25, h⟩ := nbn h
      refine r_aload_n E (x := some h0) (i := 0) (j := 0) dX7_enter_52 rfl rfl ?_
      refine r_dup E dX7_enter_53 (va_rf_cat _) ?_
      refine gf_X7_98 E (x := gi s6 818 h0) dX7_enter_54 rfl g8 rfl ?_
      refine r_iconst E dX7_enter_57 (v := 1) (by decide) ?_
      refine r_iadd E dX7_enter_58 ?_
      refine pf_X7_98 E dX7_enter_59 rfl g8 ?_
      refine r_nm e11 ?_
      refine r_aload_n E (x := some h0) (i := 0) (j := 0) dX7_enter_62 rfl rfl ?_
      refine gf_X7_46 E (x := gp s10 814 h0) dX7_enter_63 rfl g12 rfl ?_
      refine r_aload_n E (x := some h0) (i := 0) (j := 0) dX7_enter_66 rfl rfl ?_
      refine gf_X7_98 E (x := gi s10 818 h0) dX7_enter_67 rfl g12 rfl ?_
      refine r_iload_n E (i := 1) (j := 1) dX7_enter_70 rfl rfl ?_
      refine r_iast E dX7_enter_71 e14 g15 g16 ?_
      refine r_nm e18 ?_
      refine r_aload_n E (x := some h0) (i := 0) (j := 0) dX7_enter_72 rfl rfl ?_
      refine gf_X7_49 E (x := gp s17 815 h0) dX7_enter_73 rfl g19 rfl ?_
      refine r_aload_n E (x := some h0) (i := 0) (j := 0) dX7_enter_76 rfl rfl ?_
      refine gf_X7_98 E (x := gi s17 818 h0) dX7_enter_77 rfl g19 rfl ?_
      refine r_iconst E dX7_enter_80 (v := 0) (by decide) ?_
      refine r_iast E dX7_enter_81 e21 g22 g23 ?_
      refine r_nm e25 ?_
      refine r_iconst E dX7_enter_82 (v := 0) (by decide) ?_
      refine r_istore_n E (i := 2) (lv' := [(2, .int ((0 : Int32))), (0, va_rf (some h0)), (1, .int (p1))]) dX7_enter_83 rfl (by decide) (by first | rfl | (simp only [List.filter_cons, List.filter_nil, va_rf_cat]; rfl)) ?_
      refine r_sub [1, 2, 0] (lv' := [(0, va_rf (some h0)), (1, .int (p1)), (2, .int ((0 : Int32)))]) rfl ?_
      exact wlp_X7_enter E _ _ _ _ _ h
    · have h := ift c9 h
      obtain ⟨r36, s35, hc34, h⟩ := nb2 h
      obtain ⟨rfl, rfl⟩ := lf2 h
      refine r_aload_n E (x := some h0) (i := 0) (j := 0) dX7_enter_43 rfl rfl ?_
      refine r_bipush E dX7_enter_44 (v := 7) (by decide) ?_
      refine r_iload_n E (i := 1) (j := 1) dX7_enter_46 rfl rfl ?_
      refine cl_X7_88 E (m_X7_fail hc34) dX7_enter_47 ⟨Nat.le_of_ble_eq_true rfl, Nat.le_of_ble_eq_true rfl⟩ ⟨by first | decide | omega | (dsimp only; omega), by first | decide | omega | (dsimp only; omega)⟩ (by decide) rfl g8 ?_
      refine r_pop E dX7_enter_50 rfl ?_
      exact r_vret E dX7_enter_51
  · have h := ift c2 h
    obtain ⟨s37, e38, h⟩ := nbn h
    obtain ⟨rfl, rfl⟩ := lf2 h
    refine r_aload_n E (x := some h0) (i := 0) (j := 0) dX7_enter_7 rfl rfl ?_
    refine r_iconst E dX7_enter_8 (v := -1) (by decide) ?_
    refine pf_X7_82 E dX7_enter_9 rfl g1 ?_
    refine r_nm e38 ?_
    exact r_vret E dX7_enter_12
