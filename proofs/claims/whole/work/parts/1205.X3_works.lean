def ex_X3_works (d : Dp) (σ : Sg) (h0 : Nat) (p1 : Int32) : Option (Int32 × Sg) := (if gc σ h0 = 5 then (if (gi σ 401 h0) = 2 ∨ (gi σ 401 h0) = 11 then (if p1 = (1 : Int32) then some ((1 : Int32), σ) else some ((0 : Int32), σ)) else (if (gi σ 401 h0) = 3 ∨ (gi σ 401 h0) = 4 ∨ (gi σ 401 h0) = 13 ∨ (gi σ 401 h0) = 18 ∨ (gi σ 401 h0) = 20 then (if p1 = (0 : Int32) then some ((1 : Int32), σ) else (if p1 = (1 : Int32) then some ((1 : Int32), σ) else some ((0 : Int32), σ))) else (if (gi σ 401 h0) = 5 ∨ (gi σ 401 h0) = 6 ∨ (gi σ 401 h0) = 8 ∨ (gi σ 401 h0) = 9 ∨ (gi σ 401 h0) = 14 ∨ (gi σ 401 h0) = 16 ∨ (gi σ 401 h0) = 17 then (if p1 = (0 : Int32) then some ((1 : Int32), σ) else some ((0 : Int32), σ)) else (if (gi σ 401 h0) = 7 ∨ (gi σ 401 h0) = 10 ∨ (gi σ 401 h0) = 15 then (if p1 = (0 : Int32) then some ((1 : Int32), σ) else (if p1 = (2 : Int32) then some ((1 : Int32), σ) else some ((0 : Int32), σ))) else (if (gi σ 401 h0) = 12 ∨ (gi σ 401 h0) = 19 then some ((1 : Int32), σ) else some ((0 : Int32), σ)))))) else none)
set_option maxHeartbeats 4000000 in
set_option maxRecDepth 20000 in
theorem m_X3_works {l : Launch} {d : Dp} {σ σ' : Sg} {h0 : Nat} {p1 : Int32} {r : Int32} (h : ex_X3_works d σ h0 p1 = some (r, σ')) : Mt l d yX3_works cX3_works 2 (some .boolean) 0 0 σ [.ref h0, .int (p1)] (some (.int r)) σ' 0 0 := by
  refine mt_start (own := RX3) (lv0 := [(0, va_rf (some h0)), (1, .int (p1))]) (by decide) rfl (by simp only [lg_sl, List.flatMap_cons, List.flatMap_nil, va_rf_cat]; exact Nat.le_of_ble_eq_true rfl) (by first | rfl | (simp only [lv_args, va_rf_cat]; rfl)) ?_
  intro p e s m args below meth c E hnm
  unfold ex_X3_works at h
  obtain ⟨g1, h⟩ := ck h
  refine r_aload_n E (x := some h0) (i := 0) (j := 0) dX3_works_0 rfl rfl ?_
  refine gf_X3_24 E (x := gi σ 401 h0) dX3_works_1 rfl g1 rfl ?_
  by_cases c2 : (gi σ 401 h0) = 2 ∨ (gi σ 401 h0) = 11
  · have h := ift c2 h
    refine r_tab E (off := 102) (tgt := 106) dX3_works_4 (by rcases c2 with q | q <;> (rw [q]; decide)) (fun w1 w2 => by show _ < 19; omega) (by decide) ?_
    refine r_iload_n E (i := 1) (j := 1) dX3_works_106 rfl rfl ?_
    refine r_iconst E dX3_works_107 (v := 1) (by decide) ?_
    refine r_icmp_ne E (tgt := 115) dX3_works_108 (by decide) (fun c3 => ?_) (fun c3 => ?_)
    · have h := iff' c3 h
      obtain ⟨rfl, rfl⟩ := lf2 h
      refine r_iconst E dX3_works_115 (v := 0) (by decide) ?_
      exact r_zret E dX3_works_116 (by decide)
    · have h := ift c3 h
      obtain ⟨rfl, rfl⟩ := lf2 h
      refine r_iconst E dX3_works_111 (v := 1) (by decide) ?_
      refine r_goto E (tgt := 116) dX3_works_112 (by decide) ?_
      exact r_zret E dX3_works_116 (by decide)
  · have h := iff' c2 h
    by_cases c4 : (gi σ 401 h0) = 3 ∨ (gi σ 401 h0) = 4 ∨ (gi σ 401 h0) = 13 ∨ (gi σ 401 h0) = 18 ∨ (gi σ 401 h0) = 20
    · have h := ift c4 h
      refine r_tab E (off := 113) (tgt := 117) dX3_works_4 (by rcases c4 with q | q | q | q | q <;> (rw [q]; decide)) (fun w1 w2 => by show _ < 19; omega) (by decide) ?_
      refine r_iload_n E (i := 1) (j := 1) dX3_works_117 rfl rfl ?_
      refine r_if_eq E (tgt := 126) dX3_works_118 (by decide) (fun c5 => ?_) (fun c5 => ?_)
      · have h := ift c5 h
        obtain ⟨rfl, rfl⟩ := lf2 h
        refine r_iconst E dX3_works_126 (v := 1) (by decide) ?_
        refine r_goto E (tgt := 131) dX3_works_127 (by decide) ?_
        exact r_zret E dX3_works_131 (by decide)
      · have h := iff' c5 h
        refine r_iload_n E (i := 1) (j := 1) dX3_works_121 rfl rfl ?_
        refine r_iconst E dX3_works_122 (v := 1) (by decide) ?_
        refine r_icmp_ne E (tgt := 130) dX3_works_123 (by decide) (fun c6 => ?_) (fun c6 => ?_)
        · have h := iff' c6 h
          obtain ⟨rfl, rfl⟩ := lf2 h
          refine r_iconst E dX3_works_130 (v := 0) (by decide) ?_
          exact r_zret E dX3_works_131 (by decide)
        · have h := ift c6 h
          obtain ⟨rfl, rfl⟩ := lf2 h
          refine r_iconst E dX3_works_126 (v := 1) (by decide) ?_
          refine r_goto E (tgt := 131) dX3_works_127 (by decide) ?_
          exact r_zret E dX3_works_131 (by decide)
    · have h := iff' c4 h
      by_cases c7 : (gi σ 401 h0) = 5 ∨ (gi σ 401 h0) = 6 ∨ (gi σ 401 h0) = 8 ∨ (gi σ 401 h0) = 9 ∨ (gi σ 401 h0) = 14 ∨ (gi σ 401 h0) = 16 ∨ (gi σ 401 h0) = 17
      · have h := ift c7 h
        refine r_tab E (off := 92) (tgt := 96) dX3_works_4 (by rcases c7 with q | q | q | q | q | q | q <;> (rw [q]; decide)) (fun w1 w2 => by show _ < 19; omega) (by decide) ?_
        refine r_iload_n E (i := 1) (j := 1) dX3_works_96 rfl rfl ?_
        refine r_if_ne E (tgt := 104) dX3_works_97 (by decide) (fun c8 => ?_) (fun c8 => ?_)
        · have h := iff' c8 h
          obtain ⟨rfl, rfl⟩ := lf2 h
          refine r_iconst E dX3_works_104 (v := 0) (by decide) ?_
          exact r_zret E dX3_works_105 (by decide)
        · have h := ift c8 h
          obtain ⟨rfl, rfl⟩ := lf2 h
          refine r_iconst E dX3_works_100 (v := 1) (by decide) ?_
          refine r_goto E (tgt := 105) dX3_works_101 (by decide) ?_
          exact r_zret E dX3_works_105 (by decide)
      · have h := iff' c7 h
        by_cases c9 : (gi σ 401 h0) = 7 ∨ (gi σ 401 h0) = 10 ∨ (gi σ 401 h0) = 15
        · have h := ift c9 h
          refine r_tab E (off := 128) (tgt := 132) dX3_works_4 (by rcases c9 with q | q | q <;> (rw [q]; decide)) (fun w1 w2 => by show _ < 19; omega) (by decide) ?_
          refine r_iload_n E (i := 1) (j := 1) dX3_works_132 rfl rfl ?_
          refine r_if_eq E (tgt := 141) dX3_works_133 (by decide) (fun c10 => ?_) (fun c10 => ?_)
          · have h := ift c10 h
            obtain ⟨rfl, rfl⟩ := lf2 h
            refine r_iconst E dX3_works_141 (v := 1) (by decide) ?_
            refine r_goto E (tgt := 146) dX3_works_142 (by decide) ?_
            exact r_zret E dX3_works_146 (by decide)
          · have h := iff' c10 h
            refine r_iload_n E (i := 1) (j := 1) dX3_works_136 rfl rfl ?_
            refine r_iconst E dX3_works_137 (v := 2) (by decide) ?_
            refine r_icmp_ne E (tgt := 145) dX3_works_138 (by decide) (fun c11 => ?_) (fun c11 => ?_)
            · have h := iff' c11 h
              obtain ⟨rfl, rfl⟩ := lf2 h
              refine r_iconst E dX3_works_145 (v := 0) (by decide) ?_
              exact r_zret E dX3_works_146 (by decide)
            · have h := ift c11 h
              obtain ⟨rfl, rfl⟩ := lf2 h
              refine r_iconst E dX3_works_141 (v := 1) (by decide) ?_
              refine r_goto E (tgt := 146) dX3_works_142 (by decide) ?_
              exact r_zret E dX3_works_146 (by decide)
        · have h := iff' c9 h
          by_cases c12 : (gi σ 401 h0) = 12 ∨ (gi σ 401 h0) = 19
          · have h := ift c12 h
            obtain ⟨rfl, rfl⟩ := lf2 h
            refine r_tab E (off := 143) (tgt := 147) dX3_works_4 (by rcases c12 with q | q <;> (rw [q]; decide)) (fun w1 w2 => by show _ < 19; omega) (by decide) ?_
            refine r_iconst E dX3_works_147 (v := 1) (by decide) ?_
            exact r_zret E dX3_works_148 (by decide)
          · have h := iff' c12 h
            obtain ⟨rfl, rfl⟩ := lf2 h
            refine r_tab E (off := 145) (tgt := 149) dX3_works_4 (by have z0 := lv_neT (x := gi σ 401 h0) (k := 2) (a := 2) (fun q => c2 (Or.inl q)) (by decide); have z1 := lv_neT (x := gi σ 401 h0) (k := 11) (a := 11) (fun q => c2 (Or.inr (q))) (by decide); have z2 := lv_neT (x := gi σ 401 h0) (k := 3) (a := 3) (fun q => c4 (Or.inl q)) (by decide); have z3 := lv_neT (x := gi σ 401 h0) (k := 4) (a := 4) (fun q => c4 (Or.inr (Or.inl q))) (by decide); have z4 := lv_neT (x := gi σ 401 h0) (k := 13) (a := 13) (fun q => c4 (Or.inr (Or.inr (Or.inl q)))) (by decide); have z5 := lv_neT (x := gi σ 401 h0) (k := 18) (a := 18) (fun q => c4 (Or.inr (Or.inr (Or.inr (Or.inl q))))) (by decide); have z6 := lv_neT (x := gi σ 401 h0) (k := 20) (a := 20) (fun q => c4 (Or.inr (Or.inr (Or.inr (Or.inr (q)))))) (by decide); have z7 := lv_neT (x := gi σ 401 h0) (k := 5) (a := 5) (fun q => c7 (Or.inl q)) (by decide); have z8 := lv_neT (x := gi σ 401 h0) (k := 6) (a := 6) (fun q => c7 (Or.inr (Or.inl q))) (by decide); have z9 := lv_neT (x := gi σ 401 h0) (k := 8) (a := 8) (fun q => c7 (Or.inr (Or.inr (Or.inl q)))) (by decide); have z10 := lv_neT (x := gi σ 401 h0) (k := 9) (a := 9) (fun q => c7 (Or.inr (Or.inr (Or.inr (Or.inl q))))) (by decide); have z11 := lv_neT (x := gi σ 401 h0) (k := 14) (a := 14) (fun q => c7 (Or.inr (Or.inr (Or.inr (Or.inr (Or.inl q)))))) (by decide); have z12 := lv_neT (x := gi σ 401 h0) (k := 16) (a := 16) (fun q => c7 (Or.inr (Or.inr (Or.inr (Or.inr (Or.inr (Or.inl q))))))) (by decide); have z13 := lv_neT (x := gi σ 401 h0) (k := 17) (a := 17) (fun q => c7 (Or.inr (Or.inr (Or.inr (Or.inr (Or.inr (Or.inr (q)))))))) (by decide); have z14 := lv_neT (x := gi σ 401 h0) (k := 7) (a := 7) (fun q => c9 (Or.inl q)) (by decide); have z15 := lv_neT (x := gi σ 401 h0) (k := 10) (a := 10) (fun q => c9 (Or.inr (Or.inl q))) (by decide); have z16 := lv_neT (x := gi σ 401 h0) (k := 15) (a := 15) (fun q => c9 (Or.inr (Or.inr (q)))) (by decide); have z17 := lv_neT (x := gi σ 401 h0) (k := 12) (a := 12) (fun q => c12 (Or.inl q)) (by decide); have z18 := lv_neT (x := gi σ 401 h0) (k := 19) (a := 19) (fun q => c12 (Or.inr (q))) (by decide); by_cases w1 : Int32.toInt (gi σ 401 h0) < 2 <;> by_cases w2 : 20 < Int32.toInt (gi σ 401 h0) <;> first | (simp [w1, w2]; done) | (exfalso; omega)) (fun w1 w2 => by show _ < 19; omega) (by decide) ?_
            refine r_iconst E dX3_works_149 (v := 0) (by decide) ?_
            exact r_zret E dX3_works_150 (by decide)
def lp_X1_nextInOrder : Nat → Dp → Sg → Nat → Option Nat → Int32 → Option (Int32 × Sg)
  | 0, _, _, _, _, _ => none
  | f + 1, d, σ, h0, v1, v2 => (if (2 : Int32) < v2 then some ((3 : Int32), σ) else (Option.bind v1 fun a5 => (if gc σ a5 = 2 then (Option.bind (gp σ 103 a5) fun a8 => (if gc σ a8 = 5 then (b2 (ex_X3_works d σ a8 v2) fun r13 s12 => (if r13 = (0 : Int32) then lp_X1_nextInOrder f d s12 h0 v1 (v2 + 1) else some (v2, s12))) else none)) else none)))
set_option maxHeartbeats 4000000 in
set_option maxRecDepth 20000 in
theorem wlp_X1_nextInOrder {p : Program} {l : Launch} {e : Env} {s : State} {m : MethodId} {args : Array Value} {below : List Frame} {meth : Method} {c : Code} {d : Dp} {σ0 σ' : Sg} {r : Int32} (E : Ev p s m args meth c RX1 cX1_nextInOrder 3 (some .int) d (AA σ0)) : ∀ (f : Nat) (σ : Sg) (h0 : Nat) (v1 : Option Nat) (v2 : Int32), lp_X1_nextInOrder f d σ h0 v1 v2 = some (r, σ') → Gk p l e { frames := 1, cells := 0, slots := 0, locals := 21 } s m args below meth c d (AA σ0) (MQ below (QQ d σ0 (some (.int r)) σ') args s 0 0 (AA σ0)) 3 σ 0 0 7 [(0, va_rf (some h0)), (1, va_rf (v1)), (2, .int (v2))] [] := by
  intro f
  induction f with
  | zero => intro _ _ _ _ h; cases h
  | succ f ih =>
    intro σ h0 v1 v2 h
    unfold lp_X1_nextInOrder at h
    refine r_iload_n E (i := 2) (j := 2) dX1_nextInOrder_7 rfl rfl ?_
    refine r_iconst E dX1_nextInOrder_8 (v := 2) (by decide) ?_
    refine r_icmp_gt E (tgt := 31) dX1_nextInOrder_9 (by decide) (fun c4 => ?_) (fun c4 => ?_)
    · have h := ift c4 h
      obtain ⟨rfl, rfl⟩ := lf2 h
      refine r_iconst E dX1_nextInOrder_31 (v := 3) (by decide) ?_
      exact r_iret E dX1_nextInOrder_32
    · have h := iff' c4 h
      obtain ⟨a5, e6, h⟩ := nn h
      obtain ⟨g7, h⟩ := ck h
      obtain ⟨a8, e9, h⟩ := nn h
      obtain ⟨g10, h⟩ := ck h
      obtain ⟨r13, s12, hc11, h⟩ := nb2 h
      refine r_aload_n E (x := v1) (i := 1) (j := 1) dX1_nextInOrder_12 rfl rfl ?_
      refine gf_X1_139 E (x := gp σ 103 a5) dX1_nextInOrder_13 e6 g7 rfl ?_
      refine r_iload_n E (i := 2) (j := 2) dX1_nextInOrder_16 rfl rfl ?_
      refine cl_X1_163 E (m_X3_works hc11) dX1_nextInOrder_17 ⟨Nat.le_of_ble_eq_true rfl, Nat.le_of_ble_eq_true rfl⟩ ⟨by first | decide | omega | (dsimp only; omega), by first | decide | omega | (dsimp only; omega)⟩ (by decide) e9 g10 ?_
      refine r_if_eq E (tgt := 25) dX1_nextInOrder_20 (by decide) (fun c14 => ?_) (fun c14 => ?_)
      · have h := ift c14 h
        refine r_iinc E (j := 2) (v := v2 + 1) (lv' := [(2, .int (v2 + 1)), (0, va_rf (some h0)), (1, va_rf (v1))]) dX1_nextInOrder_25 rfl rfl (by decide) (by first | rfl | (simp only [List.filter_cons, List.filter_nil, va_rf_cat]; rfl)) ?_
        refine r_goto E (tgt := 7) dX1_nextInOrder_28 (by decide) ?_
        refine r_sub [1, 2, 0] (lv' := [(0, va_rf (some h0)), (1, va_rf (v1)), (2, .int (v2 + 1))]) rfl ?_
        exact ih _ _ _ _ h
      · have h := iff' c14 h
        obtain ⟨rfl, rfl⟩ := lf2 h
        refine r_iload_n E (i := 2) (j := 2) dX1_nextInOrder_23 rfl rfl ?_
        exact r_iret E dX1_nextInOrder_24
def ex_X1_nextInOrder (d : Dp) (σ : Sg) (h0 : Nat) (q1 : Option Nat) : Option (Int32 × Sg) := (Option.bind q1 fun a1 => (if gc σ a1 = 2 then lp_X1_nextInOrder 300 d σ h0 q1 ((gi σ 104 a1) + (1 : Int32)) else none))
set_option maxHeartbeats 4000000 in
set_option maxRecDepth 20000 in
theorem m_X1_nextInOrder {l : Launch} {d : Dp} {σ σ' : Sg} {h0 : Nat} {q1 : Option Nat} {r : Int32} (h : ex_X1_nextInOrder d σ h0 q1 = some (r, σ')) : Mt l d yX1_nextInOrder cX1_nextInOrder 3 (some .int) 1 21 σ [.ref h0, va_rf (q1)] (some (.int r)) σ' 0 0 := by
  refine mt_start (own := RX1) (lv0 := [(0, va_rf (some h0)), (1, va_rf (q1))]) (by decide) rfl (by simp only [lg_sl, List.flatMap_cons, List.flatMap_nil, va_rf_cat]; exact Nat.le_of_ble_eq_true rfl) (by first | rfl | (simp only [lv_args, va_rf_cat]; rfl)) ?_
  intro p e s m args below meth c E hnm
  unfold ex_X1_nextInOrder at h
  obtain ⟨a1, e2, h⟩ := nn h
  obtain ⟨g3, h⟩ := ck h
  refine r_aload_n E (x := q1) (i := 1) (j := 1) dX1_nextInOrder_0 rfl rfl ?_
  refine gf_X1_136 E (x := gi σ 104 a1) dX1_nextInOrder_1 e2 g3 rfl ?_
  refine r_iconst E dX1_nextInOrder_4 (v := 1) (by decide) ?_
  refine r_iadd E dX1_nextInOrder_5 ?_
  refine r_istore_n E (i := 2) (lv' := [(2, .int ((gi σ 104 a1) + (1 : Int32))), (0, va_rf (some h0)), (1, va_rf (q1))]) dX1_nextInOrder_6 rfl (by decide) (by first | rfl | (simp only [List.filter_cons, List.filter_nil, va_rf_cat]; rfl)) ?_
  refine r_sub [1, 2, 0] (lv' := [(0, va_rf (some h0)), (1, va_rf (q1)), (2, .int ((gi σ 104 a1) + (1 : Int32)))]) rfl ?_
  exact wlp_X1_nextInOrder E _ _ _ _ _ h
def ex_X1_nextPart (d : Dp) (σ : Sg) (h0 : Nat) (q1 : Option Nat) : Option (Int32 × Sg) := (Option.bind q1 fun a1 => (if gc σ a1 = 2 then (Option.bind (gp σ 103 a1) fun a4 => (if gc σ a4 = 5 then (if (gi σ 401 a4) = 15 then (if (gi σ 104 a1) = (-1 : Int32) then some ((0 : Int32), σ) else some ((3 : Int32), σ)) else (if (gi σ 401 a4) = 19 then (if gc σ h0 = 3 then (b2 (ex_X1_nextOfIf d σ h0 q1) fun r13 s12 => some (r13, s12)) else none) else (if (gi σ 401 a4) = 20 then (if gc σ h0 = 3 then (b2 (ex_X1_nextOfTimes d σ h0 q1) fun r18 s17 => some (r18, s17)) else none) else (if gc σ h0 = 3 then (b2 (ex_X1_nextInOrder d σ h0 q1) fun r22 s21 => some (r22, s21)) else none)))) else none)) else none))
set_option maxHeartbeats 4000000 in
set_option maxRecDepth 20000 in
theorem m_X1_nextPart {l : Launch} {d : Dp} {σ σ' : Sg} {h0 : Nat} {q1 : Option Nat} {r : Int32} (h : ex_X1_nextPart d σ h0 q1 = some (r, σ')) : Mt l d yX1_nextPart cX1_nextPart 2 (some .int) 3 66 σ [.ref h0, va_rf (q1)] (some (.int r)) σ' 0 0 := by
  refine mt_start (own := RX1) (lv0 := [(0, va_rf (some h0)), (1, va_rf (q1))]) (by decide) rfl (by simp only [lg_sl, List.flatMap_cons, List.flatMap_nil, va_rf_cat]; exact Nat.le_of_ble_eq_true rfl) (by first | rfl | (simp only [lv_args, va_rf_cat]; rfl)) ?_
  intro p e s m args below meth c E hnm
  unfold ex_X1_nextPart at h
  obtain ⟨a1, e2, h⟩ := nn h
  obtain ⟨g3, h⟩ := ck h
  obtain ⟨a4, e5, h⟩ := nn h
  obtain ⟨g6, h⟩ := ck h
  refine r_aload_n E (x := q1) (i := 1) (j := 1) dX1_nextPart_0 rfl rfl ?_
  refine gf_X1_139 E (x := gp σ 103 a1) dX1_nextPart_1 e2 g3 rfl ?_
  refine gf_X1_151 E (x := gi σ 401 a4) dX1_nextPart_4 e5 g6 rfl ?_
  by_cases c7 : (gi σ 401 a4) = 15
  · have h := ift c7 h
    refine r_look E (off := 33) (tgt := 40) dX1_nextPart_7 (by decide) (by rw [c7]; decide) (by decide) ?_
    refine r_aload_n E (x := q1) (i := 1) (j := 1) dX1_nextPart_40 rfl rfl ?_
    refine gf_X1_136 E (x := gi σ 104 a1) dX1_nextPart_41 e2 g3 rfl ?_
    refine r_iconst E dX1_nextPart_44 (v := -1) (by decide) ?_
    refine r_icmp_ne E (tgt := 52) dX1_nextPart_45 (by decide) (fun c8 => ?_) (fun c8 => ?_)
    · have h := iff' c8 h
      obtain ⟨rfl, rfl⟩ := lf2 h
      refine r_iconst E dX1_nextPart_52 (v := 3) (by decide) ?_
      exact r_iret E dX1_nextPart_53
    · have h := ift c8 h
      obtain ⟨rfl, rfl⟩ := lf2 h
      refine r_iconst E dX1_nextPart_48 (v := 0) (by decide) ?_
      refine r_goto E (tgt := 53) dX1_nextPart_49 (by decide) ?_
      exact r_iret E dX1_nextPart_53
  · have h := iff' c7 h
    by_cases c9 : (gi σ 401 a4) = 19
    · have h := ift c9 h
      obtain ⟨g10, h⟩ := ck h
      obtain ⟨r13, s12, hc11, h⟩ := nb2 h
      obtain ⟨rfl, rfl⟩ := lf2 h
      refine r_look E (off := 47) (tgt := 54) dX1_nextPart_7 (by decide) (by rw [c9]; decide) (by decide) ?_
      refine r_aload_n E (x := some h0) (i := 0) (j := 0) dX1_nextPart_54 rfl rfl ?_
      refine r_aload_n E (x := q1) (i := 1) (j := 1) dX1_nextPart_55 rfl rfl ?_
      refine cl_X1_154 E (m_X1_nextOfIf hc11) dX1_nextPart_56 ⟨Nat.le_of_ble_eq_true rfl, Nat.le_of_ble_eq_true rfl⟩ ⟨by first | decide | omega | (dsimp only; omega), by first | decide | omega | (dsimp only; omega)⟩ (by decide) rfl g10 ?_
      exact r_iret E dX1_nextPart_59
    · have h := iff' c9 h
      by_cases c14 : (gi σ 401 a4) = 20
      · have h := ift c14 h
        obtain ⟨g15, h⟩ := ck h
        obtain ⟨r18, s17, hc16, h⟩ := nb2 h
        obtain ⟨rfl, rfl⟩ := lf2 h
        refine r_look E (off := 53) (tgt := 60) dX1_nextPart_7 (by decide) (by rw [c14]; decide) (by decide) ?_
        refine r_aload_n E (x := some h0) (i := 0) (j := 0) dX1_nextPart_60 rfl rfl ?_
        refine r_aload_n E (x := q1) (i := 1) (j := 1) dX1_nextPart_61 rfl rfl ?_
        refine cl_X1_157 E (m_X1_nextOfTimes hc16) dX1_nextPart_62 ⟨Nat.le_of_ble_eq_true rfl, Nat.le_of_ble_eq_true rfl⟩ ⟨by first | decide | omega | (dsimp only; omega), by first | decide | omega | (dsimp only; omega)⟩ (by decide) rfl g15 ?_
        exact r_iret E dX1_nextPart_65
      · have h := iff' c14 h
        obtain ⟨g19, h⟩ := ck h
        obtain ⟨r22, s21, hc20, h⟩ := nb2 h
        obtain ⟨rfl, rfl⟩ := lf2 h
        refine r_look E (off := 59) (tgt := 66) dX1_nextPart_7 (by decide) ((lv_osw (k := 15) c7 (by decide)).trans ((lv_osw (k := 19) c9 (by decide)).trans ((lv_osw (k := 20) c14 (by decide)).trans rfl))) (by decide) ?_
        refine r_aload_n E (x := some h0) (i := 0) (j := 0) dX1_nextPart_66 rfl rfl ?_
        refine r_aload_n E (x := q1) (i := 1) (j := 1) dX1_nextPart_67 rfl rfl ?_
        refine cl_X1_160 E (m_X1_nextInOrder hc20) dX1_nextPart_68 ⟨Nat.le_of_ble_eq_true rfl, Nat.le_of_ble_eq_true rfl⟩ ⟨by first | decide | omega | (dsimp only; omega), by first | decide | omega | (dsimp only; omega)⟩ (by decide) rfl g19 ?_
        exact r_iret E dX1_nextPart_71
