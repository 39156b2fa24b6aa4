def lp_X7_init : Nat → Dp → Sg → Nat → Int32 → Nat → Nat → Option (Unit × Sg × Nat × Nat)
  | 0, _, _, _, _, _, _ => none
  | f + 1, d, σ, h0, v1, kc, nc => (if (256 : Int32) ≤ v1 then some ((), σ, kc, nc) else (if gc σ h0 = 9 then (Option.bind (gp σ 812 h0) fun a58 => (if gc σ a58 = 10 then (if ¬ (v1 < 0 ∨ gl σ a58 ≤ Int32.toNatClampNeg v1) then lp_X7_init f d (wi σ a58 (Int32.toNatClampNeg v1) (-1 : Int32)) h0 (v1 + 1) kc nc else none) else none)) else none))
theorem mo_lp_X7_init {d : Dp} {σ' : Sg} {r : Unit} {kF nF : Nat} : ∀ (f : Nat) (σ : Sg) (h0 : Nat) (v1 : Int32) (kc nc : Nat), lp_X7_init f d σ h0 v1 kc nc = some (r, σ', kF, nF) → kc ≤ kF ∧ nc ≤ nF := by
  intro f
  induction f with
  | zero => intro _ _ _ _ _ h; cases h
  | succ f ih =>
    intro σ h0 v1 kc nc h
    unfold lp_X7_init at h
    by_cases c56 : (256 : Int32) ≤ v1
    · have h := ift c56 h
      obtain ⟨_, _, rfl, rfl⟩ := lf4 h
      exact ⟨by omega, by omega⟩
    · have h := iff' c56 h
      obtain ⟨_, h⟩ := ck h
      obtain ⟨a58, _, h⟩ := nn h
      obtain ⟨_, h⟩ := ck h
      obtain ⟨_, h⟩ := ck h
      have hmo := ih _ _ _ _ _ h
      exact ⟨by omega, by omega⟩
set_option maxHeartbeats 4000000 in
set_option maxRecDepth 20000 in
theorem wlp_X7_init {p : Program} {l : Launch} {e : Env} {s : State} {m : MethodId} {args : Array Value} {below : List Frame} {meth : Method} {c : Code} {d : Dp} {σ0 σ' : Sg} {r : Unit} {kF nF : Nat} (E : Ev p s m args meth c RX7 cX7_init 2 none d (AA σ0)) (hnm : meth.name = "<init>") : ∀ (f : Nat) (σ : Sg) (h0 : Nat) (v1 : Int32) (kc nc : Nat), lp_X7_init f d σ h0 v1 kc nc = some (r, σ', kF, nF) → Gk p l e { frames := 1, cells := kF, slots := nF, locals := 20 } s m args below meth c d (AA σ0) (MQ below (QQ d σ0 none σ') args s kF nF (AA σ0)) 2 σ kc nc 243 [(0, va_rf (some h0)), (1, .int (v1))] [] := by
  intro f
  induction f with
  | zero => intro _ _ _ _ _ h; cases h
  | succ f ih =>
    intro σ h0 v1 kc nc h
    unfold lp_X7_init at h
    have hmo : kc ≤ kF ∧ nc ≤ nF := by
      by_cases c56 : (256 : Int32) ≤ v1
      · have h := ift c56 h
        obtain ⟨_, _, rfl, rfl⟩ := lf4 h
        exact ⟨by omega, by omega⟩
      · have h := iff' c56 h
        obtain ⟨_, h⟩ := ck h
        obtain ⟨a58, _, h⟩ := nn h
        obtain ⟨_, h⟩ := ck h
        obtain ⟨_, h⟩ := ck h
        have hmo := mo_lp_X7_init f _ _ _ _ _ h
        exact ⟨by omega, by omega⟩
    refine r_iload_n E (i := 1) (j := 1) dX7_init_243 rfl rfl ?_
    refine r_sipush E dX7_init_244 (v := 256) (by decide) ?_
    refine r_icmp_ge E (tgt := 263) dX7_init_247 (by decide) (fun c56 => ?_) (fun c56 => ?_)
    · have h := ift c56 h
      obtain ⟨rfl, rfl, rfl, rfl⟩ := lf4 h
      exact r_vret E dX7_init_263
    · have h := iff' c56 h
      obtain ⟨g57, h⟩ := ck h
      obtain ⟨a58, e59, h⟩ := nn h
      obtain ⟨g60, h⟩ := ck h
      obtain ⟨g61, h⟩ := ck h
      have hmo := mo_lp_X7_init f _ _ _ _ _ h
      refine r_aload_n E (x := some h0) (i := 0) (j := 0) dX7_init_250 rfl rfl ?_
      refine gf_X7_39 E (x := gp σ 812 h0) dX7_init_251 rfl g57 rfl ?_
      refine r_iload_n E (i := 1) (j := 1) dX7_init_254 rfl rfl ?_
      refine r_iconst E dX7_init_255 (v := -1) (by decide) ?_
      refine r_iast E dX7_init_256 e59 g60 g61 ?_
      refine r_iinc E (j := 1) (v := v1 + 1) (lv' := [(1, .int (v1 + 1)), (0, va_rf (some h0))]) dX7_init_257 rfl rfl (by decide) (by first | rfl | (simp only [List.filter_cons, List.filter_nil, va_rf_cat]; rfl)) ?_
      refine r_goto E (tgt := 243) dX7_init_260 (by decide) ?_
      refine r_sub [1, 0] (lv' := [(0, va_rf (some h0)), (1, .int (v1 + 1))]) rfl ?_
      exact ih _ _ _ _ _ h
def ex_X7_init (d : Dp) (σ : Sg) (h0 : Nat) : Option (Unit × Sg × Nat × Nat) := (if ¬ ((0 : Int32) < 0 ∨ gl (na σ 10 (Int32.toNatClampNeg (21 : Int32))) (hs σ) ≤ Int32.toNatClampNeg (0 : Int32)) then (if ¬ ((1 : Int32) < 0 ∨ gl (na σ 10 (Int32.toNatClampNeg (21 : Int32))) (hs σ) ≤ Int32.toNatClampNeg (1 : Int32)) then (if ¬ ((2 : Int32) < 0 ∨ gl (na σ 10 (Int32.toNatClampNeg (21 : Int32))) (hs σ) ≤ Int32.toNatClampNeg (2 : Int32)) then (if ¬ ((3 : Int32) < 0 ∨ gl (na σ 10 (Int32.toNatClampNeg (21 : Int32))) (hs σ) ≤ Int32.toNatClampNeg (3 : Int32)) then (if ¬ ((4 : Int32) < 0 ∨ gl (na σ 10 (Int32.toNatClampNeg (21 : Int32))) (hs σ) ≤ Int32.toNatClampNeg (4 : Int32)) then (if ¬ ((5 : Int32) < 0 ∨ gl (na σ 10 (Int32.toNatClampNeg (21 : Int32))) (hs σ) ≤ Int32.toNatClampNeg (5 : Int32)) then (if ¬ ((6 : Int32) < 0 ∨ gl (na σ 10 (Int32.toNatClampNeg (21 : Int32))) (hs σ) ≤ Int32.toNatClampNeg (6 : Int32)) then (bn (wi (wi (wi (wi (wi (wi (wi (na σ 10 (Int32.toNatClampNeg (21 : Int32))) (hs σ) (Int32.toNatClampNeg (0 : Int32)) (0 : Int32)) (hs σ) (Int32.toNatClampNeg (1 : Int32)) (0 : Int32)) (hs σ) (Int32.toNatClampNeg (2 : Int32)) (2 : Int32)) (hs σ) (Int32.toNatClampNeg (3 : Int32)) (3 : Int32)) (hs σ) (Int32.toNatClampNeg (4 : Int32)) (3 : Int32)) (hs σ) (Int32.toNatClampNeg (5 : Int32)) (1 : Int32)) (hs σ) (Int32.toNatClampNeg (6 : Int32)) (1 : Int32)) fun s8 => (if gc s8 (hs σ) = 10 then (if ¬ ((7 : Int32) < 0 ∨ gl s8 (hs σ) ≤ Int32.toNatClampNeg (7 : Int32)) then (if ¬ ((8 : Int32) < 0 ∨ gl s8 (hs σ) ≤ Int32.toNatClampNeg (8 : Int32)) then (if ¬ ((9 : Int32) < 0 ∨ gl s8 (hs σ) ≤ Int32.toNatClampNeg (9 : Int32)) then (if ¬ ((10 : Int32) < 0 ∨ gl s8 (hs σ) ≤ Int32.toNatClampNeg (10 : Int32)) then (if ¬ ((11 : Int32) < 0 ∨ gl s8 (hs σ) ≤ Int32.toNatClampNeg (11 : Int32)) then (if ¬ ((12 : Int32) < 0 ∨ gl s8 (hs σ) ≤ Int32.toNatClampNeg (12 : Int32)) then (if ¬ ((13 : Int32) < 0 ∨ gl s8 (hs σ) ≤ Int32.toNatClampNeg (13 : Int32)) then (if ¬ ((14 : Int32) < 0 ∨ gl s8 (hs σ) ≤ Int32.toNatClampNeg (14 : Int32)) then (bn (wi (wi (wi (wi (wi (wi (wi (wi s8 (hs σ) (Int32.toNatClampNeg (7 : Int32)) (5 : Int32)) (hs σ) (Int32.toNatClampNeg (8 : Int32)) (1 : Int32)) (hs σ) (Int32.toNatClampNeg (9 : Int32)) (1 : Int32)) (hs σ) (Int32.toNatClampNeg (10 : Int32)) (5 : Int32)) (hs σ) (Int32.toNatClampNeg (11 : Int32)) (2 : Int32)) (hs σ) (Int32.toNatClampNeg (12 : Int32)) (7 : Int32)) (hs σ) (Int32.toNatClampNeg (13 : Int32)) (3 : Int32)) (hs σ) (Int32.toNatClampNeg (14 : Int32)) (1 : Int32)) fun s19 => (if gc s19 (hs σ) = 10 then (if ¬ ((15 : Int32) < 0 ∨ gl s19 (hs σ) ≤ Int32.toNatClampNeg (15 : Int32)) then (if ¬ ((16 : Int32) < 0 ∨ gl s19 (hs σ) ≤ Int32.toNatClampNeg (16 : Int32)) then (if ¬ ((17 : Int32) < 0 ∨ gl s19 (hs σ) ≤ Int32.toNatClampNeg (17 : Int32)) then (if ¬ ((18 : Int32) < 0 ∨ gl s19 (hs σ) ≤ Int32.toNatClampNeg (18 : Int32)) then (if ¬ ((19 : Int32) < 0 ∨ gl s19 (hs σ) ≤ Int32.toNatClampNeg (19 : Int32)) then (if ¬ ((20 : Int32) < 0 ∨ gl s19 (hs σ) ≤ Int32.toNatClampNeg (20 : Int32)) then (if gc s19 h0 = 9 then (bn (sp (wi (wi (wi (wi (wi (wi s19 (hs σ) (Int32.toNatClampNeg (15 : Int32)) (5 : Int32)) (hs σ) (Int32.toNatClampNeg (16 : Int32)) (1 : Int32)) (hs σ) (Int32.toNatClampNeg (17 : Int32)) (1 : Int32)) (hs σ) (Int32.toNatClampNeg (18 : Int32)) (3 : Int32)) (hs σ) (Int32.toNatClampNeg (19 : Int32)) (7 : Int32)) (hs σ) (Int32.toNatClampNeg (20 : Int32)) (3 : Int32)) 800 h0 (some (hs σ))) fun s29 => (if gc (na s29 10 (Int32.toNatClampNeg (4000 : Int32))) h0 = 9 then (if gc (na (na s29 10 (Int32.toNatClampNeg (4000 : Int32))) 10 (Int32.toNatClampNeg (12000 : Int32))) h0 = 9 then (bn (sp (na (sp (na s29 10 (Int32.toNatClampNeg (4000 : Int32))) 801 h0 (some (hs s29))) 10 (Int32.toNatClampNeg (12000 : Int32))) 802 h0 (some (hs s29 + 1))) fun s33 => (if gc (na s33 11 (Int32.toNatClampNeg (4000 : Int32))) h0 = 9 then (if gc (na (na s33 11 (Int32.toNatClampNeg (4000 : Int32))) 10 (Int32.toNatClampNeg (50000 : Int32))) h0 = 9 then (bn (sp (na (sp (na s33 11 (Int32.toNatClampNeg (4000 : Int32))) 803 h0 (some (hs s33))) 10 (Int32.toNatClampNeg (50000 : Int32))) 805 h0 (some (hs s33 + 1))) fun s37 => (if gc (na s37 10 (Int32.toNatClampNeg (50000 : Int32))) h0 = 9 then (if gc (na (na s37 10 (Int32.toNatClampNeg (50000 : Int32))) 10 (Int32.toNatClampNeg (50000 : Int32))) h0 = 9 then (bn (sp (na (sp (na s37 10 (Int32.toNatClampNeg (50000 : Int32))) 806 h0 (some (hs s37))) 10 (Int32.toNatClampNeg (50000 : Int32))) 807 h0 (some (hs s37 + 1))) fun s41 => (if gc (na s41 11 (Int32.toNatClampNeg (50000 : Int32))) h0 = 9 then (if gc (na (na s41 11 (Int32.toNatClampNeg (50000 : Int32))) 10 (Int32.toNatClampNeg (20000 : Int32))) h0 = 9 then (bn (sp (na (sp (na s41 11 (Int32.toNatClampNeg (50000 : Int32))) 808 h0 (some (hs s41))) 10 (Int32.toNatClampNeg (20000 : Int32))) 810 h0 (some (hs s41 + 1))) fun s45 => (if gc (na s45 10 (Int32.toNatClampNeg (256 : Int32))) h0 = 9 then (if gc (na (na s45 10 (Int32.toNatClampNeg (256 : Int32))) 10 (Int32.toNatClampNeg (201 : Int32))) h0 = 9 then (bn (sp (na (si (sp (na s45 10 (Int32.toNatClampNeg (256 : Int32))) 812 h0 (some (hs s45))) 813 h0 (-1 : Int32)) 10 (Int32.toNatClampNeg (201 : Int32))) 814 h0 (some (hs s45 + 1))) fun s49 => (if gc (na s49 10 (Int32.toNatClampNeg (201 : Int32))) h0 = 9 then (if gc (na (na s49 10 (Int32.toNatClampNeg (201 : Int32))) 10 (Int32.toNatClampNeg (603 : Int32))) h0 = 9 then (bn (sp (na (sp (na s49 10 (Int32.toNatClampNeg (201 : Int32))) 815 h0 (some (hs s49))) 10 (Int32.toNatClampNeg (603 : Int32))) 816 h0 (some (hs s49 + 1))) fun s53 => (if gc (na s53 11 (Int32.toNatClampNeg (201 : Int32))) h0 = 9 then lp_X7_init 300 d (si (si (sp (na s53 11 (Int32.toNatClampNeg (201 : Int32))) 817 h0 (some (hs s53))) 825 h0 (-1 : Int32)) 827 h0 (-1 : Int32)) h0 (0 : Int32) (0 + 1 + 1 + 1 + 1 + 1 + 1 + 1 + 1 + 1 + 1 + 1 + 1 + 1 + 1) (0 + Int32.toNatClampNeg (21 : Int32) + Int32.toNatClampNeg (4000 : Int32) + Int32.toNatClampNeg (12000 : Int32) + Int32.toNatClampNeg (4000 : Int32) + Int32.toNatClampNeg (50000 : Int32) + Int32.toNatClampNeg (50000 : Int32) + Int32.toNatClampNeg (50000 : Int32) + Int32.toNatClampNeg (50000 : Int32) + Int32.toNatClampNeg (20000 : Int32) + Int32.toNatClampNeg (256 : Int32) + Int32.toNatClampNeg (201 : Int32) + Int32.toNatClampNeg (201 : Int32) + Int32.toNatClampNeg (603 : Int32) + Int32.toNatClampNeg (201 : Int32)) else none)) else none) else none)) else none) else none)) else none) else none)) else none) else none)) else none) else none)) else none) else none)) else none) else none) else none) else none) else none) else none) else none) else none)) else none) else none) else none) else none) else none) else none) else none) else none) else none)) else none) else none) else none) else none) else none) else none) else none)
set_option maxHeartbeats 4000000 in
set_option maxRecDepth 20000 in
theorem m_X7_init {l : Launch} {d : Dp} {σ σ' : Sg} {h0 : Nat} {r : Unit} {kF nF : Nat} (h : ex_X7_init d σ h0 = some (r, σ', kF, nF)) : Mt l d yX7_init cX7_init 2 none 1 20 σ [.ref h0] none σ' kF nF := by
  refine mt_start (own := RX7) (lv0 := [(0, va_rf (some h0))]) (by decide) rfl (by simp only [lg_sl, List.flatMap_cons, List.flatMap_nil, va_rf_cat]; exact Nat.le_of_ble_eq_true rfl) (by first | rfl | (simp only [lv_args, va_rf_cat]; rfl)) ?_
  intro p e s m args below meth c E hnm
  unfold ex_X7_init at h
  obtain ⟨g1, h⟩ := ck h
  obtain ⟨g2, h⟩ := ck h
  obtain ⟨g3, h⟩ := ck h
  obtain ⟨g4, h⟩ := ck h
  obtain ⟨g5, h⟩ := ck h
  obtain ⟨g6, h⟩ := ck h
  obtain ⟨g7, h⟩ := ck h
  obtain ⟨s8, e9, h⟩ := nbn h
  obtain ⟨g10, h⟩ := ck h
  obtain ⟨g11, h⟩ := ck h
  obtain ⟨g12, h⟩ := ck h
  obtain ⟨g13, h⟩ := ck h
  obtain ⟨g14, h⟩ := ck h
  obtain ⟨g15, h⟩ := ck h
  obtain ⟨g16, h⟩ := ck h
  obtain ⟨g17, h⟩ := ck h
  obtain ⟨g18, h⟩ := ck h
  obtain ⟨s19, e20, h⟩ := nbn h
  obtain ⟨g21, h⟩ := ck h
  obtain ⟨g22, h⟩ := ck h
  obtain ⟨g23, h⟩ := ck h
  obtain ⟨g24, h⟩ := ck h
  obtain ⟨g25, h⟩ := ck h
  obtain ⟨g26, h⟩ := ck h
  obtain ⟨g27, h⟩ := ck h
  obtain ⟨g28, h⟩ := ck h
  obtain ⟨s29, e30, h⟩ := nbn h
  obtain ⟨g31, h⟩ := ck h
  obtain ⟨g32, h⟩ := ck h
  obtain ⟨s33, e34, h⟩ := nbn h
  obtain ⟨g35, h⟩ := ck h
  obtain ⟨g36, h⟩ := ck h
  obtain ⟨s37, e38, h⟩ := nbn h
  obtain ⟨g39, h⟩ := ck h
  obtain ⟨g40, h⟩ := ck h
  obtain ⟨s41, e42, h⟩ := nbn h
  obtain ⟨g43, h⟩ := ck h
  obtain ⟨g44, h⟩ := ck h
  obtain ⟨s45, e46, h⟩ := nbn h
  obtain ⟨g47, h⟩ := ck h
  obtain ⟨g48, h⟩ := ck h
  obtain ⟨s49, e50, h⟩ := nbn h
  obtain ⟨g51, h⟩ := ck h
  obtain ⟨g52, h⟩ := ck h
  obtain ⟨s53, e54, h⟩ := nbn h
  obtain ⟨g55, h⟩ := ck h
  have hmo := mo_lp_X7_init _ _ _ _ _ _ h
  refine r_aload_n E (x := some h0) (i := 0) (j := 0) dX7_init_0 rfl rfl ?_
  refine r_objInit E dX7_init_1 wm_3_133 wm_1_24 wm_1_25 rfl ⟨Nat.le_of_ble_eq_true rfl, Nat.le_of_ble_eq_true rfl⟩ ?_
  refine r_aload_n E (x := some h0) (i := 0) (j := 0) dX7_init_4 rfl rfl ?_
  refine r_bipush E dX7_init_5 (v := 21) (by decide) ?_
  refine r_newaI E dX7_init_7 wm_3_220 (by decide) (by decide) ⟨by first | decide | omega | (dsimp only; omega), by first | decide | omega | (dsimp only; omega)⟩ ?_
  refine r_dup E dX7_init_9 (va_rf_cat _) ?_
  refine r_iconst E dX7_init_10 (v := 0) (by decide) ?_
  refine r_iconst E dX7_init_11 (v := 0) (by decide) ?_
  refine r_iast E dX7_init_12 rfl (gc_na (σ := σ) (cls := 10) (N := Int32.toNatClampNeg (21 : Int32))) g1 ?_
  refine r_dup E dX7_init_13 (va_rf_cat _) ?_
  refine r_iconst E dX7_init_14 (v := 1) (by decide) ?_
  refine r_iconst E dX7_init_15 (v := 0) (by decide) ?_
  refine r_iast E dX7_init_16 rfl (gc_na (σ := σ) (cls := 10) (N := Int32.toNatClampNeg (21 : Int32))) g2 ?_
  refine r_dup E dX7_init_17 (va_rf_cat _) ?_
  refine r_iconst E dX7_init_18 (v := 2) (by decide) ?_
  refine r_iconst E dX7_init_19 (v := 2) (by decide) ?_
  refine r_iast E dX7_init_20 rfl (gc_na (σ := σ) (cls := 10) (N := Int32.toNatClampNeg (21 : Int32))) g3 ?_
  refine r_dup E dX7_init_21 (va_rf_cat _) ?_
  refine r_iconst E dX7_init_22 (v := 3) (by decide) ?_
  refine r_iconst E dX7_init_23 (v := 3) (by decide) ?_
  refine r_iast E dX7_init_24 rfl (gc_na (σ := σ) (cls := 10) (N := Int32.toNatClampNeg (21 : Int32))) g4 ?_
  refine r_dup E dX7_init_25 (va_rf_cat _) ?_
  refine r_iconst E dX7_init_26 (v := 4) (by decide) ?_
  refine r_iconst E dX7_init_27 (v := 3) (by decide) ?_
  refine r_iast E dX7_init_28 rfl (gc_na (σ := σ) (cls := 10) (N := Int32.toNatClampNeg (21 : Int32))) g5 ?_
  refine r_dup E dX7_init_29 (va_rf_cat _) ?_
  refine r_iconst E dX7_init_30 (v := 5) (by decide) ?_
  refine r_iconst E dX7_init_31 (v := 1) (by decide) ?_
  refine r_iast E dX7_init_32 rfl (gc_na (σ := σ) (cls := 10) (N := Int32.toNatClampNeg (21 : Int32))) g6 ?_
  refine r_dup E dX7_init_33 (va_rf_cat _) ?_
  refine r_bipush E dX7_init_34 (v := 6) (by decide) ?_
  refine r_iconst E dX7_init_36 (v := 1) (by decide) ?_
  refine r_iast E dX7_init_37 rfl (gc_na (σ := σ) (cls := 10) (N := Int32.toNatClampNeg (21 : Int32))) g7 ?_
  refine r_nm e9 ?_
  refine r_dup E dX7_init_38 (va_rf_cat _) ?_
  refine r_bipush E dX7_init_39 (v := 7) (by decide) ?_
  refine r_iconst E dX7_init_41 (v := 5) (by decide) ?_
  refine r_iast E dX7_init_42 rfl g10 g11 ?_
  refine r_dup E dX7_init_43 (va_rf_cat _) ?_
  refine r_bipush E dX7_init_44 (v := 8) (by decide) ?_
  refine r_iconst E dX7_init_46 (v := 1) (by decide) ?_
  refine r_iast E dX7_init_47 rfl g10 g12 ?_
  refine r_dup E dX7_init_48 (va_rf_cat _) ?_
  refine r_bipush E dX7_init_49 (v := 9) (by decide) ?_
  refine r_iconst E dX7_init_51 (v := 1) (by decide) ?_
  refine r_iast E dX7_init_52 rfl g10 g13 ?_
  refine r_dup E dX7_init_53 (va_rf_cat _) ?_
  refine r_bipush E dX7_init_54 (v := 10) (by decide) ?_
  refine r_iconst E dX7_init_56 (v := 5) (by decide) ?_
  refine r_iast E dX7_init_57 rfl g10 g14 ?_
  refine r_dup E dX7_init_58 (va_rf_cat _) ?_
  refine r_bipush E dX7_init_59 (v := 11) (by decide) ?_
  refine r_iconst E dX7_init_61 (v := 2) (by decide) ?_
  refine r_iast E dX7_init_62 rfl g10 g15 ?_
  refine r_dup E dX7_init_63 (va_rf_cat _) ?_
  refine r_bipush E dX7_init_64 (v := 12) (by decide) ?_
  refine r_bipush E dX7_init_66 (v := 7) (by decide) ?_
  refine r_iast E dX7_init_68 rfl g10 g16 ?_
  refine r_dup E dX7_init_69 (va_rf_cat _) ?_
  refine r_bipush E dX7_init_70 (v := 13) (by decide) ?_
  refine r_iconst E dX7_init_72 (v := 3) (by decide) ?_
  refine r_iast E dX7_init_73 rfl g10 g17 ?_
  refine r_dup E dX7_init_74 (va_rf_cat _) ?_
  refine r_bipush E dX7_init_75 (v := 14) (by decide) ?_
  refine r_iconst E dX7_init_77 (v := 1) (by decide) ?_
  refine r_iast E dX7_init_78 rfl g10 g18 ?_
  refine r_nm e20 ?_
  refine r_dup E dX7_init_79 (va_rf_cat _) ?_
  refine r_bipush E dX7_init_80 (v := 15) (by decide) ?_
  refine r_iconst E dX7_init_82 (v := 5) (by decide) ?_
  refine r_iast E dX7_init_83 rfl g21 g22 ?_
  refine r_dup E dX7_init_84 (va_rf_cat _) ?_
  refine r_bipush E dX7_init_85 (v := 16) (by decide) ?_
  refine r_iconst E dX7_init_87 (v := 1) (by decide) ?_
  refine r_iast E dX7_init_88 rfl g21 g23 ?_
  refine r_dup E dX7_init_89 (va_rf_cat _) ?_
  refine r_bipush E dX7_init_90 (v := 17) (by decide) ?_
  refine r_iconst E dX7_init_92 (v := 1) (by decide) ?_
  refine r_iast E dX7_init_93 rfl g21 g24 ?_
  refine r_dup E dX7_init_94 (va_rf_cat _) ?_
  refine r_bipush E dX7_init_95 (v := 18) (by decide) ?_
  refine r_iconst E dX7_init_97 (v := 3) (by decide) ?_
  refine r_iast E dX7_init_98 rfl g21 g25 ?_
  refine r_dup E dX7_init_99 (va_rf_cat _) ?_
  refine r_bipush E dX7_init_100 (v := 19) (by decide) ?_
  refine r_bipush E dX7_init_102 (v := 7) (by decide) ?_
  refine r_iast E dX7_init_104 rfl g21 g26 ?_
  refine r_dup E dX7_init_105 (va_rf_cat _) ?_
  refine r_bipush E dX7_init_106 (v := 20) (by decide) ?_
  refine r_iconst E dX7_init_108 (v := 3) (by decide) ?_
  refine r_iast E dX7_init_109 rfl g21 g27 ?_
  refine pf_X7_7 E hnm dX7_init_110 rfl g28 ?_
  refine r_aload_n E (x := some h0) (i := 0) (j := 0) dX7_init_113 rfl rfl ?_
  refine r_sipush E dX7_init_114 (v := 4000) (by decide) ?_
  refine r_nm e30 ?_
  refine r_newaI E dX7_init_117 wm_3_220 (by decide) (by decide) ⟨by first | decide | omega | (dsimp only; omega), by first | decide | omega | (dsimp only; omega)⟩ ?_
  refine pf_X7_13 E hnm dX7_init_119 rfl g31 ?_
  refine r_aload_n E (x := some h0) (i := 0) (j := 0) dX7_init_122 rfl rfl ?_
  refine r_sipush E dX7_init_123 (v := 12000) (by decide) ?_
  refine r_newaI E dX7_init_126 wm_3_220 (by decide) (by decide) ⟨by first | decide | omega | (dsimp only; omega), by first | decide | omega | (dsimp only; omega)⟩ ?_
  refine pf_X7_16 E hnm dX7_init_128 rfl g32 ?_
  refine r_aload_n E (x := some h0) (i := 0) (j := 0) dX7_init_131 rfl rfl ?_
  refine r_sipush E dX7_init_132 (v := 4000) (by decide) ?_
  refine r_nm e34 ?_
  refine r_newaJ E dX7_init_135 wm_3_221 (by decide) (by decide) ⟨by first | decide | omega | (dsimp only; omega), by first | decide | omega | (dsimp only; omega)⟩ ?_
  refine pf_X7_19 E hnm dX7_init_137 rfl g35 ?_
  refine r_aload_n E (x := some h0) (i := 0) (j := 0) dX7_init_140 rfl rfl ?_
  refine r_ldc E dX7_init_141 (v := 50000) wm_3_134 ?_
  refine r_newaI E dX7_init_143 wm_3_220 (by decide) (by decide) ⟨by first | decide | omega | (dsimp only; omega), by first | decide | omega | (dsimp only; omega)⟩ ?_
  refine pf_X7_24 E hnm dX7_init_145 rfl g36 ?_
  refine r_aload_n E (x := some h0) (i := 0) (j := 0) dX7_init_148 rfl rfl ?_
  refine r_ldc E dX7_init_149 (v := 50000) wm_3_134 ?_
  refine r_nm e38 ?_
  refine r_newaI E dX7_init_151 wm_3_220 (by decide) (by decide) ⟨by first | decide | omega | (dsimp only; omega), by first | decide | omega | (dsimp only; omega)⟩ ?_
  refine pf_X7_27 E hnm dX7_init_153 rfl g39 ?_
  refine r_aload_n E (x := some h0) (i := 0) (j := 0) dX7_init_156 rfl rfl ?_
  refine r_ldc E dX7_init_157 (v := 50000) wm_3_134 ?_
  refine r_newaI E dX7_init_159 wm_3_220 (by decide) (by decide) ⟨by first | decide | omega | (dsimp only; omega), by first | decide | omega | (dsimp only; omega)⟩ ?_
  refine pf_X7_30 E hnm dX7_init_161 rfl g40 ?_
  refine r_aload_n E (x := some h0) (i := 0) (j := 0) dX7_init_164 rfl rfl ?_
  refine r_ldc E dX7_init_165 (v := 50000) wm_3_134 ?_
  refine r_nm e42 ?_
  refine r_newaJ E dX7_init_167 wm_3_221 (by decide) (by decide) ⟨by first | decide | omega | (dsimp only; omega), by first | decide | omega | (dsimp only; omega)⟩ ?_
  refine pf_X7_33 E hnm dX7_init_169 rfl g43 ?_
  refine r_aload_n E (x := some h0) (i := 0) (j := 0) dX7_init_172 rfl rfl ?_
  refine r_sipush E dX7_init_173 (v := 20000) (by decide) ?_
  refine r_newaI E dX7_init_176 wm_3_220 (by decide) (by decide) ⟨by first | decide | omega | (dsimp only; omega), by first | decide | omega | (dsimp only; omega)⟩ ?_
  refine pf_X7_36 E hnm dX7_init_178 rfl g44 ?_
  refine r_aload_n E (x := some h0) (i := 0) (j := 0) dX7_init_181 rfl rfl ?_
  refine r_sipush E dX7_init_182 (v := 256) (by decide) ?_
  refine r_nm e46 ?_
  refine r_newaI E dX7_init_185 wm_3_220 (by decide) (by decide) ⟨by first | decide | omega | (dsimp only; omega), by first | decide | omega | (dsimp only; omega)⟩ ?_
  refine pf_X7_39 E hnm dX7_init_187 rfl g47 ?_
  refine r_aload_n E (x := some h0) (i := 0) (j := 0) dX7_init_190 rfl rfl ?_
  refine r_iconst E dX7_init_191 (v := -1) (by decide) ?_
  refine pf_X7_42 E dX7_init_192 rfl g47 ?_
  refine r_aload_n E (x := some h0) (i := 0) (j := 0) dX7_init_195 rfl rfl ?_
  refine r_sipush E dX7_init_196 (v := 201) (by decide) ?_
  refine r_newaI E dX7_init_199 wm_3_220 (by decide) (by decide) ⟨by first | decide | omega | (dsimp only; omega), by first | decide | omega | (dsimp only; omega)⟩ ?_
  refine pf_X7_46 E hnm dX7_init_201 rfl g48 ?_
  refine r_aload_n E (x := some h0) (i := 0) (j := 0) dX7_init_204 rfl rfl ?_
  refine r_sipush E dX7_init_205 (v := 201) (by decide) ?_
  refine r_nm e50 ?_
  refine r_newaI E dX7_init_208 wm_3_220 (by decide) (by decide) ⟨by first | decide | omega | (dsimp only; omega), by first | decide | omega | (dsimp only; omega)⟩ ?_
  refine pf_X7_49 E hnm dX7_init_210 rfl g51 ?_
  refine r_aload_n E (x := some h0) (i := 0) (j := 0) dX7_init_213 rfl rfl ?_
  refine r_sipush E dX7_init_214 (v := 603) (by decide) ?_
  refine r_newaI E dX7_init_217 wm_3_220 (by decide) (by decide) ⟨by first | decide | omega | (dsimp only; omega), by first | decide | omega | (dsimp only; omega)⟩ ?_
  refine pf_X7_52 E hnm dX7_init_219 rfl g52 ?_
  refine r_aload_n E (x := some h0) (i := 0) (j := 0) dX7_init_222 rfl rfl ?_
  refine r_sipush E dX7_init_223 (v := 201) (by decide) ?_
  refine r_nm e54 ?_
  refine r_newaJ E dX7_init_226 wm_3_221 (by decide) (by decide) ⟨by first | decide | omega | (dsimp only; omega), by first | decide | omega | (dsimp only; omega)⟩ ?_
  refine pf_X7_55 E hnm dX7_init_228 rfl g55 ?_
  refine r_aload_n E (x := some h0) (i := 0) (j := 0) dX7_init_231 rfl rfl ?_
  refine r_iconst E dX7_init_232 (v := -1) (by decide) ?_
  refine pf_X7_58 E dX7_init_233 rfl g55 ?_
  refine r_aload_n E (x := some h0) (i := 0) (j := 0) dX7_init_236 rfl rfl ?_
  refine r_iconst E dX7_init_237 (v := -1) (by decide) ?_
  refine pf_X7_61 E dX7_init_238 rfl g55 ?_
  refine r_iconst E dX7_init_241 (v := 0) (by decide) ?_
  refine r_istore_n E (i := 1) (lv' := [(1, .int ((0 : Int32))), (0, va_rf (some h0))]) dX7_init_242 rfl (by decide) (by first | rfl | (simp only [List.filter_cons, List.filter_nil, va_rf_cat]; rfl)) ?_
  refine r_sub [1, 0] (lv' := [(0, va_rf (some h0)), (1, .int ((0 : Int32)))]) rfl ?_
  exact wlp_X7_init E hnm _ _ _ _ _ _ h
