def lp_X7_eager : Nat → Dp → Sg → Nat → Int32 → Int32 → Int32 → Option (Unit × Sg)
  | 0, _, _, _, _, _, _ => none
  | f + 1, d, σ, h0, v1, v2, v3 => (if (3 : Int32) ≤ v2 then (if (3 : Int32) ≤ v2 then (if gc σ h0 = 9 then (Option.bind (gp σ 816 h0) fun a62 => (if gc σ a62 = 10 then (if ¬ (v3 < 0 ∨ gl σ a62 ≤ Int32.toNatClampNeg v3) then (if ¬ ((v3 + (1 : Int32)) < 0 ∨ gl σ a62 ≤ Int32.toNatClampNeg (v3 + (1 : Int32))) then (if ¬ ((v3 + (2 : Int32)) < 0 ∨ gl σ a62 ≤ Int32.toNatClampNeg (v3 + (2 : Int32))) then (b2 (ex_X7_act d σ h0 v1 (ai σ a62 (Int32.toNatClampNeg v3)) (ai σ a62 (Int32.toNatClampNeg (v3 + (1 : Int32)))) (ai σ a62 (Int32.toNatClampNeg (v3 + (2 : Int32))))) fun r70 s69 => (if gc s69 h0 = 9 then (if (gi s69 820 h0) = (0 : Int32) then some ((), (si (si s69 819 h0 r70) 818 h0 ((gi s69 818 h0) - (1 : Int32)))) else some ((), s69)) else none)) else none) else none) else none) else none)) else none) else (if gc σ h0 = 9 then (Option.bind (gp σ 815 h0) fun a74 => (if gc σ a74 = 10 then (if ¬ ((gi σ 818 h0) < 0 ∨ gl σ a74 ≤ Int32.toNatClampNeg (gi σ 818 h0)) then (b2 (ex_X7_begin d (wi σ a74 (Int32.toNatClampNeg (gi σ 818 h0)) (v2 + (1 : Int32))) h0 v1 v2) fun r80 s79 => some ((), s79)) else none) else none)) else none)) else (if gc σ h0 = 9 then (b2 (ex_X7_isNode d σ h0 v1 v2) fun r84 s83 => (if r84 = (0 : Int32) then lp_X7_eager f d s83 h0 v1 (v2 + 1) v3 else (if (3 : Int32) ≤ v2 then (if gc s83 h0 = 9 then (Option.bind (gp s83 816 h0) fun a88 => (if gc s83 a88 = 10 then (if ¬ (v3 < 0 ∨ gl s83 a88 ≤ Int32.toNatClampNeg v3) then (if ¬ ((v3 + (1 : Int32)) < 0 ∨ gl s83 a88 ≤ Int32.toNatClampNeg (v3 + (1 : Int32))) then (if ¬ ((v3 + (2 : Int32)) < 0 ∨ gl s83 a88 ≤ Int32.toNatClampNeg (v3 + (2 : Int32))) then (b2 (ex_X7_act d s83 h0 v1 (ai s83 a88 (Int32.toNatClampNeg v3)) (ai s83 a88 (Int32.toNatClampNeg (v3 + (1 : Int32)))) (ai s83 a88 (Int32.toNatClampNeg (v3 + (2 : Int32))))) fun r96 s95 => (if gc s95 h0 = 9 then (if (gi s95 820 h0) = (0 : Int32) then some ((), (si (si s95 819 h0 r96) 818 h0 ((gi s95 818 h0) - (1 : Int32)))) else some ((), s95)) else none)) else none) else none) else none) else none)) else none) else (if gc s83 h0 = 9 then (Option.bind (gp s83 815 h0) fun a100 => (if gc s83 a100 = 10 then (if ¬ ((gi s83 818 h0) < 0 ∨ gl s83 a100 ≤ Int32.toNatClampNeg (gi s83 818 h0)) then (b2 (ex_X7_begin d (wi s83 a100 (Int32.toNatClampNeg (gi s83 818 h0)) (v2 + (1 : Int32))) h0 v1 v2) fun r106 s105 => some ((), s105)) else none) else none)) else none)))) else none))
set_option maxHeartbeats 4000000 in
set_option maxRecDepth 20000 in
theorem wlp_X7_eager {p : Program} {l : Launch} {e : Env} {s : State} {m : MethodId} {args : Array Value} {below : List Frame} {meth : Method} {c : Code} {d : Dp} {σ0 σ' : Sg} {r : Unit} (E : Ev p s m args meth c RX7 cX7_eager 5 none d (AA σ0)) : ∀ (f : Nat) (σ : Sg) (h0 : Nat) (v1 : Int32) (v2 : Int32) (v3 : Int32), lp_X7_eager f d σ h0 v1 v2 v3 = some (r, σ') → Gk p l e { frames := 5, cells := 0, slots := 0, locals := 123 } s m args below meth c d (AA σ0) (MQ below (QQ d σ0 none σ') args s 0 0 (AA σ0)) 5 σ 0 0 37 [(0, va_rf (some h0)), (1, .int (v1)), (2, .int (v2)), (3, .int (v3))] [] := by
  intro f
  induction f with
  | zero => intro _ _ _ _ _ h; cases h
  | succ f ih =>
    intro σ h0 v1 v2 v3 h
    unfold lp_X7_eager at h
    refine r_iload_n E (i := 2) (j := 2) dX7_eager_37 rfl rfl ?_
    refine r_iconst E dX7_eager_38 (v := 3) (by decide) ?_
    refine r_icmp_ge E (tgt := 57) dX7_eager_39 (by decide) (fun c59 => ?_) (fun c59 => ?_)
    · have h := ift c59 h
      refine r_iload_n E (i := 2) (j := 2) dX7_eager_57 rfl rfl ?_
      refine r_iconst E dX7_eager_58 (v := 3) (by decide) ?_
      refine r_icmp_ge E (tgt := 81) dX7_eager_59 (by decide) (fun c60 => ?_) (fun c60 => ?_)
      · have h := ift c60 h
        obtain ⟨g61, h⟩ := ck h
        obtain ⟨a62, e63, h⟩ := nn h
        obtain ⟨g64, h⟩ := ck h
        obtain ⟨g65, h⟩ := ck h
        obtain ⟨g66, h⟩ := ck h
        obtain ⟨g67, h⟩ := ck h
        obtain ⟨r70, s69, hc68, h⟩ := nb2 h
        obtain ⟨g71, h⟩ := ck h
        refine r_aload_n E (x := some h0) (i := 0) (j := 0) dX7_eager_81 rfl rfl ?_
        refine r_iload_n E (i := 1) (j := 1) dX7_eager_82 rfl rfl ?_
        refine r_aload_n E (x := some h0) (i := 0) (j := 0) dX7_eager_83 rfl rfl ?_
        refine gf_X7_52 E (x := gp σ 816 h0) dX7_eager_84 rfl g61 rfl ?_
        refine r_iload_n E (i := 3) (j := 3) dX7_eager_87 rfl rfl ?_
        refine r_iald E dX7_eager_88 e63 g64 g65 ?_
        refine r_aload_n E (x := some h0) (i := 0) (j := 0) dX7_eager_89 rfl rfl ?_
        refine gf_X7_52 E (x := gp σ 816 h0) dX7_eager_90 rfl g61 rfl ?_
        refine r_iload_n E (i := 3) (j := 3) dX7_eager_93 rfl rfl ?_
        refine r_iconst E dX7_eager_94 (v := 1) (by decide) ?_
        refine r_iadd E dX7_eager_95 ?_
        refine r_iald E dX7_eager_96 e63 g64 g66 ?_
        refine r_aload_n E (x := some h0) (i := 0) (j := 0) dX7_eager_97 rfl rfl ?_
        refine gf_X7_52 E (x := gp σ 816 h0) dX7_eager_98 rfl g61 rfl ?_
        refine r_iload_n E (i := 3) (j := 3) dX7_eager_101 rfl rfl ?_
        refine r_iconst E dX7_eager_102 (v := 2) (by decide) ?_
        refine r_iadd E dX7_eager_103 ?_
        refine r_iald E dX7_eager_104 e63 g64 g67 ?_
        refine cl_X7_147 E (m_X7_act hc68) dX7_eager_105 ⟨Nat.le_of_ble_eq_true rfl, Nat.le_of_ble_eq_true rfl⟩ ⟨by first | decide | omega | (dsimp only; omega), by first | decide | omega | (dsimp only; omega)⟩ (by decide) rfl g61 ?_
        refine r_istore E (lv' := [(4, .int (r70)), (0, va_rf (some h0)), (1, .int (v1)), (2, .int (v2)), (3, .int (v3))]) dX7_eager_108 (by decide) (by first | rfl | (simp only [List.filter_cons, List.filter_nil, va_rf_cat]; rfl)) ?_
        refine r_aload_n E (x := some h0) (i := 0) (j := 1) dX7_eager_110 rfl rfl ?_
        refine gf_X7_82 E (x := gi s69 820 h0) dX7_eager_111 rfl g71 rfl ?_
        refine r_if_eq E (tgt := 118) dX7_eager_114 (by decide) (fun c72 => ?_) (fun c72 => ?_)
        · have h := ift c72 h
          obtain ⟨rfl, rfl⟩ := lf2 h
          refine r_aload_n E (x := some h0) (i := 0) (j := 1) dX7_eager_118 rfl rfl ?_
          refine r_iload E (j := 0) dX7_eager_119 rfl ?_
          refine pf_X7_114 E dX7_eager_121 rfl g71 ?_
          refine r_aload_n E (x := some h0) (i := 0) (j := 1) dX7_eager_124 rfl rfl ?_
          refine r_dup E dX7_eager_125 (va_rf_cat _) ?_
          refine gf_X7_98 E (x := gi s69 818 h0) dX7_eager_126 rfl g71 rfl ?_
          refine r_iconst E dX7_eager_129 (v := 1) (by decide) ?_
          refine r_isub E dX7_eager_130 ?_
          refine pf_X7_98 E dX7_eager_131 rfl g71 ?_
          exact r_vret E dX7_eager_134
        · have h := iff' c72 h
          obtain ⟨rfl, rfl⟩ := lf2 h
          exact r_vret E dX7_eager_117
      · have h := iff' c60 h
        obtain ⟨g73, h⟩ := ck h
        obtain ⟨a74, e75, h⟩ := nn h
        obtain ⟨g76, h⟩ := ck h
        obtain ⟨g77, h⟩ := ck h
        obtain ⟨r80, s79, hc78, h⟩ := nb2 h
        obtain ⟨rfl, rfl⟩ := lf2 h
        refine r_aload_n E (x := some h0) (i := 0) (j := 0) dX7_eager_62 rfl rfl ?_
        refine gf_X7_49 E (x := gp σ 815 h0) dX7_eager_63 rfl g73 rfl ?_
        refine r_aload_n E (x := some h0) (i := 0) (j := 0) dX7_eager_66 rfl rfl ?_
        refine gf_X7_98 E (x := gi σ 818 h0) dX7_eager_67 rfl g73 rfl ?_
        refine r_iload_n E (i := 2) (j := 2) dX7_eager_70 rfl rfl ?_
        refine r_iconst E dX7_eager_71 (v := 1) (by decide) ?_
        refine r_iadd E dX7_eager_72 ?_
        refine r_iast E dX7_eager_73 e75 g76 g77 ?_
        refine r_aload_n E (x := some h0) (i := 0) (j := 0) dX7_eager_74 rfl rfl ?_
        refine r_iload_n E (i := 1) (j := 1) dX7_eager_75 rfl rfl ?_
        refine r_iload_n E (i := 2) (j := 2) dX7_eager_76 rfl rfl ?_
        refine cl_X7_127 E (m_X7_begin hc78) dX7_eager_77 ⟨Nat.le_of_ble_eq_true rfl, Nat.le_of_ble_eq_true rfl⟩ ⟨by first | decide | omega | (dsimp only; omega), by first | decide | omega | (dsimp only; omega)⟩ (by decide) rfl g73 ?_
        exact r_vret E dX7_eager_80
    · have h := iff' c59 h
      obtain ⟨g81, h⟩ := ck h
      obtain ⟨r84, s83, hc82, h⟩ := nb2 h
      refine r_aload_n E (x := some h0) (i := 0) (j := 0) dX7_eager_42 rfl rfl ?_
      refine r_iload_n E (i := 1) (j := 1) dX7_eager_43 rfl rfl ?_
      refine r_iload_n E (i := 2) (j := 2) dX7_eager_44 rfl rfl ?_
      refine cl_X7_67 E (m_X7_isNode hc82) dX7_eager_45 ⟨Nat.le_of_ble_eq_true rfl, Nat.le_of_ble_eq_true rfl⟩ ⟨by first | decide | omega | (dsimp only; omega), by first | decide | omega | (dsimp only; omega)⟩ (by decide) rfl g81 ?_
      refine r_if_ne E (tgt := 57) dX7_eager_48 (by decide) (fun c85 => ?_) (fun c85 => ?_)
      · have h := iff' c85 h
        refine r_iload_n E (i := 2) (j := 2) dX7_eager_57 rfl rfl ?_
        refine r_iconst E dX7_eager_58 (v := 3) (by decide) ?_
        refine r_icmp_ge E (tgt := 81) dX7_eager_59 (by decide) (fun c86 => ?_) (fun c86 => ?_)
        · have h := ift c86 h
          obtain ⟨g87, h⟩ := ck h
          obtain ⟨a88, e89, h⟩ := nn h
          obtain ⟨g90, h⟩ := ck h
          obtain ⟨g91, h⟩ := ck h
          obtain ⟨g92, h⟩ := ck h
          obtain ⟨g93, h⟩ := ck h
          obtain ⟨r96, s95, hc94, h⟩ := nb2 h
          obtain ⟨g97, h⟩ := ck h
          refine r_aload_n E (x := some h0) (i := 0) (j := 0) dX7_eager_81 rfl rfl ?_
          refine r_iload_n E (i := 1) (j := 1) dX7_eager_82 rfl rfl ?_
          refine r_aload_n E (x := some h0) (i := 0) (j := 0) dX7_eager_83 rfl rfl ?_
          refine gf_X7_52 E (x := gp s83 816 h0) dX7_eager_84 rfl g87 rfl ?_
          refine r_iload_n E (i := 3) (j := 3) dX7_eager_87 rfl rfl ?_
          refine r_iald E dX7_eager_88 e89 g90 g91 ?_
          refine r_aload_n E (x := some h0) (i := 0) (j := 0) dX7_eager_89 rfl rfl ?_
          refine gf_X7_52 E (x := gp s83 816 h0) dX7_eager_90 rfl g87 rfl ?_
          refine r_iload_n E (i := 3) (j := 3) dX7_eager_93 rfl rfl ?_
          refine r_iconst E dX7_eager_94 (v := 1) (by decide) ?_
          refine r_iadd E dX7_eager_95 ?_
          refine r_iald E dX7_eager_96 e89 g90 g92 ?_
          refine r_aload_n E (x := some h0) (i := 0) (j := 0) dX7_eager_97 rfl rfl ?_
          refine gf_X7_52 E (x := gp s83 816 h0) dX7_eager_98 rfl g87 rfl ?_
          refine r_iload_n E (i := 3) (j := 3) dX7_eager_101 rfl rfl ?_
          refine r_iconst E dX7_eager_102 (v := 2) (by decide) ?_
          refine r_iadd E dX7_eager_103 ?_
          refine r_iald E dX7_eager_104 e89 g90 g93 ?_
          refine cl_X7_147 E (m_X7_act hc94) dX7_eager_105 ⟨Nat.le_of_ble_eq_true rfl, Nat.le_of_ble_eq_true rfl⟩ ⟨by first | decide | omega | (dsimp only; omega), by first | decide | omega | (dsimp only; omega)⟩ (by decide) rfl g87 ?_
          refine r_istore E (lv' := [(4, .int (r96)), (0, va_rf (some h0)), (1, .int (v1)), (2, .int (v2)), (3, .int (v3))]) dX7_eager_108 (by decide) (by first | rfl | (simp only [List.filter_cons, List.filter_nil, va_rf_cat]; rfl)) ?_
          refine r_aload_n E (x := some h0) (i := 0) (j := 1) dX7_eager_110 rfl rfl ?_
          refine gf_X7_82 E (x := gi s95 820 h0) dX7_eager_111 rfl g97 rfl ?_
          refine r_if_eq E (tgt := 118) dX7_eager_114 (by decide) (fun c98 => ?_) (fun c98 => ?_)
          · have h := ift c98 h
            obtain ⟨rfl, rfl⟩ := lf2 h
            refine r_aload_n E (x := some h0) (i := 0) (j := 1) dX7_eager_118 rfl rfl ?_
            refine r_iload E (j := 0) dX7_eager_119 rfl ?_
            refine pf_X7_114 E dX7_eager_121 rfl g97 ?_
            refine r_aload_n E (x := some h0) (i := 0) (j := 1) dX7_eager_124 rfl rfl ?_
            refine r_dup E dX7_eager_125 (va_rf_cat _) ?_
            refine gf_X7_98 E (x := gi s95 818 h0) dX7_eager_126 rfl g97 rfl ?_
            refine r_iconst E dX7_eager_129 (v := 1) (by decide) ?_
            refine r_isub E dX7_eager_130 ?_
            refine pf_X7_98 E dX7_eager_131 rfl g97 ?_
            exact r_vret E dX7_eager_134
          · have h := iff' c98 h
            obtain ⟨rfl, rfl⟩ := lf2 h
            exact r_vret E dX7_eager_117
        · have h := iff' c86 h
          obtain ⟨g99, h⟩ := ck h
          obtain ⟨a100, e101, h⟩ := nn h
          obtain ⟨g102, h⟩ := ck h
          obtain ⟨g103, h⟩ := ck h
          obtain ⟨r106, s105, hc104, h⟩ := nb2 h
          obtain ⟨rfl, rfl⟩ := lf2 h
          refine r_aload_n E (x := some h0) (i := 0) (j := 0) dX7_eager_62 rfl rfl ?_
          refine gf_X7_49 E (x := gp s83 815 h0) dX7_eager_63 rfl g99 rfl ?_
          refine r_aload_n E (x := some h0) (i := 0) (j := 0) dX7_eager_66 rfl rfl ?_
          refine gf_X7_98 E (x := gi s83 818 h0) dX7_eager_67 rfl g99 rfl ?_
          refine r_iload_n E (i := 2) (j := 2) dX7_eager_70 rfl rfl ?_
          refine r_iconst E dX7_eager_71 (v := 1) (by decide) ?_
          refine r_iadd E dX7_eager_72 ?_
          refine r_iast E dX7_eager_73 e101 g102 g103 ?_
          refine r_aload_n E (x := some h0) (i := 0) (j := 0) dX7_eager_74 rfl rfl ?_
          refine r_iload_n E (i := 1) (j := 1) dX7_eager_75 rfl rfl ?_
          refine r_iload_n E (i := 2) (j := 2) dX7_eager_76 rfl rfl ?_
          refine cl_X7_127 E (m_X7_begin hc104) dX7_eager_77 ⟨Nat.le_of_ble_eq_true rfl, Nat.le_of_ble_eq_true rfl⟩ ⟨by first | decide | omega | (dsimp only; omega), by first | decide | omega | (dsimp only; omega)⟩ (by decide) rfl g99 ?_
          exact r_vret E dX7_eager_80
      · have h := ift c85 h
        refine r_iinc E (j := 2) (v := v2 + 1) (lv' := [(2, .int (v2 + 1)), (0, va_rf (some h0)), (1, .int (v1)), (3, .int (v3))]) dX7_eager_51 rfl rfl (by decide) (by first | rfl | (simp only [List.filter_cons, List.filter_nil, va_rf_cat]; rfl)) ?_
        refine r_goto E (tgt := 37) dX7_eager_54 (by decide) ?_
        refine r_sub [1, 2, 0, 3] (lv' := [(0, va_rf (some h0)), (1, .int (v1)), (2, .int (v2 + 1)), (3, .int (v3))]) rfl ?_
        exact ih _ _ _ _ _ h
def ex_X7_eager (d : Dp) (σ : Sg) (h0 : Nat) (p1 : Int32) : Option (Unit × Sg) := (if gc σ h0 = 9 then (Option.bind (gp σ 815 h0) fun a2 => (if gc σ a2 = 10 then (if ¬ ((gi σ 818 h0) < 0 ∨ gl σ a2 ≤ Int32.toNatClampNeg (gi σ 818 h0)) then (if (ai σ a2 (Int32.toNatClampNeg (gi σ 818 h0))) ≤ (0 : Int32) then lp_X7_eager 300 d σ h0 p1 (ai σ a2 (Int32.toNatClampNeg (gi σ 818 h0))) (((3 : Int32) * (gi σ 818 h0)) - (3 : Int32)) else (Option.bind (gp σ 816 h0) fun a55 => (if gc σ a55 = 10 then (if ¬ ((((((3 : Int32) * (gi σ 818 h0)) - (3 : Int32)) + (ai σ a2 (Int32.toNatClampNeg (gi σ 818 h0)))) - (1 : Int32)) < 0 ∨ gl σ a55 ≤ Int32.toNatClampNeg (((((3 : Int32) * (gi σ 818 h0)) - (3 : Int32)) + (ai σ a2 (Int32.toNatClampNeg (gi σ 818 h0)))) - (1 : Int32))) then lp_X7_eager 300 d (wi σ a55 (Int32.toNatClampNeg (((((3 : Int32) * (gi σ 818 h0)) - (3 : Int32)) + (ai σ a2 (Int32.toNatClampNeg (gi σ 818 h0)))) - (1 : Int32))) (gi σ 819 h0)) h0 p1 (ai σ a2 (Int32.toNatClampNeg (gi σ 818 h0))) (((3 : Int32) * (gi σ 818 h0)) - (3 : Int32)) else none) else none))) else none) else none)) else none)
set_option maxHeartbeats 4000000 in
set_option maxRecDepth 20000 in
theorem m_X7_eager {l : Launch} {d : Dp} {σ σ' : Sg} {h0 : Nat} {p1 : Int32} {r : Unit} (h : ex_X7_eager d σ h0 p1 = some (r, σ')) : Mt l d yX7_eager cX7_eager 5 none 5 123 σ [.ref h0, .int (p1)] none σ' 0 0 := by
  refine mt_start (own := RX7) (lv0 := [(0, va_rf (some h0)), (1, .int (p1))]) (by decide) rfl (by simp only [lg_sl, List.flatMap_cons, List.flatMap_nil, va_rf_cat]; exact Nat.le_of_ble_eq_true rfl) (by first | rfl | (simp only [lv_args, va_rf_cat]; rfl)) ?_
  intro p e s m args below meth c E hnm
  unfold ex_X7_eager at h
  obtain ⟨g1, h⟩ := ck h
  obtain ⟨a2, e3, h⟩ := nn h
  obtain ⟨g4, h⟩ := ck h
  obtain ⟨g5, h⟩ := ck h
  refine r_aload_n E (x := some h0) (i := 0) (j := 0) dX7_eager_0 rfl rfl ?_
  refine gf_X7_49 E (x := gp σ 815 h0) dX7_eager_1 rfl g1 rfl ?_
  refine r_aload_n E (x := some h0) (i := 0) (j := 0) dX7_eager_4 rfl rfl ?_
  refine gf_X7_98 E (x := gi σ 818 h0) dX7_eager_5 rfl g1 rfl ?_
  refine r_iald E dX7_eager_8 e3 g4 g5 ?_
  refine r_istore_n E (i := 2) (lv' := [(2, .int (ai σ a2 (Int32.toNatClampNeg (gi σ 818 h0)))), (0, va_rf (some h0)), (1, .int (p1))]) dX7_eager_9 rfl (by decide) (by first | rfl | (simp only [List.filter_cons, List.filter_nil, va_rf_cat]; rfl)) ?_
  refine r_iconst E dX7_eager_10 (v := 3) (by decide) ?_
  refine r_aload_n E (x := some h0) (i := 0) (j := 1) dX7_eager_11 rfl rfl ?_
  refine gf_X7_98 E (x := gi σ 818 h0) dX7_eager_12 rfl g1 rfl ?_
  refine r_imul E dX7_eager_15 ?_
  refine r_iconst E dX7_eager_16 (v := 3) (by decide) ?_
  refine r_isub E dX7_eager_17 ?_
  refine r_istore_n E (i := 3) (lv' := [(3, .int (((3 : Int32) * (gi σ 818 h0)) - (3 : Int32))), (2, .int (ai σ a2 (Int32.toNatClampNeg (gi σ 818 h0)))), (0, va_rf (some h0)), (1, .int (p1))]) dX7_eager_18 rfl (by decide) (by first | rfl | (simp only [List.filter_cons, List.filter_nil, va_rf_cat]; rfl)) ?_
  refine r_iload_n E (i := 2) (j := 1) dX7_eager_19 rfl rfl ?_
  refine r_if_le E (tgt := 37) dX7_eager_20 (by decide) (fun c6 => ?_) (fun c6 => ?_)
  · have h := ift c6 h
    refine r_sub [2, 3, 1, 0] (lv' := [(0, va_rf (some h0)), (1, .int (p1)), (2, .int (ai σ a2 (Int32.toNatClampNeg (gi σ 818 h0)))), (3, .int (((3 : Int32) * (gi σ 818 h0)) - (3 : Int32)))]) rfl ?_
    exact wlp_X7_eager E _ _ _ _ _ _ h
  · have h := iff' c6 h
    obtain ⟨a55, e56, h⟩ := nn h
    obtain ⟨g57, h⟩ := ck h
    obtain ⟨g58, h⟩ := ck h
    refine r_aload_n E (x := some h0) (i := 0) (j := 2) dX7_eager_23 rfl rfl ?_
    refine gf_X7_52 E (x := gp σ 816 h0) dX7_eager_24 rfl g1 rfl ?_
    refine r_iload_n E (i := 3) (j := 0) dX7_eager_27 rfl rfl ?_
    refine r_iload_n E (i := 2) (j := 1) dX7_eager_28 rfl rfl ?_
    refine r_iadd E dX7_eager_29 ?_
    refine r_iconst E dX7_eager_30 (v := 1) (by decide) ?_
    refine r_isub E dX7_eager_31 ?_
    refine r_aload_n E (x := some h0) (i := 0) (j := 2) dX7_eager_32 rfl rfl ?_
    refine gf_X7_114 E (x := gi σ 819 h0) dX7_eager_33 rfl g1 rfl ?_
    refine r_iast E dX7_eager_36 e56 g57 g58 ?_
    refine r_sub [2, 3, 1, 0] (lv' := [(0, va_rf (some h0)), (1, .int (p1)), (2, .int (ai σ a2 (Int32.toNatClampNeg (gi σ 818 h0)))), (3, .int (((3 : Int32) * (gi σ 818 h0)) - (3 : Int32)))]) rfl ?_
    exact wlp_X7_eager E _ _ _ _ _ _ h
