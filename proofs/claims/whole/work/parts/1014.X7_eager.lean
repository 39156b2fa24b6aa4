def lp_X7_eager : Nat → Dp → Sg → Nat → Int32 → Int32 → Int32 → Option (Unit × Sg)
  | 0, _, _, _, _, _, _ => none
  | f + 1, d, σ, h0, v1, v2, v3 => (if (3 : Int32) ≤ v2 then (if (3 : Int32) ≤ v2 then (if gc σ h0 = 9 then (Option.bind (gp σ 816 h0) fun a80 => (if gc σ a80 = 10 then (if ¬ (v3 < 0 ∨ gl σ a80 ≤ Int32.toNatClampNeg v3) then (if ¬ ((v3 + (1 : Int32)) < 0 ∨ gl σ a80 ≤ Int32.toNatClampNeg (v3 + (1 : Int32))) then (if ¬ ((v3 + (2 : Int32)) < 0 ∨ gl σ a80 ≤ Int32.toNatClampNeg (v3 + (2 : Int32))) then (b2 (ex_X7_act d σ h0 v1 (ai σ a80 (Int32.toNatClampNeg v3)) (ai σ a80 (Int32.toNatClampNeg (v3 + (1 : Int32)))) (ai σ a80 (Int32.toNatClampNeg (v3 + (2 : Int32))))) fun r88 s87 => (if gc s87 h0 = 9 then (if (gi s87 820 h0) = (0 : Int32) then (bn (si s87 819 h0 r88) fun s91 => (if gc s91 h0 = 9 then (bn (si s91 818 h0 ((gi s91 818 h0) - (1 : Int32))) fun s94 => some ((), s94)) else none)) else some ((), s87)) else none)) else none) else none) else none) else none)) else none) else (if gc σ h0 = 9 then (Option.bind (gp σ 815 h0) fun a97 => (if gc σ a97 = 10 then (if ¬ ((gi σ 818 h0) < 0 ∨ gl σ a97 ≤ Int32.toNatClampNeg (gi σ 818 h0)) then (bn (wi σ a97 (Int32.toNatClampNeg (gi σ 818 h0)) (v2 + (1 : Int32))) fun s101 => (if gc s101 h0 = 9 then (b2 (ex_X7_begin d s101 h0 v1 v2) fun r106 s105 => some ((), s105)) else none)) else none) else none)) else none)) else (if gc σ h0 = 9 then (b2 (ex_X7_isNode d σ h0 v1 v2) fun r110 s109 => (if r110 = (0 : Int32) then lp_X7_eager f d s109 h0 v1 (v2 + 1) v3 else (if (3 : Int32) ≤ v2 then (if gc s109 h0 = 9 then (Option.bind (gp s109 816 h0) fun a114 => (if gc s109 a114 = 10 then (if ¬ (v3 < 0 ∨ gl s109 a114 ≤ Int32.toNatClampNeg v3) then (if ¬ ((v3 + (1 : Int32)) < 0 ∨ gl s109 a114 ≤ Int32.toNatClampNeg (v3 + (1 : Int32))) then (if ¬ ((v3 + (2 : Int32)) < 0 ∨ gl s109 a114 ≤ Int32.toNatClampNeg (v3 + (2 : Int32))) then (b2 (ex_X7_act d s109 h0 v1 (ai s109 a114 (Int32.toNatClampNeg v3)) (ai s109 a114 (Int32.toNatClampNeg (v3 + (1 : Int32)))) (ai s109 a114 (Int32.toNatClampNeg (v3 + (2 : Int32))))) fun r122 s121 => (if gc s121 h0 = 9 then (if (gi s121 820 h0) = (0 : Int32) then (bn (si s121 819 h0 r122) fun s125 => (if gc s125 h0 = 9 then (bn (si s125 818 h0 ((gi s125 818 h0) - (1 : Int32))) fun s128 => some ((), s128)) else none)) else some ((), s121)) else none)) else none) else none) else none) else none)) else none) else (if gc s109 h0 = 9 then (Option.bind (gp s109 815 h0) fun a131 => (if gc s109 a131 = 10 then (if ¬ ((gi s109 818 h0) < 0 ∨ gl s109 a131 ≤ Int32.toNatClampNeg (gi s109 818 h0)) then (bn (wi s109 a131 (Int32.toNatClampNeg (gi s109 818 h0)) (v2 + (1 : Int32))) fun s135 => (if gc s135 h0 = 9 then (b2 (ex_X7_begin d s135 h0 v1 v2) fun r140 s139 => some ((), s139)) else none)) else none) else none)) else none)))) else none))
set_option maxHeartbeats 4000000 in
set_option maxRecDepth 20000 in
theorem wlp_X7_eager {p : Program} {l : Launch} {e : Env} {s : State} {m : MethodId} {args : Array Value} {below : List Frame} {meth : Method} {c : Code} {d : Dp} {σ0 σ' : Sg} {r : Unit} (E : Ev p s m args meth c RX7 cX7_eager 5 none d (AA σ0)) : ∀ (f : Nat) (σ : Sg) (h0 : Nat) (v1 : Int32) (v2 : Int32) (v3 : Int32), lp_X7_eager f d σ h0 v1 v2 v3 = some (r, σ') → Gk p l e { frames := 5, cells := 0, slots := 0, locals := 123 } s m args below meth c d (AA σ0) (MQ below (QQ d σ0 none σ') args s 0 0 (AA σ0)) 5 σ 0 0 37 [(0, va_rf (some h0)), (1, .int (v1)), (2, .int (v2)), (3, .int (v3))] [] := by
  intro f
  induction f with
  | zero => intro _ _ _ _ _ h; cases h
  | succ f ih =>
    intro σ h0 v1 v2 v3 h
    unfold lp_X7_eager at h
    refine r_iload_n E (i := 2) (j := 2) dX7_eager_37 rfl rfl ?_
    refine r_iconst E dX7_eager_38 (v := 3) (by decide) ?_
    refine r_icmp_ge E (tgt := 57) dX7_eager_39 (by decide) (fun c77 => ?_) (fun c77 => ?_)
    · have h := ift c77 h
      refine r_iload_n E (i := 2) (j := 2) dX7_eager_57 rfl rfl ?_
      refine r_iconst E dX7_eager_58 (v := 3) (by decide) ?_
      refine r_icmp_ge E (tgt := 81) dX7_eager_59 (by decide) (fun c78 => ?_) (fun c78 => ?_)
      · have h := ift c78 h
        obtain ⟨g79, h⟩ := ck h
        obtain ⟨a80, e81, h⟩ := nn h
        obtain ⟨g82, h⟩ := ck h
        obtain ⟨g83, h⟩ := ck h
        obtain ⟨g84, h⟩ := ck h
        obtain ⟨g85, h⟩ := ck h
        obtain ⟨r88, s87, hc86, h⟩ := nb2 h
        obtain ⟨g89, h⟩ := ck h
        refine r_aload_n E (x := some h0) (i := 0) (j := 0) dX7_eager_81 rfl rfl ?_
        refine r_iload_n E (i := 1) (j := 1) dX7_eager_82 rfl rfl ?_
        refine r_aload_n E (x := some h0) (i := 0) (j := 0) dX7_eager_83 rfl rfl ?_
        refine gf_X7_52 E (x := gp σ 816 h0) dX7_eager_84 rfl g79 rfl ?_
        refine r_iload_n E (i := 3) (j := 3) dX7_eager_87 rfl rfl ?_
        refine r_iald E dX7_eager_88 e81 g82 g83 ?_
        refine r_aload_n E (x := some h0) (i := 0) (j := 0) dX7_eager_89 rfl rfl ?_
        refine gf_X7_52 E (x := gp σ 816 h0) dX7_eager_90 rfl g79 rfl ?_
        refine r_iload_n E (i := 3) (j := 3) dX7_eager_93 rfl rfl ?_
        refine r_iconst E dX7_eager_94 (v := 1) (by decide) ?_
        refine r_iadd E dX7_eager_95 ?_
        refine r_iald E dX7_eager_96 e81 g82 g84 ?_
        refine r_aload_n E (x := some h0) (i := 0) (j := 0) dX7_eager_97 rfl rfl ?_
        refine gf_X7_52 E (x := gp σ 816 h0) dX7_eager_98 rfl g79 rfl ?_
        refine r_iload_n E (i := 3) (j := 3) dX7_eager_101 rfl rfl ?_
        refine r_iconst E dX7_eager_102 (v := 2) (by decide) ?_
        refine r_iadd E dX7_eager_103 ?_
        refine r_iald E dX7_eager_104 e81 g82 g85 ?_
        refine cl_X7_147 E (m_X7_act hc86) dX7_eager_105 ⟨Nat.le_of_ble_eq_true rfl, Nat.le_of_ble_eq_true rfl⟩ ⟨by first | decide | omega | (dsimp only; omega), by first | decide | omega | (dsimp only; omega)⟩ (by decide) rfl g79 ?_
        refine r_istore E (lv' := [(4, .int (r88)), (0, va_rf (some h0)), (1, .int (v1)), (2, .int (v2)), (3, .int (v3))]) dX7_eager_108 (by decide) (by first | rfl | (simp only [List.filter_cons, List.filter_nil, va_rf_cat]; rfl)) ?_
        refine r_aload_n E (x := some h0) (i := 0) (j := 1) dX7_eager_110 rfl rfl ?_
        refine gf_X7_82 E (x := gi s87 820 h0) dX7_eager_111 rfl g89 rfl ?_
        refine r_if_eq E (tgt := 118) dX7_eager_114 (by decide) (fun c90 => ?_) (fun c90 => ?_)
        · have h := ift c90 h
          obtain ⟨s91, e92, h⟩ := nbn h
          obtain ⟨g93, h⟩ := ck h
          obtain ⟨s94, e95, h⟩ := nbn h
          obtain ⟨rfl, rfl⟩ := lf2 h
          refine r_aload_n E (x := some h0) (i := 0) (j := 1) dX7_eager_118 rfl rfl ?_
          refine r_iload E (j := 0) dX7_eager_119 rfl ?_
          refine pf_X7_114 E dX7_eager_121 rfl g89 ?_
          refine r_nm e92 ?_
          refine r_aload_n E (x := some h0) (i := 0) (j := 1) dX7_eager_124 rfl rfl ?_
          refine r_dup E dX7_eager_125 (va_rf_cat _) ?_
          refine gf_X7_98 E (x := gi s91 818 h0) dX7_eager_126 rfl g93 rfl ?_
          refine r_iconst E dX7_eager_129 (v := 1) (by decide) ?_
          refine r_isub E dX7_eager_130 ?_
          refine pf_X7_98 E dX7_eager_131 rfl g93 ?_
          refine r_nm e95 ?_
          exact r_vret E dX7_eager_134
        · have h := iff' c90 h
          obtain ⟨rfl, rfl⟩ := lf2 h
          exact r_vret E dX7_eager_117
      · have h := iff' c78 h
        obtain ⟨g96, h⟩ := ck h
        obtain ⟨a97, e98, h⟩ := nn h
        obtain ⟨g99, h⟩ := ck h
        obtain ⟨g100, h⟩ := ck h
        obtain ⟨s101, e102, h⟩ := nbn h
        obtain ⟨g103, h⟩ := ck h
        obtain ⟨r106, s105, hc104, h⟩ := nb2 h
        obtain ⟨rfl, rfl⟩ := lf2 h
        refine r_aload_n E (x := some h0) (i := 0) (j := 0) dX7_eager_62 rfl rfl ?_
        refine gf_X7_49 E (x := gp σ 815 h0) dX7_eager_63 rfl g96 rfl ?_
        refine r_aload_n E (x := some h0) (i := 0) (j := 0) dX7_eager_66 rfl rfl ?_
        refine gf_X7_98 E (x := gi σ 818 h0) dX7_eager_67 rfl g96 rfl ?_
        refine r_iload_n E (i := 2) (j := 2) dX7_eager_70 rfl rfl ?_
        refine r_iconst E dX7_eager_71 (v := 1) (by decide) ?_
        refine r_iadd E dX7_eager_72 ?_
        refine r_iast E dX7_eager_73 e98 g99 g100 ?_
        refine r_nm e102 ?_
        refine r_aload_n E (x := some h0) (i := 0) (j := 0) dX7_eager_74 rfl rfl ?_
        refine r_iload_n E (i := 1) (j := 1) dX7_eager_75 rfl rfl ?_
        refine r_iload_n E (i := 2) (j := 2) dX7_eager_76 rfl rfl ?_
        refine cl_X7_127 E (m_X7_begin hc104) dX7_eager_77 ⟨Nat.le_of_ble_eq_true rfl, Nat.le_of_ble_eq_true rfl⟩ ⟨by first | decide | omega | (dsimp only; omega), by first | decide | omega | (dsimp only; omega)⟩ (by decide) rfl g103 ?_
        exact r_vret E dX7_eager_80
    · have h := iff' c77 h
      obtain ⟨g107, h⟩ := ck h
      obtain ⟨r110, s109, hc108, h⟩ := nb2 h
      refine r_aload_n E (x := some h0) (i := 0) (j := 0) dX7_eager_42 rfl rfl ?_
      refine r_iload_n E (i := 1) (j := 1) dX7_eager_43 rfl rfl ?_
      refine r_iload_n E (i := 2) (j := 2) dX7_eager_44 rfl rfl ?_
      refine cl_X7_67 E (m_X7_isNode hc108) dX7_eager_45 ⟨Nat.le_of_ble_eq_true rfl, Nat.le_of_ble_eq_true rfl⟩ ⟨by first | decide | omega | (dsimp only; omega), by first | decide | omega | (dsimp only; omega)⟩ (by decide) rfl g107 ?_
      refine r_if_ne E (tgt := 57) dX7_eager_48 (by decide) (fun c111 => ?_) (fun c111 => ?_)
      · have h := iff' c111 h
        refine r_iload_n E (i := 2) (j := 2) dX7_eager_57 rfl rfl ?_
        refine r_iconst E dX7_eager_58 (v := 3) (by decide) ?_
        refine r_icmp_ge E (tgt := 81) dX7_eager_59 (by decide) (fun c112 => ?_) (fun c112 => ?_)
        · have h := ift c112 h
          obtain ⟨g113, h⟩ := ck h
          obtain ⟨a114, e115, h⟩ := nn h
          obtain ⟨g116, h⟩ := ck h
          obtain ⟨g117, h⟩ := ck h
          obtain ⟨g118, h⟩ := ck h
          obtain ⟨g119, h⟩ := ck h
          obtain ⟨r122, s121, hc120, h⟩ := nb2 h
          obtain ⟨g123, h⟩ := ck h
          refine r_aload_n E (x := some h0) (i := 0) (j := 0) dX7_eager_81 rfl rfl ?_
          refine r_iload_n E (i := 1) (j := 1) dX7_eager_82 rfl rfl ?_
          refine r_aload_n E (x := some h0) (i := 0) (j := 0) dX7_eager_83 rfl rfl ?_
          refine gf_X7_52 E (x := gp s109 816 h0) dX7_eager_84 rfl g113 rfl ?_
          refine r_iload_n E (i := 3) (j := 3) dX7_eager_87 rfl rfl ?_
          refine r_iald E dX7_eager_88 e115 g116 g117 ?_
          refine r_aload_n E (x := some h0) (i := 0) (j := 0) dX7_eager_89 rfl rfl ?_
          refine gf_X7_52 E (x := gp s109 816 h0) dX7_eager_90 rfl g113 rfl ?_
          refine r_iload_n E (i := 3) (j := 3) dX7_eager_93 rfl rfl ?_
          refine r_iconst E dX7_eager_94 (v := 1) (by decide) ?_
          refine r_iadd E dX7_eager_95 ?_
          refine r_iald E dX7_eager_96 e115 g116 g118 ?_
          refine r_aload_n E (x := some h0) (i := 0) (j := 0) dX7_eager_97 rfl rfl ?_
          refine gf_X7_52 E (x := gp s109 816 h0) dX7_eager_98 rfl g113 rfl ?_
          refine r_iload_n E (i := 3) (j := 3) dX7_eager_101 rfl rfl ?_
          refine r_iconst E dX7_eager_102 (v := 2) (by decide) ?_
          refine r_iadd E dX7_eager_103 ?_
          refine r_iald E dX7_eager_104 e115 g116 g119 ?_
          refine cl_X7_147 E (m_X7_act hc120) dX7_eager_105 ⟨Nat.le_of_ble_eq_true rfl, Nat.le_of_ble_eq_true rfl⟩ ⟨by first | decide | omega | (dsimp only; omega), by first | decide | omega | (dsimp only; omega)⟩ (by decide) rfl g113 ?_
          refine r_istore E (lv' := [(4, .int (r122)), (0, va_rf (some h0)), (1, .int (v1)), (2, .int (v2)), (3, .int (v3))]) dX7_eager_108 (by decide) (by first | rfl | (simp only [List.filter_cons, List.filter_nil, va_rf_cat]; rfl)) ?_
          refine r_aload_n E (x := some h0) (i := 0) (j := 1) dX7_eager_110 rfl rfl ?_
          refine gf_X7_82 E (x := gi s121 820 h0) dX7_eager_111 rfl g123 rfl ?_
          refine r_if_eq E (tgt := 118) dX7_eager_114 (by decide) (fun c124 => ?_) (fun c124 => ?_)
          · have h := ift c124 h
            obtain ⟨s125, e126, h⟩ := nbn h
            obtain ⟨g127, h⟩ := ck h
            obtain ⟨s128, e129, h⟩ := nbn h
            obtain ⟨rfl, rfl⟩ := lf2 h
            refine r_aload_n E (x := some h0) (i := 0) (j := 1) dX7_eager_118 rfl rfl ?_
            refine r_iload E (j := 0) dX7_eager_119 rfl ?_
            refine pf_X7_114 E dX7_eager_121 rfl g123 ?_
            refine r_nm e126 ?_
            refine r_aload_n E (x := some h0) (i := 0) (j := 1) dX7_eager_124 rfl rfl ?_
            refine r_dup E dX7_eager_125 (va_rf_cat _) ?_
            refine gf_X7_98 E (x := gi s125 818 h0) dX7_eager_126 rfl g127 rfl ?_
            refine r_iconst E dX7_eager_129 (v := 1) (by decide) ?_
            refine r_isub E dX7_eager_130 ?_
            refine pf_X7_98 E dX7_eager_131 rfl g127 ?_
            refine r_nm e129 ?_
            exact r_vret E dX7_eager_134
          · have h := iff' c124 h
            obtain ⟨rfl, rfl⟩ := lf2 h
            exact r_vret E dX7_eager_117
        · have h := iff' c112 h
          obtain ⟨g130, h⟩ := ck h
          obtain ⟨a131, e132, h⟩ := nn h
          obtain ⟨g133, h⟩ := ck h
          obtain ⟨g134, h⟩ := ck h
          obtain ⟨s135, e136, h⟩ := nbn h
          obtain ⟨g137, h⟩ := ck h
          obtain ⟨r140, s139, hc138, h⟩ := nb2 h
          obtain ⟨rfl, rfl⟩ := lf2 h
          refine r_aload_n E (x := some h0) (i := 0) (j := 0) dX7_eager_62 rfl rfl ?_
          refine gf_X7_49 E (x := gp s109 815 h0) dX7_eager_63 rfl g130 rfl ?_
          refine r_aload_n E (x := some h0) (i := 0) (j := 0) dX7_eager_66 rfl rfl ?_
          refine gf_X7_98 E (x := gi s109 818 h0) dX7_eager_67 rfl g130 rfl ?_
          refine r_iload_n E (i := 2) (j := 2) dX7_eager_70 rfl rfl ?_
          refine r_iconst E dX7_eager_71 (v := 1) (by decide) ?_
          refine r_iadd E dX7_eager_72 ?_
          refine r_iast E dX7_eager_73 e132 g133 g134 ?_
          refine r_nm e136 ?_
          refine r_aload_n E (x := some h0) (i := 0) (j := 0) dX7_eager_74 rfl rfl ?_
          refine r_iload_n E (i := 1) (j := 1) dX7_eager_75 rfl rfl ?_
          refine r_iload_n E (i := 2) (j := 2) dX7_eager_76 rfl rfl ?_
          refine cl_X7_127 E (m_X7_begin hc138) dX7_eager_77 ⟨Nat.le_of_ble_eq_true rfl, Nat.le_of_ble_eq_true rfl⟩ ⟨by first | decide | omega | (dsimp only; omega), by first | decide | omega | (dsimp only; omega)⟩ (by decide) rfl g137 ?_
          exact r_vret E dX7_eager_80
      · have h := ift c111 h
        refine r_iinc E (j := 2) (v := v2 + 1) (lv' := [(2, .int (v2 + 1)), (0, va_rf (some h0)), (1, .int (v1)), (3, .int (v3))]) dX7_eager_51 rfl rfl (by decide) (by first | rfl | (simp only [List.filter_cons, List.filter_nil, va_rf_cat]; rfl)) ?_
        refine r_goto E (tgt := 37) dX7_eager_54 (by decide) ?_
        refine r_sub [1, 2, 0, 3] (lv' := [(0, va_rf (some h0)), (1, .int (v1)), (2, .int (v2 + 1)), (3, .int (v3))]) rfl ?_
        exact ih _ _ _ _ _ h
def ex_X7_eager (d : Dp) (σ : Sg) (h0 : Nat) (p1 : Int32) : Option (Unit × Sg) := (if gc σ h0 = 9 then (Option.bind (gp σ 815 h0) fun a2 => (if gc σ a2 = 10 then (if ¬ ((gi σ 818 h0) < 0 ∨ gl σ a2 ≤ Int32.toNatClampNeg (gi σ 818 h0)) then (if (ai σ a2 (Int32.toNatClampNeg (gi σ 818 h0))) ≤ (0 : Int32) then lp_X7_eager 300 d σ h0 p1 (ai σ a2 (Int32.toNatClampNeg (gi σ 818 h0))) (((3 : Int32) * (gi σ 818 h0)) - (3 : Int32)) else (Option.bind (gp σ 816 h0) fun a71 => (if gc σ a71 = 10 then (if ¬ ((((((3 : Int32) * (gi σ 818 h0)) - (3 : Int32)) + (ai σ a2 (Int32.toNatClampNeg (gi σ 818 h0)))) - (1 : Int32)) < 0 ∨ gl σ a71 ≤ Int32.toNatClampNeg (((((3 : Int32) * (gi σ 818 h0)) - (3 : Int32)) + (ai σ a2 (Int32.toNatClampNeg (gi σ 818 h0)))) - (1 : Int32))) then (bn (wi σ a71 (Int32.toNatClampNeg (((((3 : Int32) * (gi σ 818 h0)) - (3 : Int32)) + (ai σ a2 (Int32.toNatClampNeg (gi σ 818 h0)))) - (1 : Int32))) (gi σ 819 h0)) fun s75 => lp_X7_eager 300 d s75 h0 p1 (ai σ a2 (Int32.toNatClampNeg (gi σ 818 h0))) (((3 : Int32) * (gi σ 818 h0)) - (3 : Int32))) else none) else none))) else none) else none)) else none)
set_option maxHeartbeats 4000000 in
set_option maxRecDepth 20000 in
theorem m_X7_eager {l : Launch} {d : Dp} {σ σ' : Sg} {h0 : Nat} {p1 : Int32} {r : Unit} (h : ex_X7_eager d σ h0 p1 = some (r, σ')) : Mt l d yX7_eager cX7_eager 5 none 5 123 σ [.ref h0, .int (p1)] none σ' 0 0 := by
  refine mt_start (own := RX7) (lv0 := [(0, va_rf (some h0)), (1, .int (p1))]) (by decide) rfl (by simp only [lg_sl, List.flatMap_cons, List.flatMap_nil, va_rf_cat]; exact Nat.le_of_ble_eq_true rfl) (by first | rfl | (simp only [lv_args, va_rf_cat]; rfl)) ?_
  intro p e s m args below meth c E hnm
  unfold ex_X7_eager at h
  obtain ⟨g1, h⟩ := ck h
  obtain ⟨a2, e3, h⟩ := nn h
  obtain ⟨g4, h⟩ := ck h
  obtain ⟨g5, h⟩ := ck h
  refine r_aload_n E (x := some h0) (i := 0) (j := 0) dX7_eager_0 rfl rfl ?_
  refine gf_X7_49 E (x := gp σ 815 h0) dX7_eager_1 rfl g1 rfl ?_
  refine r_aload_n E (x := some h0) (i := 0) (j := 0) dX7_eager_4 rfl rfl ?_
  refine gf_X7_98 E (x := gi σ 818 h0) dX7_eager_5 rfl g1 rfl ?_
  refine r_iald E dX7_eager_8 e3 g4 g5 ?_
  refine r_istore_n E (i := 2) (lv' := [(2, .int (ai σ a2 (Int32.toNatClampNeg (gi σ 818 h0)))), (0, va_rf (some h0)), (1, .int (p1))]) dX7_eager_9 rfl (by decide) (by first | rfl | (simp only [List.filter_cons, List.filter_nil, va_rf_cat]; rfl)) ?_
  refine r_iconst E dX7_eager_10 (v := 3) (by decide) ?_
  refine r_aload_n E (x := some h0) (i := 0) (j := 1) dX7_eager_11 rfl rfl ?_
  refine gf_X7_98 E (x := gi σ 818 h0) dX7_eager_12 rfl g1 rfl ?_
  refine r_imul E dX7_eager_15 ?_
  refine r_iconst E dX7_eager_16 (v := 3) (by decide) ?_
  refine r_isub E dX7_eager_17 ?_
  refine r_istore_n E (i := 3) (lv' := [(3, .int (((3 : Int32) * (gi σ 818 h0)) - (3 : Int32))), (2, .int (ai σ a2 (Int32.toNatClampNeg (gi σ 818 h0)))), (0, va_rf (some h0)), (1, .int (p1))]) dX7_eager_18 rfl (by decide) (by first | rfl | (simp only [List.filter_cons, List.filter_nil, va_rf_cat]; rfl)) ?_
  refine r_iload_n E (i := 2) (j := 1) dX7_eager_19 rfl rfl ?_
  refine r_if_le E (tgt := 37) dX7_eager_20 (by decide) (fun c6 => ?_) (fun c6 => ?_)
  · have h := ift c6 h
    refine r_sub [2, 3, 1, 0] (lv' := [(0, va_rf (some h0)), (1, .int (p1)), (2, .int (ai σ a2 (Int32.toNatClampNeg (gi σ 818 h0)))), (3, .int (((3 : Int32) * (gi σ 818 h0)) - (3 : Int32)))]) rfl ?_
    exact wlp_X7_eager E _ _ _ _ _ _ h
  · have h := iff' c6 h
    obtain ⟨a71, e72, h⟩ := nn h
    obtain ⟨g73, h⟩ := ck h
    obtain ⟨g74, h⟩ := ck h
    obtain ⟨s75, e76, h⟩ := nbn h
    refine r_aload_n E (x := some h0) (i := 0) (j := 2) dX7_eager_23 rfl rfl ?_
    refine gf_X7_52 E (x := gp σ 816 h0) dX7_eager_24 rfl g1 rfl ?_
    refine r_iload_n E (i := 3) (j := 0) dX7_eager_27 rfl rfl ?_
    refine r_iload_n E (i := 2) (j := 1) dX7_eager_28 rfl rfl ?_
    refine r_iadd E dX7_eager_29 ?_
    refine r_iconst E dX7_eager_30 (v := 1) (by decide) ?_
    refine r_isub E dX7_eager_31 ?_
    refine r_aload_n E (x := some h0) (i := 0) (j := 2) dX7_eager_32 rfl rfl ?_
    refine gf_X7_114 E (x := gi σ 819 h0) dX7_eager_33 rfl g1 rfl ?_
    refine r_iast E dX7_eager_36 e72 g73 g74 ?_
    refine r_nm e76 ?_
    refine r_sub [2, 3, 1, 0] (lv' := [(0, va_rf (some h0)), (1, .int (p1)), (2, .int (ai σ a2 (Int32.toNatClampNeg (gi σ 818 h0)))), (3, .int (((3 : Int32) * (gi σ 818 h0)) - (3 : Int32)))]) rfl ?_
    exact wlp_X7_eager E _ _ _ _ _ _ h
