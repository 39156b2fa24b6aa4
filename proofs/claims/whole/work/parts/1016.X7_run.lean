def lp_X7_run : Nat → Dp → Sg → Nat → Int32 → Int32 → Option (Int32 × Sg)
  | 0, _, _, _, _, _ => none
  | f + 1, d, σ, h0, v1, v2 => (if gc σ h0 = 9 then (if (gi σ 818 h0) ≤ (0 : Int32) then (bn (si σ 824 h0 ((gi σ 824 h0) + (gi σ 823 h0))) fun s98 => (if gc s98 h0 = 9 then (if (0 : Int32) ≤ (gi s98 820 h0) then (if (gi s98 820 h0) ≤ (0 : Int32) then (bn (si s98 825 h0 (gi s98 819 h0)) fun s103 => some ((0 : Int32), s103)) else (bn (si s98 826 h0 (gi s98 820 h0)) fun s105 => (if gc s105 h0 = 9 then (bn (si s105 827 h0 (gi s105 821 h0)) fun s108 => (if gc s108 h0 = 9 then some ((1 : Int32) + (gi s108 820 h0), s108) else none)) else none))) else some ((-1 : Int32), s98)) else none)) else (if (gi σ 820 h0) < (0 : Int32) then (bn (si σ 824 h0 ((gi σ 824 h0) + (gi σ 823 h0))) fun s112 => (if gc s112 h0 = 9 then (if (0 : Int32) ≤ (gi s112 820 h0) then (if (gi s112 820 h0) ≤ (0 : Int32) then (bn (si s112 825 h0 (gi s112 819 h0)) fun s117 => some ((0 : Int32), s117)) else (bn (si s112 826 h0 (gi s112 820 h0)) fun s119 => (if gc s119 h0 = 9 then (bn (si s119 827 h0 (gi s119 821 h0)) fun s122 => (if gc s122 h0 = 9 then some ((1 : Int32) + (gi s122 820 h0), s122) else none)) else none))) else some ((-1 : Int32), s112)) else none)) else (if (gi σ 820 h0) ≤ (0 : Int32) then (Option.bind (gp σ 814 h0) fun a126 => (if gc σ a126 = 10 then (if ¬ ((gi σ 818 h0) < 0 ∨ gl σ a126 ≤ Int32.toNatClampNeg (gi σ 818 h0)) then (b2 (ex_X7_forward d σ h0 (ai σ a126 (Int32.toNatClampNeg (gi σ 818 h0)))) fun r132 s131 => lp_X7_run f d s131 h0 v1 v2) else none) else none)) else (Option.bind (gp σ 814 h0) fun a133 => (if gc σ a133 = 10 then (if ¬ ((gi σ 818 h0) < 0 ∨ gl σ a133 ≤ Int32.toNatClampNeg (gi σ 818 h0)) then (b2 (ex_X7_outward d σ h0 (ai σ a133 (Int32.toNatClampNeg (gi σ 818 h0)))) fun r139 s138 => lp_X7_run f d s138 h0 v1 v2) else none) else none))))) else none)
set_option maxHeartbeats 4000000 in
set_option maxRecDepth 20000 in
theorem wlp_X7_run {p : Program} {l : Launch} {e : Env} {s : State} {m : MethodId} {args : Array Value} {below : List Frame} {meth : Method} {c : Code} {d : Dp} {σ0 σ' : Sg} {r : Int32} (E : Ev p s m args meth c RX7 cX7_run 3 (some .int) d (AA σ0)) : ∀ (f : Nat) (σ : Sg) (h0 : Nat) (v1 : Int32) (v2 : Int32), lp_X7_run f d σ h0 v1 v2 = some (r, σ') → Gk p l e { frames := 7, cells := 0, slots := 0, locals := 168 } s m args below meth c d (AA σ0) (MQ below (QQ d σ0 (some (.int r)) σ') args s 0 0 (AA σ0)) 3 σ 0 0 99 [(0, va_rf (some h0)), (1, .int (v1)), (2, .int (v2))] [] := by
  intro f
  induction f with
  | zero => intro _ _ _ _ h; cases h
  | succ f ih =>
    intro σ h0 v1 v2 h
    unfold lp_X7_run at h
    obtain ⟨g96, h⟩ := ck h
    refine r_aload_n E (x := some h0) (i := 0) (j := 0) dX7_run_99 rfl rfl ?_
    refine gf_X7_98 E (x := gi σ 818 h0) dX7_run_100 rfl g96 rfl ?_
    refine r_if_le E (tgt := 152) dX7_run_103 (by decide) (fun c97 => ?_) (fun c97 => ?_)
    · have h := ift c97 h
      obtain ⟨s98, e99, h⟩ := nbn h
      obtain ⟨g100, h⟩ := ck h
      refine r_aload_n E (x := some h0) (i := 0) (j := 0) dX7_run_152 rfl rfl ?_
      refine r_dup E dX7_run_153 (va_rf_cat _) ?_
      refine gf_X7_111 E (x := gi σ 824 h0) dX7_run_154 rfl g96 rfl ?_
      refine r_aload_n E (x := some h0) (i := 0) (j := 0) dX7_run_157 rfl rfl ?_
      refine gf_X7_95 E (x := gi σ 823 h0) dX7_run_158 rfl g96 rfl ?_
      refine r_iadd E dX7_run_161 ?_
      refine pf_X7_111 E dX7_run_162 rfl g96 ?_
      refine r_nm e99 ?_
      refine r_aload_n E (x := some h0) (i := 0) (j := 0) dX7_run_165 rfl rfl ?_
      refine gf_X7_82 E (x := gi s98 820 h0) dX7_run_166 rfl g100 rfl ?_
      refine r_if_ge E (tgt := 174) dX7_run_169 (by decide) (fun c101 => ?_) (fun c101 => ?_)
      · have h := ift c101 h
        refine r_aload_n E (x := some h0) (i := 0) (j := 0) dX7_run_174 rfl rfl ?_
        refine gf_X7_82 E (x := gi s98 820 h0) dX7_run_175 rfl g100 rfl ?_
        refine r_if_le E (tgt := 204) dX7_run_178 (by decide) (fun c102 => ?_) (fun c102 => ?_)
        · have h := ift c102 h
          obtain ⟨s103, e104, h⟩ := nbn h
          obtain ⟨rfl, rfl⟩ := lf2 h
          refine r_aload_n E (x := some h0) (i := 0) (j := 0) dX7_run_204 rfl rfl ?_
          refine r_aload_n E (x := some h0) (i := 0) (j := 0) dX7_run_205 rfl rfl ?_
          refine gf_X7_114 E (x := gi s98 819 h0) dX7_run_206 rfl g100 rfl ?_
          refine pf_X7_58 E dX7_run_209 rfl g100 ?_
          refine r_nm e104 ?_
          refine r_iconst E dX7_run_212 (v := 0) (by decide) ?_
          exact r_iret E dX7_run_213
        · have h := iff' c102 h
          obtain ⟨s105, e106, h⟩ := nbn h
          obtain ⟨g107, h⟩ := ck h
          obtain ⟨s108, e109, h⟩ := nbn h
          obtain ⟨g110, h⟩ := ck h
          obtain ⟨rfl, rfl⟩ := lf2 h
          refine r_aload_n E (x := some h0) (i := 0) (j := 0) dX7_run_181 rfl rfl ?_
          refine r_aload_n E (x := some h0) (i := 0) (j := 0) dX7_run_182 rfl rfl ?_
          refine gf_X7_82 E (x := gi s98 820 h0) dX7_run_183 rfl g100 rfl ?_
          refine pf_X7_108 E dX7_run_186 rfl g100 ?_
          refine r_nm e106 ?_
          refine r_aload_n E (x := some h0) (i := 0) (j := 0) dX7_run_189 rfl rfl ?_
          refine r_aload_n E (x := some h0) (i := 0) (j := 0) dX7_run_190 rfl rfl ?_
          refine gf_X7_85 E (x := gi s105 821 h0) dX7_run_191 rfl g107 rfl ?_
          refine pf_X7_61 E dX7_run_194 rfl g107 ?_
          refine r_nm e109 ?_
          refine r_iconst E dX7_run_197 (v := 1) (by decide) ?_
          refine r_aload_n E (x := some h0) (i := 0) (j := 0) dX7_run_198 rfl rfl ?_
          refine gf_X7_82 E (x := gi s108 820 h0) dX7_run_199 rfl g110 rfl ?_
          refine r_iadd E dX7_run_202 ?_
          exact r_iret E dX7_run_203
      · have h := iff' c101 h
        obtain ⟨rfl, rfl⟩ := lf2 h
        refine r_iconst E dX7_run_172 (v := -1) (by decide) ?_
        exact r_iret E dX7_run_173
    · have h := iff' c97 h
      refine r_aload_n E (x := some h0) (i := 0) (j := 0) dX7_run_106 rfl rfl ?_
      refine gf_X7_82 E (x := gi σ 820 h0) dX7_run_107 rfl g96 rfl ?_
      refine r_if_lt E (tgt := 152) dX7_run_110 (by decide) (fun c111 => ?_) (fun c111 => ?_)
      · have h := ift c111 h
        obtain ⟨s112, e113, h⟩ := nbn h
        obtain ⟨g114, h⟩ := ck h
        refine r_aload_n E (x := some h0) (i := 0) (j := 0) dX7_run_152 rfl rfl ?_
        refine r_dup E dX7_run_153 (va_rf_cat _) ?_
        refine gf_X7_111 E (x := gi σ 824 h0) dX7_run_154 rfl g96 rfl ?_
        refine r_aload_n E (x := some h0) (i := 0) (j := 0) dX7_run_157 rfl rfl ?_
        refine gf_X7_95 E (x := gi σ 823 h0) dX7_run_158 rfl g96 rfl ?_
        refine r_iadd E dX7_run_161 ?_
        refine pf_X7_111 E dX7_run_162 rfl g96 ?_
        refine r_nm e113 ?_
        refine r_aload_n E (x := some h0) (i := 0) (j := 0) dX7_run_165 rfl rfl ?_
        refine gf_X7_82 E (x := gi s112 820 h0) dX7_run_166 rfl g114 rfl ?_
        refine r_if_ge E (tgt := 174) dX7_run_169 (by decide) (fun c115 => ?_) (fun c115 => ?_)
        · have h := ift c115 h
          refine r_aload_n E (x := some h0) (i := 0) (j := 0) dX7_run_174 rfl rfl ?_
          refine gf_X7_82 E (x := gi s112 820 h0) dX7_run_175 rfl g114 rfl ?_
          refine r_if_le E (tgt := 204) dX7_run_178 (by decide) (fun c116 => ?_) (fun c116 => ?_)
          · have h := ift c116 h
            obtain ⟨s117, e118, h⟩ := nbn h
            obtain ⟨rfl, rfl⟩ := lf2 h
            refine r_aload_n E (x := some h0) (i := 0) (j := 0) dX7_run_204 rfl rfl ?_
            refine r_aload_n E (x := some h0) (i := 0) (j := 0) dX7_run_205 rfl rfl ?_
            refine gf_X7_114 E (x := gi s112 819 h0) dX7_run_206 rfl g114 rfl ?_
            refine pf_X7_58 E dX7_run_209 rfl g114 ?_
            refine r_nm e118 ?_
            refine r_iconst E dX7_run_212 (v := 0) (by decide) ?_
            exact r_iret E dX7_run_213
          · have h := iff' c116 h
            obtain ⟨s119, e120, h⟩ := nbn h
            obtain ⟨g121, h⟩ := ck h
            obtain ⟨s122, e123, h⟩ := nbn h
            obtain ⟨g124, h⟩ := ck h
            obtain ⟨rfl, rfl⟩ := lf2 h
            refine r_aload_n E (x := some h0) (i := 0) (j := 0) dX7_run_181 rfl rfl ?_
            refine r_aload_n E (x := some h0) (i := 0) (j := 0) dX7_run_182 rfl rfl ?_
            refine gf_X7_82 E (x := gi s112 820 h0) dX7_run_183 rfl g114 rfl ?_
            refine pf_X7_108 E dX7_run_186 rfl g114 ?_
            refine r_nm e120 ?_
            refine r_aload_n E (x := some h0) (i := 0) (j := 0) dX7_run_189 rfl rfl ?_
            refine r_aload_n E (x := some h0) (i := 0) (j := 0) dX7_run_190 rfl rfl ?_
            refine gf_X7_85 E (x := gi s119 821 h0) dX7_run_191 rfl g121 rfl ?_
            refine pf_X7_61 E dX7_run_194 rfl g121 ?_
            refine r_nm e123 ?_
            refine r_iconst E dX7_run_197 (v := 1) (by decide) ?_
            refine r_aload_n E (x := some h0) (i := 0) (j := 0) dX7_run_198 rfl rfl ?_
            refine gf_X7_82 E (x := gi s122 820 h0) dX7_run_199 rfl g124 rfl ?_
            refine r_iadd E dX7_run_202 ?_
            exact r_iret E dX7_run_203
        · have h := iff' c115 h
          obtain ⟨rfl, rfl⟩ := lf2 h
          refine r_iconst E dX7_run_172 (v := -1) (by decide) ?_
          exact r_iret E dX7_run_173
      · have h := iff' c111 h
        refine r_aload_n E (x := some h0) (i := 0) (j := 0) dX7_run_113 rfl rfl ?_
        refine gf_X7_82 E (x := gi σ 820 h0) dX7_run_114 rfl g96 rfl ?_
        refine r_if_le E (tgt := 136) dX7_run_117 (by decide) (fun c125 => ?_) (fun c125 => ?_)
        · have h := ift c125 h
          obtain ⟨a126, e127, h⟩ := nn h
          obtain ⟨g128, h⟩ := ck h
          obtain ⟨g129, h⟩ := ck h
          obtain ⟨r132, s131, hc130, h⟩ := nb2 h
          refine r_aload_n E (x := some h0) (i := 0) (j := 0) dX7_run_136 rfl rfl ?_
          refine r_aload_n E (x := some h0) (i := 0) (j := 0) dX7_run_137 rfl rfl ?_
          refine gf_X7_46 E (x := gp σ 814 h0) dX7_run_138 rfl g96 rfl ?_
          refine r_aload_n E (x := some h0) (i := 0) (j := 0) dX7_run_141 rfl rfl ?_
          refine gf_X7_98 E (x := gi σ 818 h0) dX7_run_142 rfl g96 rfl ?_
          refine r_iald E dX7_run_145 e127 g128 g129 ?_
          refine cl_X7_120 E (m_X7_forward hc130) dX7_run_146 ⟨Nat.le_of_ble_eq_true rfl, Nat.le_of_ble_eq_true rfl⟩ ⟨by first | decide | omega | (dsimp only; omega), by first | decide | omega | (dsimp only; omega)⟩ (by decide) rfl g96 ?_
          refine r_goto E (tgt := 99) dX7_run_149 (by decide) ?_
          refine r_sub [0, 1, 2] (lv' := [(0, va_rf (some h0)), (1, .int (v1)), (2, .int (v2))]) rfl ?_
          exact ih _ _ _ _ h
        · have h := iff' c125 h
          obtain ⟨a133, e134, h⟩ := nn h
          obtain ⟨g135, h⟩ := ck h
          obtain ⟨g136, h⟩ := ck h
          obtain ⟨r139, s138, hc137, h⟩ := nb2 h
          refine r_aload_n E (x := some h0) (i := 0) (j := 0) dX7_run_120 rfl rfl ?_
          refine r_aload_n E (x := some h0) (i := 0) (j := 0) dX7_run_121 rfl rfl ?_
          refine gf_X7_46 E (x := gp σ 814 h0) dX7_run_122 rfl g96 rfl ?_
          refine r_aload_n E (x := some h0) (i := 0) (j := 0) dX7_run_125 rfl rfl ?_
          refine gf_X7_98 E (x := gi σ 818 h0) dX7_run_126 rfl g96 rfl ?_
          refine r_iald E dX7_run_129 e134 g135 g136 ?_
          refine cl_X7_117 E (m_X7_outward hc137) dX7_run_130 ⟨Nat.le_of_ble_eq_true rfl, Nat.le_of_ble_eq_true rfl⟩ ⟨by first | decide | omega | (dsimp only; omega), by first | decide | omega | (dsimp only; omega)⟩ (by decide) rfl g96 ?_
          refine r_goto E (tgt := 99) dX7_run_133 (by decide) ?_
          refine r_sub [0, 1, 2] (lv' := [(0, va_rf (some h0)), (1, .int (v1)), (2, .int (v2))]) rfl ?_
          exact ih _ _ _ _ h
def ex_X7_run (d : Dp) (σ : Sg) (h0 : Nat) (p1 : Int32) (p2 : Int32) : Option (Int32 × Sg) := (if p2 < (0 : Int32) then some ((-2 : Int32), σ) else (if p2 ≤ (10000 : Int32) then (if gc σ h0 = 9 then (bn (si σ 825 h0 (-1 : Int32)) fun s4 => (if gc s4 h0 = 9 then (bn (si s4 826 h0 (0 : Int32)) fun s7 => (if gc s7 h0 = 9 then (bn (si s7 827 h0 (-1 : Int32)) fun s10 => (if gc s10 h0 = 9 then (bn (si s10 823 h0 (0 : Int32)) fun s13 => (if p1 < (0 : Int32) then (if gc s13 h0 = 9 then (bn (si s13 826 h0 (1 : Int32)) fun s17 => some ((2 : Int32), s17)) else none) else (if gc s13 h0 = 9 then (if p1 < (gi s13 804 h0) then (if ((50000 : Int32) - (gi s13 824 h0)) ≤ p2 then (bn (si s13 822 h0 ((50000 : Int32) - (gi s13 824 h0))) fun s22 => (if gc s22 h0 = 9 then (bn (si s22 820 h0 (0 : Int32)) fun s25 => (if gc s25 h0 = 9 then (bn (si s25 819 h0 (-1 : Int32)) fun s28 => (if gc s28 h0 = 9 then (bn (si s28 818 h0 (0 : Int32)) fun s31 => (if gc s31 h0 = 9 then (b2 (ex_X7_enter d s31 h0 p1) fun r36 s35 => lp_X7_run 1000010 d s35 h0 p1 p2) else none)) else none)) else none)) else none)) else (bn (si s13 822 h0 p2) fun s81 => (if gc s81 h0 = 9 then (bn (si s81 820 h0 (0 : Int32)) fun s84 => (if gc s84 h0 = 9 then (bn (si s84 819 h0 (-1 : Int32)) fun s87 => (if gc s87 h0 = 9 then (bn (si s87 818 h0 (0 : Int32)) fun s90 => (if gc s90 h0 = 9 then (b2 (ex_X7_enter d s90 h0 p1) fun r95 s94 => lp_X7_run 1000010 d s94 h0 p1 p2) else none)) else none)) else none)) else none))) else (bn (si s13 826 h0 (1 : Int32)) fun s140 => some ((2 : Int32), s140))) else none))) else none)) else none)) else none)) else none) else some ((-2 : Int32), σ)))
set_option maxHeartbeats 4000000 in
set_option maxRecDepth 20000 in
theorem m_X7_run {l : Launch} {d : Dp} {σ σ' : Sg} {h0 : Nat} {p1 : Int32} {p2 : Int32} {r : Int32} (h : ex_X7_run d σ h0 p1 p2 = some (r, σ')) : Mt l d yX7_run cX7_run 3 (some .int) 7 168 σ [.ref h0, .int (p1), .int (p2)] (some (.int r)) σ' 0 0 := by
  refine mt_start (own := RX7) (lv0 := [(0, va_rf (some h0)), (1, .int (p1)), (2, .int (p2))]) (by decide) rfl (by simp only [lg_sl, List.flatMap_cons, List.flatMap_nil, va_rf_cat]; exact Nat.le_of_ble_eq_true rfl) (by first | rfl | (simp only [lv_args, va_rf_cat]; rfl)) ?_
  intro p e s m args below meth c E hnm
  unfold ex_X7_run at h
  refine r_iload_n E (i := 2) (j := 2) dX7_run_0 rfl rfl ?_
  refine r_if_lt E (tgt := 11) dX7_run_1 (by decide) (fun c1 => ?_) (fun c1 => ?_)
  · have h := ift c1 h
    obtain ⟨rfl, rfl⟩ := lf2 h
    refine r_bipush E dX7_run_11 (v := -2) (by decide) ?_
    exact r_iret E dX7_run_13
  · have h := iff' c1 h
    refine r_iload_n E (i := 2) (j := 2) dX7_run_4 rfl rfl ?_
    refine r_sipush E dX7_run_5 (v := 10000) (by decide) ?_
    refine r_icmp_le E (tgt := 14) dX7_run_8 (by decide) (fun c2 => ?_) (fun c2 => ?_)
    · have h := ift c2 h
      obtain ⟨g3, h⟩ := ck h
      obtain ⟨s4, e5, h⟩ := nbn h
      obtain ⟨g6, h⟩ := ck h
      obtain ⟨s7, e8, h⟩ := nbn h
      obtain ⟨g9, h⟩ := ck h
      obtain ⟨s10, e11, h⟩ := nbn h
      obtain ⟨g12, h⟩ := ck h
      obtain ⟨s13, e14, h⟩ := nbn h
      refine r_aload_n E (x := some h0) (i := 0) (j := 0) dX7_run_14 rfl rfl ?_
      refine r_iconst E dX7_run_15 (v := -1) (by decide) ?_
      refine pf_X7_58 E dX7_run_16 rfl g3 ?_
      refine r_nm e5 ?_
      refine r_aload_n E (x := some h0) (i := 0) (j := 0) dX7_run_19 rfl rfl ?_
      refine r_iconst E dX7_run_20 (v := 0) (by decide) ?_
      refine pf_X7_108 E dX7_run_21 rfl g6 ?_
      refine r_nm e8 ?_
      refine r_aload_n E (x := some h0) (i := 0) (j := 0) dX7_run_24 rfl rfl ?_
      refine r_iconst E dX7_run_25 (v := -1) (by decide) ?_
      refine pf_X7_61 E dX7_run_26 rfl g9 ?_
      refine r_nm e11 ?_
      refine r_aload_n E (x := some h0) (i := 0) (j := 0) dX7_run_29 rfl rfl ?_
      refine r_iconst E dX7_run_30 (v := 0) (by decide) ?_
      refine pf_X7_95 E dX7_run_31 rfl g12 ?_
      refine r_nm e14 ?_
      refine r_iload_n E (i := 1) (j := 1) dX7_run_34 rfl rfl ?_
      refine r_if_lt E (tgt := 46) dX7_run_35 (by decide) (fun c15 => ?_) (fun c15 => ?_)
      · have h := ift c15 h
        obtain ⟨g16, h⟩ := ck h
        obtain ⟨s17, e18, h⟩ := nbn h
        obtain ⟨rfl, rfl⟩ := lf2 h
        refine r_aload_n E (x := some h0) (i := 0) (j := 0) dX7_run_46 rfl rfl ?_
        refine r_iconst E dX7_run_47 (v := 1) (by decide) ?_
        refine pf_X7_108 E dX7_run_48 rfl g16 ?_
        refine r_nm e18 ?_
        refine r_iconst E dX7_run_51 (v := 2) (by decide) ?_
        exact r_iret E dX7_run_52
      · have h := iff' c15 h
        obtain ⟨g19, h⟩ := ck h
        refine r_iload_n E (i := 1) (j := 1) dX7_run_38 rfl rfl ?_
        refine r_aload_n E (x := some h0) (i := 0) (j := 0) dX7_run_39 rfl rfl ?_
        refine gf_X7_64 E (x := gi s13 804 h0) dX7_run_40 rfl g19 rfl ?_
        refine r_icmp_lt E (tgt := 53) dX7_run_43 (by decide) (fun c20 => ?_) (fun c20 => ?_)
        · have h := ift c20 h
          refine r_aload_n E (x := some h0) (i := 0) (j := 0) dX7_run_53 rfl rfl ?_
          refine r_iload_n E (i := 2) (j := 2) dX7_run_54 rfl rfl ?_
          refine r_ldc E dX7_run_55 (v := 50000) wm_3_134 ?_
          refine r_aload_n E (x := some h0) (i := 0) (j := 0) dX7_run_57 rfl rfl ?_
          refine gf_X7_111 E (x := gi s13 824 h0) dX7_run_58 rfl g19 rfl ?_
          refine r_isub E dX7_run_61 ?_
          refine r_icmp_ge E (tgt := 69) dX7_run_62 (by decide) (fun c21 => ?_) (fun c21 => ?_)
          · have h := ift c21 h
            obtain ⟨s22, e23, h⟩ := nbn h
            obtain ⟨g24, h⟩ := ck h
            obtain ⟨s25, e26, h⟩ := nbn h
            obtain ⟨g27, h⟩ := ck h
            obtain ⟨s28, e29, h⟩ := nbn h
            obtain ⟨g30, h⟩ := ck h
            obtain ⟨s31, e32, h⟩ := nbn h
            obtain ⟨g33, h⟩ := ck h
            obtain ⟨r36, s35, hc34, h⟩ := nb2 h
            refine r_ldc E dX7_run_69 (v := 50000) wm_3_134 ?_
            refine r_aload_n E (x := some h0) (i := 0) (j := 0) dX7_run_71 rfl rfl ?_
            refine gf_X7_111 E (x := gi s13 824 h0) dX7_run_72 rfl g19 rfl ?_
            refine r_isub E dX7_run_75 ?_
            refine pf_X7_92 E dX7_run_76 rfl g19 ?_
            refine r_nm e23 ?_
            refine r_aload_n E (x := some h0) (i := 0) (j := 0) dX7_run_79 rfl rfl ?_
            refine r_iconst E dX7_run_80 (v := 0) (by decide) ?_
            refine pf_X7_82 E dX7_run_81 rfl g24 ?_
            refine r_nm e26 ?_
            refine r_aload_n E (x := some h0) (i := 0) (j := 0) dX7_run_84 rfl rfl ?_
            refine r_iconst E dX7_run_85 (v := -1) (by decide) ?_
            refine pf_X7_114 E dX7_run_86 rfl g27 ?_
            refine r_nm e29 ?_
            refine r_aload_n E (x := some h0) (i := 0) (j := 0) dX7_run_89 rfl rfl ?_
            refine r_iconst E dX7_run_90 (v := 0) (by decide) ?_
            refine pf_X7_98 E dX7_run_91 rfl g30 ?_
            refine r_nm e32 ?_
            refine r_aload_n E (x := some h0) (i := 0) (j := 0) dX7_run_94 rfl rfl ?_
            refine r_iload_n E (i := 1) (j := 1) dX7_run_95 rfl rfl ?_
            refine cl_X7_104 E (m_X7_enter hc34) dX7_run_96 ⟨Nat.le_of_ble_eq_true rfl, Nat.le_of_ble_eq_true rfl⟩ ⟨by first | decide | omega | (dsimp only; omega), by first | decide | omega | (dsimp only; omega)⟩ (by decide) rfl g33 ?_
            refine r_sub [0, 1, 2] (lv' := [(0, va_rf (some h0)), (1, .int (p1)), (2, .int (p2))]) rfl ?_
            exact wlp_X7_run E _ _ _ _ _ h
          · have h := iff' c21 h
            obtain ⟨s81, e82, h⟩ := nbn h
            obtain ⟨g83, h⟩ := ck h
            obtain ⟨s84, e85, h⟩ := nbn h
            obtain ⟨g86, h⟩ := ck h
            obtain ⟨s87, e88, h⟩ := nbn h
            obtain ⟨g89, h⟩ := ck h
            obtain ⟨s90, e91, h⟩ := nbn h
            obtain ⟨g92, h⟩ := ck h
            obtain ⟨r95, s94, hc93, h⟩ := nb2 h
            refine r_iload_n E (i := 2) (j := 2) dX7_run_65 rfl rfl ?_
            refine r_goto E (tgt := 76) dX7_run_66 (by decide) ?_
            refine pf_X7_92 E dX7_run_76 rfl g19 ?_
            refine r_nm e82 ?_
            refine r_aload_n E (x := some h0) (i := 0) (j := 0) dX7_run_79 rfl rfl ?_
            refine r_iconst E dX7_run_80 (v := 0) (by decide) ?_
            refine pf_X7_82 E dX7_run_81 rfl g83 ?_
            refine r_nm e85 ?_
            refine r_aload_n E (x := some h0) (i := 0) (j := 0) dX7_run_84 rfl rfl ?_
            refine r_iconst E dX7_run_85 (v := -1) (by decide) ?_
            refine pf_X7_114 E dX7_run_86 rfl g86 ?_
            refine r_nm e88 ?_
            refine r_aload_n E (x := some h0) (i := 0) (j := 0) dX7_run_89 rfl rfl ?_
            refine r_iconst E dX7_run_90 (v := 0) (by decide) ?_
            refine pf_X7_98 E dX7_run_91 rfl g89 ?_
            refine r_nm e91 ?_
            refine r_aload_n E (x := some h0) (i := 0) (j := 0) dX7_run_94 rfl rfl ?_
            refine r_iload_n E (i := 1) (j := 1) dX7_run_95 rfl rfl ?_
            refine cl_X7_104 E (m_X7_enter hc93) dX7_run_96 ⟨Nat.le_of_ble_eq_true rfl, Nat.le_of_ble_eq_true rfl⟩ ⟨by first | decide | omega | (dsimp only; omega), by first | decide | omega | (dsimp only; omega)⟩ (by decide) rfl g92 ?_
            refine r_sub [0, 1, 2] (lv' := [(0, va_rf (some h0)), (1, .int (p1)), (2, .int (p2))]) rfl ?_
            exact wlp_X7_run E _ _ _ _ _ h
        · have h := iff' c20 h
          obtain ⟨s140, e141, h⟩ := nbn h
          obtain ⟨rfl, rfl⟩ := lf2 h
          refine r_aload_n E (x := some h0) (i := 0) (j := 0) dX7_run_46 rfl rfl ?_
          refine r_iconst E dX7_run_47 (v := 1) (by decide) ?_
          refine pf_X7_108 E dX7_run_48 rfl g19 ?_
          refine r_nm e141 ?_
          refine r_iconst E dX7_run_51 (v := 2) (by decide) ?_
          exact r_iret E dX7_run_52
    · have h := iff' c2 h
      obtain ⟨rfl, rfl⟩ := lf2 h
      refine r_bipush E dX7_run_11 (v := -2) (by decide) ?_
      exact r_iret E dX7_run_13
