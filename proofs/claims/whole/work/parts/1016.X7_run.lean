def lp_X7_run : Nat → Dp → Sg → Nat → Int32 → Int32 → Option (Int32 × Sg)
  | 0, _, _, _, _, _ => none
  | f + 1, d, σ, h0, v1, v2 => (if gc σ h0 = 9 then (if (gi σ 818 h0) ≤ (0 : Int32) then (if (0 : Int32) ≤ (gi σ 820 h0) then (if (gi σ 820 h0) ≤ (0 : Int32) then some ((0 : Int32), (si (si σ 824 h0 ((gi σ 824 h0) + (gi σ 823 h0))) 825 h0 (gi σ 819 h0))) else some ((1 : Int32) + (gi σ 820 h0), (si (si (si σ 824 h0 ((gi σ 824 h0) + (gi σ 823 h0))) 826 h0 (gi σ 820 h0)) 827 h0 (gi σ 821 h0)))) else some ((-1 : Int32), (si σ 824 h0 ((gi σ 824 h0) + (gi σ 823 h0))))) else (if (gi σ 820 h0) < (0 : Int32) then (if (0 : Int32) ≤ (gi σ 820 h0) then (if (gi σ 820 h0) ≤ (0 : Int32) then some ((0 : Int32), (si (si σ 824 h0 ((gi σ 824 h0) + (gi σ 823 h0))) 825 h0 (gi σ 819 h0))) else some ((1 : Int32) + (gi σ 820 h0), (si (si (si σ 824 h0 ((gi σ 824 h0) + (gi σ 823 h0))) 826 h0 (gi σ 820 h0)) 827 h0 (gi σ 821 h0)))) else some ((-1 : Int32), (si σ 824 h0 ((gi σ 824 h0) + (gi σ 823 h0))))) else (if (gi σ 820 h0) ≤ (0 : Int32) then (Option.bind (gp σ 814 h0) fun a49 => (if gc σ a49 = 10 then (if ¬ ((gi σ 818 h0) < 0 ∨ gl σ a49 ≤ Int32.toNatClampNeg (gi σ 818 h0)) then (b2 (ex_X7_forward d σ h0 (ai σ a49 (Int32.toNatClampNeg (gi σ 818 h0)))) fun r55 s54 => lp_X7_run f d s54 h0 v1 v2) else none) else none)) else (Option.bind (gp σ 814 h0) fun a56 => (if gc σ a56 = 10 then (if ¬ ((gi σ 818 h0) < 0 ∨ gl σ a56 ≤ Int32.toNatClampNeg (gi σ 818 h0)) then (b2 (ex_X7_outward d σ h0 (ai σ a56 (Int32.toNatClampNeg (gi σ 818 h0)))) fun r62 s61 => lp_X7_run f d s61 h0 v1 v2) else none) else none))))) else none)
set_option maxHeartbeats 4000000 in
set_option maxRecDepth 20000 in
theorem wlp_X7_run {p : Program} {l : Launch} {e : Env} {s : State} {m : MethodId} {args : Array Value} {below : List Frame} {meth : Method} {c : Code} {d : Dp} {σ0 σ' : Sg} {r : Int32} (E : Ev p s m args meth c RX7 cX7_run 3 (some .int) d (AA σ0)) : ∀ (f : Nat) (σ : Sg) (h0 : Nat) (v1 : Int32) (v2 : Int32), lp_X7_run f d σ h0 v1 v2 = some (r, σ') → Gk p l e { frames := 7, cells := 0, slots := 0, locals := 168 } s m args below meth c d (AA σ0) (MQ below (QQ d σ0 (some (.int r)) σ') args s 0 0 (AA σ0)) 3 σ 0 0 99 [(0, va_rf (some h0)), (1, .int (v1)), (2, .int (v2))] [] := by
  intro f
  induction f with
  | zero => intro _ _ _ _ h; cases h
  | succ f ih =>
    intro σ h0 v1 v2 h
    unfold lp_X7_run at h
    obtain ⟨g41, h⟩ := ck h
    refine r_aload_n E (x := some h0) (i := 0) (j := 0) dX7_run_99 rfl rfl ?_
    refine gf_X7_98 E (x := gi σ 818 h0) dX7_run_100 rfl g41 rfl ?_
    refine r_if_le E (tgt := 152) dX7_run_103 (by decide) (fun c42 => ?_) (fun c42 => ?_)
    · have h := ift c42 h
      refine r_aload_n E (x := some h0) (i := 0) (j := 0) dX7_run_152 rfl rfl ?_
      refine r_dup E dX7_run_153 (va_rf_cat _) ?_
      refine gf_X7_111 E (x := gi σ 824 h0) dX7_run_154 rfl g41 rfl ?_
      refine r_aload_n E (x := some h0) (i := 0) (j := 0) dX7_run_157 rfl rfl ?_
      refine gf_X7_95 E (x := gi σ 823 h0) dX7_run_158 rfl g41 rfl ?_
      refine r_iadd E dX7_run_161 ?_
      refine pf_X7_111 E dX7_run_162 rfl g41 ?_
      refine r_aload_n E (x := some h0) (i := 0) (j := 0) dX7_run_165 rfl rfl ?_
      refine gf_X7_82 E (x := gi σ 820 h0) dX7_run_166 rfl g41 rfl ?_
      refine r_if_ge E (tgt := 174) dX7_run_169 (by decide) (fun c43 => ?_) (fun c43 => ?_)
      · have h := ift c43 h
        refine r_aload_n E (x := some h0) (i := 0) (j := 0) dX7_run_174 rfl rfl ?_
        refine gf_X7_82 E (x := gi σ 820 h0) dX7_run_175 rfl g41 rfl ?_
        refine r_if_le E (tgt := 204) dX7_run_178 (by decide) (fun c44 => ?_) (fun c44 => ?_)
        · have h := ift c44 h
          obtain ⟨rfl, rfl⟩ := lf2 h
          refine r_aload_n E (x := some h0) (i := 0) (j := 0) dX7_run_204 rfl rfl ?_
          refine r_aload_n E (x := some h0) (i := 0) (j := 0) dX7_run_205 rfl rfl ?_
          refine gf_X7_114 E (x := gi σ 819 h0) dX7_run_206 rfl g41 rfl ?_
          refine pf_X7_58 E dX7_run_209 rfl g41 ?_
          refine r_iconst E dX7_run_212 (v := 0) (by decide) ?_
          exact r_iret E dX7_run_213
        · have h := iff' c44 h
          obtain ⟨rfl, rfl⟩ := lf2 h
          refine r_aload_n E (x := some h0) (i := 0) (j := 0) dX7_run_181 rfl rfl ?_
          refine r_aload_n E (x := some h0) (i := 0) (j := 0) dX7_run_182 rfl rfl ?_
          refine gf_X7_82 E (x := gi σ 820 h0) dX7_run_183 rfl g41 rfl ?_
          refine pf_X7_108 E dX7_run_186 rfl g41 ?_
          refine r_aload_n E (x := some h0) (i := 0) (j := 0) dX7_run_189 rfl rfl ?_
          refine r_aload_n E (x := some h0) (i := 0) (j := 0) dX7_run_190 rfl rfl ?_
          refine gf_X7_85 E (x := gi σ 821 h0) dX7_run_191 rfl g41 rfl ?_
          refine pf_X7_61 E dX7_run_194 rfl g41 ?_
          refine r_iconst E dX7_run_197 (v := 1) (by decide) ?_
          refine r_aload_n E (x := some h0) (i := 0) (j := 0) dX7_run_198 rfl rfl ?_
          refine gf_X7_82 E (x := gi σ 820 h0) dX7_run_199 rfl g41 rfl ?_
          refine r_iadd E dX7_run_202 ?_
          exact r_iret E dX7_run_203
      · have h := iff' c43 h
        obtain ⟨rfl, rfl⟩ := lf2 h
        refine r_iconst E dX7_run_172 (v := -1) (by decide) ?_
        exact r_iret E dX7_run_173
    · have h := iff' c42 h
      refine r_aload_n E (x := some h0) (i := 0) (j := 0) dX7_run_106 rfl rfl ?_
      refine gf_X7_82 E (x := gi σ 820 h0) dX7_run_107 rfl g41 rfl ?_
      refine r_if_lt E (tgt := 152) dX7_run_110 (by decide) (fun c45 => ?_) (fun c45 => ?_)
      · have h := ift c45 h
        refine r_aload_n E (x := some h0) (i := 0) (j := 0) dX7_run_152 rfl rfl ?_
        refine r_dup E dX7_run_153 (va_rf_cat _) ?_
        refine gf_X7_111 E (x := gi σ 824 h0) dX7_run_154 rfl g41 rfl ?_
        refine r_aload_n E (x := some h0) (i := 0) (j := 0) dX7_run_157 rfl rfl ?_
        refine gf_X7_95 E (x := gi σ 823 h0) dX7_run_158 rfl g41 rfl ?_
        refine r_iadd E dX7_run_161 ?_
        refine pf_X7_111 E dX7_run_162 rfl g41 ?_
        refine r_aload_n E (x := some h0) (i := 0) (j := 0) dX7_run_165 rfl rfl ?_
        refine gf_X7_82 E (x := gi σ 820 h0) dX7_run_166 rfl g41 rfl ?_
        refine r_if_ge E (tgt := 174) dX7_run_169 (by decide) (fun c46 => ?_) (fun c46 => ?_)
        · have h := ift c46 h
          refine r_aload_n E (x := some h0) (i := 0) (j := 0) dX7_run_174 rfl rfl ?_
          refine gf_X7_82 E (x := gi σ 820 h0) dX7_run_175 rfl g41 rfl ?_
          refine r_if_le E (tgt := 204) dX7_run_178 (by decide) (fun c47 => ?_) (fun c47 => ?_)
          · have h := ift c47 h
            obtain ⟨rfl, rfl⟩ := lf2 h
            refine r_aload_n E (x := some h0) (i := 0) (j := 0) dX7_run_204 rfl rfl ?_
            refine r_aload_n E (x := some h0) (i := 0) (j := 0) dX7_run_205 rfl rfl ?_
            refine gf_X7_114 E (x := gi σ 819 h0) dX7_run_206 rfl g41 rfl ?_
            refine pf_X7_58 E dX7_run_209 rfl g41 ?_
            refine r_iconst E dX7_run_212 (v := 0) (by decide) ?_
            exact r_iret E dX7_run_213
          · have h := iff' c47 h
            obtain ⟨rfl, rfl⟩ := lf2 h
            refine r_aload_n E (x := some h0) (i := 0) (j := 0) dX7_run_181 rfl rfl ?_
            refine r_aload_n E (x := some h0) (i := 0) (j := 0) dX7_run_182 rfl rfl ?_
            refine gf_X7_82 E (x := gi σ 820 h0) dX7_run_183 rfl g41 rfl ?_
            refine pf_X7_108 E dX7_run_186 rfl g41 ?_
            refine r_aload_n E (x := some h0) (i := 0) (j := 0) dX7_run_189 rfl rfl ?_
            refine r_aload_n E (x := some h0) (i := 0) (j := 0) dX7_run_190 rfl rfl ?_
            refine gf_X7_85 E (x := gi σ 821 h0) dX7_run_191 rfl g41 rfl ?_
            refine pf_X7_61 E dX7_run_194 rfl g41 ?_
            refine r_iconst E dX7_run_197 (v := 1) (by decide) ?_
            refine r_aload_n E (x := some h0) (i := 0) (j := 0) dX7_run_198 rfl rfl ?_
            refine gf_X7_82 E (x := gi σ 820 h0) dX7_run_199 rfl g41 rfl ?_
            refine r_iadd E dX7_run_202 ?_
            exact r_iret E dX7_run_203
        · have h := iff' c46 h
          obtain ⟨rfl, rfl⟩ := lf2 h
          refine r_iconst E dX7_run_172 (v := -1) (by decide) ?_
          exact r_iret E dX7_run_173
      · have h := iff' c45 h
        refine r_aload_n E (x := some h0) (i := 0) (j := 0) dX7_run_113 rfl rfl ?_
        refine gf_X7_82 E (x := gi σ 820 h0) dX7_run_114 rfl g41 rfl ?_
        refine r_if_le E (tgt := 136) dX7_run_117 (by decide) (fun c48 => ?_) (fun c48 => ?_)
        · have h := ift c48 h
          obtain ⟨a49, e50, h⟩ := nn h
          obtain ⟨g51, h⟩ := ck h
          obtain ⟨g52, h⟩ := ck h
          obtain ⟨r55, s54, hc53, h⟩ := nb2 h
          refine r_aload_n E (x := some h0) (i := 0) (j := 0) dX7_run_136 rfl rfl ?_
          refine r_aload_n E (x := some h0) (i := 0) (j := 0) dX7_run_137 rfl rfl ?_
          refine gf_X7_46 E (x := gp σ 814 h0) dX7_run_138 rfl g41 rfl ?_
          refine r_aload_n E (x := some h0) (i := 0) (j := 0) dX7_run_141 rfl rfl ?_
          refine gf_X7_98 E (x := gi σ 818 h0) dX7_run_142 rfl g41 rfl ?_
          refine r_iald E dX7_run_145 e50 g51 g52 ?_
          refine cl_X7_120 E (m_X7_forward hc53) dX7_run_146 ⟨Nat.le_of_ble_eq_true rfl, Nat.le_of_ble_eq_true rfl⟩ ⟨by first | decide | omega | (dsimp only; omega), by first | decide | omega | (dsimp only; omega)⟩ (by decide) rfl g41 ?_
          refine r_goto E (tgt := 99) dX7_run_149 (by decide) ?_
          refine r_sub [0, 1, 2] (lv' := [(0, va_rf (some h0)), (1, .int (v1)), (2, .int (v2))]) rfl ?_
          exact ih _ _ _ _ h
        · have h := iff' c48 h
          obtain ⟨a56, e57, h⟩ := nn h
          obtain ⟨g58, h⟩ := ck h
          obtain ⟨g59, h⟩ := ck h
          obtain ⟨r62, s61, hc60, h⟩ := nb2 h
          refine r_aload_n E (x := some h0) (i := 0) (j := 0) dX7_run_120 rfl rfl ?_
          refine r_aload_n E (x := some h0) (i := 0) (j := 0) dX7_run_121 rfl rfl ?_
          refine gf_X7_46 E (x := gp σ 814 h0) dX7_run_122 rfl g41 rfl ?_
          refine r_aload_n E (x := some h0) (i := 0) (j := 0) dX7_run_125 rfl rfl ?_
          refine gf_X7_98 E (x := gi σ 818 h0) dX7_run_126 rfl g41 rfl ?_
          refine r_iald E dX7_run_129 e57 g58 g59 ?_
          refine cl_X7_117 E (m_X7_outward hc60) dX7_run_130 ⟨Nat.le_of_ble_eq_true rfl, Nat.le_of_ble_eq_true rfl⟩ ⟨by first | decide | omega | (dsimp only; omega), by first | decide | omega | (dsimp only; omega)⟩ (by decide) rfl g41 ?_
          refine r_goto E (tgt := 99) dX7_run_133 (by decide) ?_
          refine r_sub [0, 1, 2] (lv' := [(0, va_rf (some h0)), (1, .int (v1)), (2, .int (v2))]) rfl ?_
          exact ih _ _ _ _ h
def ex_X7_run (d : Dp) (σ : Sg) (h0 : Nat) (p1 : Int32) (p2 : Int32) : Option (Int32 × Sg) := (if p2 < (0 : Int32) then some ((-2 : Int32), σ) else (if p2 ≤ (10000 : Int32) then (if gc σ h0 = 9 then (if p1 < (0 : Int32) then some ((2 : Int32), (si (si (si (si (si σ 825 h0 (-1 : Int32)) 826 h0 (0 : Int32)) 827 h0 (-1 : Int32)) 823 h0 (0 : Int32)) 826 h0 (1 : Int32))) else (if p1 < (gi σ 804 h0) then (if ((50000 : Int32) - (gi σ 824 h0)) ≤ p2 then (bn (si (si (si (si (si (si (si (si σ 825 h0 (-1 : Int32)) 826 h0 (0 : Int32)) 827 h0 (-1 : Int32)) 823 h0 (0 : Int32)) 822 h0 ((50000 : Int32) - (gi σ 824 h0))) 820 h0 (0 : Int32)) 819 h0 (-1 : Int32)) 818 h0 (0 : Int32)) fun s7 => (if gc s7 h0 = 9 then (b2 (ex_X7_enter d s7 h0 p1) fun r12 s11 => lp_X7_run 1000010 d s11 h0 p1 p2) else none)) else (bn (si (si (si (si (si (si (si (si σ 825 h0 (-1 : Int32)) 826 h0 (0 : Int32)) 827 h0 (-1 : Int32)) 823 h0 (0 : Int32)) 822 h0 p2) 820 h0 (0 : Int32)) 819 h0 (-1 : Int32)) 818 h0 (0 : Int32)) fun s35 => (if gc s35 h0 = 9 then (b2 (ex_X7_enter d s35 h0 p1) fun r40 s39 => lp_X7_run 1000010 d s39 h0 p1 p2) else none))) else some ((2 : Int32), (si (si (si (si (si σ 825 h0 (-1 : Int32)) 826 h0 (0 : Int32)) 827 h0 (-1 : Int32)) 823 h0 (0 : Int32)) 826 h0 (1 : Int32))))) else none) else some ((-2 : Int32), σ)))
set_option maxHeartbeats 4000000 in
set_option maxRecDepth 20000 in
theorem m_X7_run {l : Launch} {d : Dp} {σ σ' : Sg} {h0 : Nat} {p1 : Int32} {p2 : Int32} {r : Int32} (h : ex_X7_run d σ h0 p1 p2 = some (r, σ')) : Mt l d yX7_run cX7_run 3 (some .int) 7 168 σ [.ref h0, .int (p1), .int (p2)] (some (.int r)) σ' 0 0 := by
  refine mt_start (own := RX7) (lv0 := [(0, va_rf (some h0)), (1, .int (p1)), (2, .int (p2))]) (by decide) rfl (by simp only [lg_sl, List.flatMap_cons, List.flatMap_nil, va_rf_cat]; exact Nat.le_of_ble_eq_true rfl) (by first | rfl | (simp only [lv_args, va_rf_cat]; rfl)) ?_
  intro p e s m args below meth c E hnm
  unfold ex_X7_run at h
  refine r_iload_n E (i := 2) (j := 2) dX7_run_0 rfl rfl ?_
  refine r_if_lt E (tgt := 11) dX7_run_1 (by decide) (fun c1 => ?_) (fun c1 => ?_)
  · have h := ift c1 h
    obtain ⟨rfl, rfl⟩ := lf2 h
    refine r_bipush E dX7_run_11 (v := -2) (by decide) ?_
    exact r_iret E dX7_run_13
  · have h := iff' c1 h
    refine r_iload_n E (i := 2) (j := 2) dX7_run_4 rfl rfl ?_
    refine r_sipush E dX7_run_5 (v := 10000) (by decide) ?_
    refine r_icmp_le E (tgt := 14) dX7_run_8 (by decide) (fun c2 => ?_) (fun c2 => ?_)
    · have h := ift c2 h
      obtain ⟨g3, h⟩ := ck h
      refine r_aload_n E (x := some h0) (i := 0) (j := 0) dX7_run_14 rfl rfl ?_
      refine r_iconst E dX7_run_15 (v := -1) (by decide) ?_
      refine pf_X7_58 E dX7_run_16 rfl g3 ?_
      refine r_aload_n E (x := some h0) (i := 0) (j := 0) dX7_run_19 rfl rfl ?_
      refine r_iconst E dX7_run_20 (v := 0) (by decide) ?_
      refine pf_X7_108 E dX7_run_21 rfl g3 ?_
      refine r_aload_n E (x := some h0) (i := 0) (j := 0) dX7_run_24 rfl rfl ?_
      refine r_iconst E dX7_run_25 (v := -1) (by decide) ?_
      refine pf_X7_61 E dX7_run_26 rfl g3 ?_
      refine r_aload_n E (x := some h0) (i := 0) (j := 0) dX7_run_29 rfl rfl ?_
      refine r_iconst E dX7_run_30 (v := 0) (by decide) ?_
      refine pf_X7_95 E dX7_run_31 rfl g3 ?_
      refine r_iload_n E (i := 1) (j := 1) dX7_run_34 rfl rfl ?_
      refine r_if_lt E (tgt := 46) dX7_run_35 (by decide) (fun c4 => ?_) (fun c4 => ?_)
      · have h := ift c4 h
        obtain ⟨rfl, rfl⟩ := lf2 h
        refine r_aload_n E (x := some h0) (i := 0) (j := 0) dX7_run_46 rfl rfl ?_
        refine r_iconst E dX7_run_47 (v := 1) (by decide) ?_
        refine pf_X7_108 E dX7_run_48 rfl g3 ?_
        refine r_iconst E dX7_run_51 (v := 2) (by decide) ?_
        exact r_iret E dX7_run_52
      · have h := iff' c4 h
        refine r_iload_n E (i := 1) (j := 1) dX7_run_38 rfl rfl ?_
        refine r_aload_n E (x := some h0) (i := 0) (j := 0) dX7_run_39 rfl rfl ?_
        refine gf_X7_64 E (x := gi σ 804 h0) dX7_run_40 rfl g3 rfl ?_
        refine r_icmp_lt E (tgt := 53) dX7_run_43 (by decide) (fun c5 => ?_) (fun c5 => ?_)
        · have h := ift c5 h
          refine r_aload_n E (x := some h0) (i := 0) (j := 0) dX7_run_53 rfl rfl ?_
          refine r_iload_n E (i := 2) (j := 2) dX7_run_54 rfl rfl ?_
          refine r_ldc E dX7_run_55 (v := 50000) wm_3_134 ?_
          refine r_aload_n E (x := some h0) (i := 0) (j := 0) dX7_run_57 rfl rfl ?_
          refine gf_X7_111 E (x := gi σ 824 h0) dX7_run_58 rfl g3 rfl ?_
          refine r_isub E dX7_run_61 ?_
          refine r_icmp_ge E (tgt := 69) dX7_run_62 (by decide) (fun c6 => ?_) (fun c6 => ?_)
          · have h := ift c6 h
            obtain ⟨s7, e8, h⟩ := nbn h
            obtain ⟨g9, h⟩ := ck h
            obtain ⟨r12, s11, hc10, h⟩ := nb2 h
            refine r_ldc E dX7_run_69 (v := 50000) wm_3_134 ?_
            refine r_aload_n E (x := some h0) (i := 0) (j := 0) dX7_run_71 rfl rfl ?_
            refine gf_X7_111 E (x := gi σ 824 h0) dX7_run_72 rfl g3 rfl ?_
            refine r_isub E dX7_run_75 ?_
            refine pf_X7_92 E dX7_run_76 rfl g3 ?_
            refine r_aload_n E (x := some h0) (i := 0) (j := 0) dX7_run_79 rfl rfl ?_
            refine r_iconst E dX7_run_80 (v := 0) (by decide) ?_
            refine pf_X7_82 E dX7_run_81 rfl g3 ?_
            refine r_aload_n E (x := some h0) (i := 0) (j := 0) dX7_run_84 rfl rfl ?_
            refine r_iconst E dX7_run_85 (v := -1) (by decide) ?_
            refine pf_X7_114 E dX7_run_86 rfl g3 ?_
            refine r_aload_n E (x := some h0) (i := 0) (j := 0) dX7_run_89 rfl rfl ?_
            refine r_iconst E dX7_run_90 (v := 0) (by decide) ?_
            refine pf_X7_98 E dX7_run_91 rfl g3 ?_
            refine r_nm e8 ?_
            refine r_aload_n E (x := some h0) (i := 0) (j := 0) dX7_run_94 rfl rfl ?_
            refine r_iload_n E (i := 1) (j := 1) dX7_run_95 rfl rfl ?_
            refine cl_X7_104 E (m_X7_enter hc10) dX7_run_96 ⟨Nat.le_of_ble_eq_true rfl, Nat.le_of_ble_eq_true rfl⟩ ⟨by first | decide | omega | (dsimp only; omega), by first | decide | omega | (dsimp only; omega)⟩ (by decide) rfl g9 ?_
            refine r_sub [0, 1, 2] (lv' := [(0, va_rf (some h0)), (1, .int (p1)), (2, .int (p2))]) rfl ?_
            exact wlp_X7_run E _ _ _ _ _ h
          · have h := iff' c6 h
            obtain ⟨s35, e36, h⟩ := nbn h
            obtain ⟨g37, h⟩ := ck h
            obtain ⟨r40, s39, hc38, h⟩ := nb2 h
            refine r_iload_n E (i := 2) (j := 2) dX7_run_65 rfl rfl ?_
            refine r_goto E (tgt := 76) dX7_run_66 (by decide) ?_
            refine pf_X7_92 E dX7_run_76 rfl g3 ?_
            refine r_aload_n E (x := some h0) (i := 0) (j := 0) dX7_run_79 rfl rfl ?_
            refine r_iconst E dX7_run_80 (v := 0) (by decide) ?_
            refine pf_X7_82 E dX7_run_81 rfl g3 ?_
            refine r_aload_n E (x := some h0) (i := 0) (j := 0) dX7_run_84 rfl rfl ?_
            refine r_iconst E dX7_run_85 (v := -1) (by decide) ?_
            refine pf_X7_114 E dX7_run_86 rfl g3 ?_
            refine r_aload_n E (x := some h0) (i := 0) (j := 0) dX7_run_89 rfl rfl ?_
            refine r_iconst E dX7_run_90 (v := 0) (by decide) ?_
            refine pf_X7_98 E dX7_run_91 rfl g3 ?_
            refine r_nm e36 ?_
            refine r_aload_n E (x := some h0) (i := 0) (j := 0) dX7_run_94 rfl rfl ?_
            refine r_iload_n E (i := 1) (j := 1) dX7_run_95 rfl rfl ?_
            refine cl_X7_104 E (m_X7_enter hc38) dX7_run_96 ⟨Nat.le_of_ble_eq_true rfl, Nat.le_of_ble_eq_true rfl⟩ ⟨by first | decide | omega | (dsimp only; omega), by first | decide | omega | (dsimp only; omega)⟩ (by decide) rfl g37 ?_
            refine r_sub [0, 1, 2] (lv' := [(0, va_rf (some h0)), (1, .int (p1)), (2, .int (p2))]) rfl ?_
            exact wlp_X7_run E _ _ _ _ _ h
        · have h := iff' c5 h
          obtain ⟨rfl, rfl⟩ := lf2 h
          refine r_aload_n E (x := some h0) (i := 0) (j := 0) dX7_run_46 rfl rfl ?_
          refine r_iconst E dX7_run_47 (v := 1) (by decide) ?_
          refine pf_X7_108 E dX7_run_48 rfl g3 ?_
          refine r_iconst E dX7_run_51 (v := 2) (by decide) ?_
          exact r_iret E dX7_run_52
    · have h := iff' c2 h
      obtain ⟨rfl, rfl⟩ := lf2 h
      refine r_bipush E dX7_run_11 (v := -2) (by decide) ?_
      exact r_iret E dX7_run_13
