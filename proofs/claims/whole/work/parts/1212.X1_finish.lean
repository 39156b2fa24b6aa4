def ex_X1_finish (d : Dp) (σ : Sg) (h0 : Nat) (q1 : Option Nat) : Option (Option Nat × Sg × Nat × Nat) := (Option.bind q1 fun a1 => (if gc σ a1 = 2 then (Option.bind (gp σ 103 a1) fun a4 => (if gc σ a4 = 5 then (if (gi σ 401 a4) = 0 then (if gc σ h0 = 3 then (Option.bind (gp σ 201 h0) fun a9 => (if gc σ a9 = 4 then (b4 (ex_X2_withValue d σ a9 (1 : Int32) (gj σ 402 a4)) fun r14 s13 k15 n16 => some (r14, s13, 0 + k15, 0 + n16)) else none)) else none) else (if (gi σ 401 a4) = 1 ∨ (gi σ 401 a4) = 2 then (if gc σ h0 = 3 then (b2 (ex_X1_useSlot d σ h0 q1) fun r21 s20 => some (r21, s20, 0, 0)) else none) else (if (gi σ 401 a4) = 3 then (if gc σ h0 = 3 then (Option.bind (gp σ 201 h0) fun a24 => (if gc σ a24 = 4 then (b4 (ex_X2_withFields d σ a24 (2 : Int32) (gp σ 105 a1) (gp σ 106 a1)) fun r29 s28 k30 n31 => some (r29, s28, 0 + k30, 0 + n31)) else none)) else none) else (if (gi σ 401 a4) = 4 then (if gc σ h0 = 3 then (Option.bind (gp σ 201 h0) fun a34 => (if gc σ a34 = 4 then (b4 (ex_X2_withFields d σ a34 (3 : Int32) (gp σ 105 a1) (gp σ 106 a1)) fun r39 s38 k40 n41 => some (r39, s38, 0 + k40, 0 + n41)) else none)) else none) else (if (gi σ 401 a4) = 5 then (if gc σ h0 = 3 then (Option.bind (gp σ 201 h0) fun a44 => (if gc σ a44 = 4 then (b4 (ex_X2_withFields d σ a44 (4 : Int32) (gp σ 105 a1) none) fun r49 s48 k50 n51 => some (r49, s48, 0 + k50, 0 + n51)) else none)) else none) else (if (gi σ 401 a4) = 6 then (if gc σ h0 = 3 then (b2 (ex_X1_field d σ h0 q1) fun r56 s55 => some (r56, s55, 0, 0)) else none) else (if (gi σ 401 a4) = 7 then (if gc σ h0 = 3 then (b2 (ex_X1_store d σ h0 q1) fun r61 s60 => some (r61, s60, 0, 0)) else none) else (if (gi σ 401 a4) = 8 ∨ (gi σ 401 a4) = 9 then (if gc σ h0 = 3 then (b2 (ex_X1_side d σ h0 q1) fun r66 s65 => some (r66, s65, 0, 0)) else none) else (if (gi σ 401 a4) = 10 then (if gc σ h0 = 3 then (b4 (ex_X1_send d σ h0 q1) fun r71 s70 k72 n73 => some (r71, s70, 0 + k72, 0 + n73)) else none) else (if (gi σ 401 a4) = 11 then (if gc σ h0 = 3 then (b4 (ex_X1_row d σ h0 q1) fun r78 s77 k79 n80 => some (r78, s77, 0 + k79, 0 + n80)) else none) else (if (gi σ 401 a4) = 12 then (if gc σ h0 = 3 then (b2 (ex_X1_put d σ h0 q1) fun r85 s84 => some (r85, s84, 0, 0)) else none) else (if (gi σ 401 a4) = 13 then (if gc σ h0 = 3 then (b2 (ex_X1_at d σ h0 q1) fun r90 s89 => some (r90, s89, 0, 0)) else none) else (if (gi σ 401 a4) = 14 then (if gc σ h0 = 3 then (b4 (ex_X1_size d σ h0 q1) fun r95 s94 k96 n97 => some (r95, s94, 0 + k96, 0 + n97)) else none) else (if (gi σ 401 a4) = 16 then (if gc σ h0 = 3 then (if (gp σ 205 h0) = none then (b2 (ex_X1_failAt d σ h0 (gi σ 400 a4) (1 : Int32)) fun r106 s105 => some (r106, s105, 0, 0)) else (b2 (ex_X1_failAt d σ h0 (gi σ 400 a4) (7 : Int32)) fun r103 s102 => some (r103, s102, 0, 0))) else none) else (if (gi σ 401 a4) = 17 then (if gc σ h0 = 3 then (b4 (ex_X1_hold d σ h0 q1) fun r111 s110 k112 n113 => some (r111, s110, 0 + k112, 0 + n113)) else none) else some (gp σ 108 a1, σ, 0, 0)))))))))))))))) else none)) else none))
set_option maxHeartbeats 4000000 in
set_option maxRecDepth 20000 in
theorem m_X1_finish {l : Launch} {d : Dp} {σ σ' : Sg} {h0 : Nat} {q1 : Option Nat} {r : Option Nat} {kF nF : Nat} (h : ex_X1_finish d σ h0 q1 = some (r, σ', kF, nF)) : Mt l d yX1_finish cX1_finish 2 (some (.object "FrameTalk$Thing")) 5 116 σ [.ref h0, va_rf (q1)] (some (va_rf r)) σ' kF nF := by
  refine mt_start (own := RX1) (lv0 := [(0, va_rf (some h0)), (1, va_rf (q1))]) (by decide) rfl (by simp only [lg_sl, List.flatMap_cons, List.flatMap_nil, va_rf_cat]; exact Nat.le_of_ble_eq_true rfl) (by first | rfl | (simp only [lv_args, va_rf_cat]; rfl)) ?_
  intro p e s m args below meth c E hnm
  unfold ex_X1_finish at h
  obtain ⟨a1, e2, h⟩ := nn h
  obtain ⟨g3, h⟩ := ck h
  obtain ⟨a4, e5, h⟩ := nn h
  obtain ⟨g6, h⟩ := ck h
  refine r_aload_n E (x := q1) (i := 1) (j := 1) dX1_finish_0 rfl rfl ?_
  refine gf_X1_139 E (x := gp σ 103 a1) dX1_finish_1 e2 g3 rfl ?_
  refine gf_X1_151 E (x := gi σ 401 a4) dX1_finish_4 e5 g6 rfl ?_
  by_cases c7 : (gi σ 401 a4) = 0
  · have h := ift c7 h
    obtain ⟨g8, h⟩ := ck h
    obtain ⟨a9, e10, h⟩ := nn h
    obtain ⟨g11, h⟩ := ck h
    obtain ⟨r14, s13, k15, n16, hc12, h⟩ := nb4 h
    obtain ⟨rfl, rfl, rfl, rfl⟩ := lf4 h
    refine r_tab E (off := 85) (tgt := 92) dX1_finish_7 (by rw [c7]; decide) (fun w1 w2 => by show _ < 18; omega) (by decide) ?_
    refine r_aload_n E (x := some h0) (i := 0) (j := 0) dX1_finish_92 rfl rfl ?_
    refine gf_X1_21 E (x := gp σ 201 h0) dX1_finish_93 rfl g8 rfl ?_
    refine r_iconst E dX1_finish_96 (v := 1) (by decide) ?_
    refine r_aload_n E (x := q1) (i := 1) (j := 1) dX1_finish_97 rfl rfl ?_
    refine gf_X1_139 E (x := gp σ 103 a1) dX1_finish_98 e2 g3 rfl ?_
    refine gf_X1_191 E (x := gj σ 402 a4) dX1_finish_101 e5 g6 rfl ?_
    refine cl_X1_184 E (m_X2_withValue hc12) dX1_finish_104 ⟨Nat.le_of_ble_eq_true rfl, Nat.le_of_ble_eq_true rfl⟩ ⟨by first | decide | omega | (dsimp only; omega), by first | decide | omega | (dsimp only; omega)⟩ (by decide) e10 g11 ?_
    exact r_aret E dX1_finish_107 (Or.inl ⟨_, rfl⟩)
  · have h := iff' c7 h
    by_cases c17 : (gi σ 401 a4) = 1 ∨ (gi σ 401 a4) = 2
    · have h := ift c17 h
      obtain ⟨g18, h⟩ := ck h
      obtain ⟨r21, s20, hc19, h⟩ := nb2 h
      obtain ⟨rfl, rfl, rfl, rfl⟩ := lf4 h
      refine r_tab E (off := 101) (tgt := 108) dX1_finish_7 (by rcases c17 with q | q <;> (rw [q]; decide)) (fun w1 w2 => by show _ < 18; omega) (by decide) ?_
      refine r_aload_n E (x := some h0) (i := 0) (j := 0) dX1_finish_108 rfl rfl ?_
      refine r_aload_n E (x := q1) (i := 1) (j := 1) dX1_finish_109 rfl rfl ?_
      refine cl_X1_194 E (m_X1_useSlot hc19) dX1_finish_110 ⟨Nat.le_of_ble_eq_true rfl, Nat.le_of_ble_eq_true rfl⟩ ⟨by first | decide | omega | (dsimp only; omega), by first | decide | omega | (dsimp only; omega)⟩ (by decide) rfl g18 ?_
      exact r_aret E dX1_finish_113 (Or.inl ⟨_, rfl⟩)
    · have h := iff' c17 h
      by_cases c22 : (gi σ 401 a4) = 3
      · have h := ift c22 h
        obtain ⟨g23, h⟩ := ck h
        obtain ⟨a24, e25, h⟩ := nn h
        obtain ⟨g26, h⟩ := ck h
        obtain ⟨r29, s28, k30, n31, hc27, h⟩ := nb4 h
        obtain ⟨rfl, rfl, rfl, rfl⟩ := lf4 h
        refine r_tab E (off := 107) (tgt := 114) dX1_finish_7 (by rw [c22]; decide) (fun w1 w2 => by show _ < 18; omega) (by decide) ?_
        refine r_aload_n E (x := some h0) (i := 0) (j := 0) dX1_finish_114 rfl rfl ?_
        refine gf_X1_21 E (x := gp σ 201 h0) dX1_finish_115 rfl g23 rfl ?_
        refine r_iconst E dX1_finish_118 (v := 2) (by decide) ?_
        refine r_aload_n E (x := q1) (i := 1) (j := 1) dX1_finish_119 rfl rfl ?_
        refine gf_X1_166 E (x := gp σ 105 a1) dX1_finish_120 e2 g3 rfl ?_
        refine r_aload_n E (x := q1) (i := 1) (j := 1) dX1_finish_123 rfl rfl ?_
        refine gf_X1_197 E (x := gp σ 106 a1) dX1_finish_124 e2 g3 rfl ?_
        refine cl_X1_200 E (m_X2_withFields hc27) dX1_finish_127 ⟨Nat.le_of_ble_eq_true rfl, Nat.le_of_ble_eq_true rfl⟩ ⟨by first | decide | omega | (dsimp only; omega), by first | decide | omega | (dsimp only; omega)⟩ (by decide) e25 g26 ?_
        exact r_aret E dX1_finish_130 (Or.inl ⟨_, rfl⟩)
      · have h := iff' c22 h
        by_cases c32 : (gi σ 401 a4) = 4
        · have h := ift c32 h
          obtain ⟨g33, h⟩ := ck h
          obtain ⟨a34, e35, h⟩ := nn h
          obtain ⟨g36, h⟩ := ck h
          obtain ⟨r39, s38, k40, n41, hc37, h⟩ := nb4 h
          obtain ⟨rfl, rfl, rfl, rfl⟩ := lf4 h
          refine r_tab E (off := 124) (tgt := 131) dX1_finish_7 (by rw [c32]; decide) (fun w1 w2 => by show _ < 18; omega) (by decide) ?_
          refine r_aload_n E (x := some h0) (i := 0) (j := 0) dX1_finish_131 rfl rfl ?_
          refine gf_X1_21 E (x := gp σ 201 h0) dX1_finish_132 rfl g33 rfl ?_
          refine r_iconst E dX1_finish_135 (v := 3) (by decide) ?_
          refine r_aload_n E (x := q1) (i := 1) (j := 1) dX1_finish_136 rfl rfl ?_
          refine gf_X1_166 E (x := gp σ 105 a1) dX1_finish_137 e2 g3 rfl ?_
          refine r_aload_n E (x := q1) (i := 1) (j := 1) dX1_finish_140 rfl rfl ?_
          refine gf_X1_197 E (x := gp σ 106 a1) dX1_finish_141 e2 g3 rfl ?_
          refine cl_X1_200 E (m_X2_withFields hc37) dX1_finish_144 ⟨Nat.le_of_ble_eq_true rfl, Nat.le_of_ble_eq_true rfl⟩ ⟨by first | decide | omega | (dsimp only; omega), by first | decide | omega | (dsimp only; omega)⟩ (by decide) e35 g36 ?_
          exact r_aret E dX1_finish_147 (Or.inl ⟨_, rfl⟩)
        · have h := iff' c32 h
          by_cases c42 : (gi σ 401 a4) = 5
          · have h := ift c42 h
            obtain ⟨g43, h⟩ := ck h
            obtain ⟨a44, e45, h⟩ := nn h
            obtain ⟨g46, h⟩ := ck h
            obtain ⟨r49, s48, k50, n51, hc47, h⟩ := nb4 h
            obtain ⟨rfl, rfl, rfl, rfl⟩ := lf4 h
            refine r_tab E (off := 141) (tgt := 148) dX1_finish_7 (by rw [c42]; decide) (fun w1 w2 => by show _ < 18; omega) (by decide) ?_
            refine r_aload_n E (x := some h0) (i := 0) (j := 0) dX1_finish_148 rfl rfl ?_
            refine gf_X1_21 E (x := gp σ 201 h0) dX1_finish_149 rfl g43 rfl ?_
            refine r_iconst E dX1_finish_152 (v := 4) (by decide) ?_
            refine r_aload_n E (x := q1) (i := 1) (j := 1) dX1_finish_153 rfl rfl ?_
            refine gf_X1_166 E (x := gp σ 105 a1) dX1_finish_154 e2 g3 rfl ?_
            refine r_null E dX1_finish_157 ?_
            refine cl_X1_200 E (m_X2_withFields hc47) dX1_finish_158 ⟨Nat.le_of_ble_eq_true rfl, Nat.le_of_ble_eq_true rfl⟩ ⟨by first | decide | omega | (dsimp only; omega), by first | decide | omega | (dsimp only; omega)⟩ (by decide) e45 g46 ?_
            exact r_aret E dX1_finish_161 (Or.inl ⟨_, rfl⟩)
          · have h := iff' c42 h
            by_cases c52 : (gi σ 401 a4) = 6
            · have h := ift c52 h
              obtain ⟨g53, h⟩ := ck h
              obtain ⟨r56, s55, hc54, h⟩ := nb2 h
              obtain ⟨rfl, rfl, rfl, rfl⟩ := lf4 h
              refine r_tab E (off := 155) (tgt := 162) dX1_finish_7 (by rw [c52]; decide) (fun w1 w2 => by show _ < 18; omega) (by decide) ?_
              refine r_aload_n E (x := some h0) (i := 0) (j := 0) dX1_finish_162 rfl rfl ?_
              refine r_aload_n E (x := q1) (i := 1) (j := 1) dX1_finish_163 rfl rfl ?_
              refine cl_X1_204 E (m_X1_field hc54) dX1_finish_164 ⟨Nat.le_of_ble_eq_true rfl, Nat.le_of_ble_eq_true rfl⟩ ⟨by first | decide | omega | (dsimp only; omega), by first | decide | omega | (dsimp only; omega)⟩ (by decide) rfl g53 ?_
              exact r_aret E dX1_finish_167 (Or.inl ⟨_, rfl⟩)
            · have h := iff' c52 h
              by_cases c57 : (gi σ 401 a4) = 7
              · have h := ift c57 h
                obtain ⟨g58, h⟩ := ck h
                obtain ⟨r61, s60, hc59, h⟩ := nb2 h
                obtain ⟨rfl, rfl, rfl, rfl⟩ := lf4 h
                refine r_tab E (off := 161) (tgt := 168) dX1_finish_7 (by rw [c57]; decide) (fun w1 w2 => by show _ < 18; omega) (by decide) ?_
                refine r_aload_n E (x := some h0) (i := 0) (j := 0) dX1_finish_168 rfl rfl ?_
                refine r_aload_n E (x := q1) (i := 1) (j := 1) dX1_finish_169 rfl rfl ?_
                refine cl_X1_207 E (m_X1_store hc59) dX1_finish_170 ⟨Nat.le_of_ble_eq_true rfl, Nat.le_of_ble_eq_true rfl⟩ ⟨by first | decide | omega | (dsimp only; omega), by first | decide | omega | (dsimp only; omega)⟩ (by decide) rfl g58 ?_
                exact r_aret E dX1_finish_173 (Or.inl ⟨_, rfl⟩)
              · have h := iff' c57 h
                by_cases c62 : (gi σ 401 a4) = 8 ∨ (gi σ 401 a4) = 9
                · have h := ift c62 h
                  obtain ⟨g63, h⟩ := ck h
                  obtain ⟨r66, s65, hc64, h⟩ := nb2 h
                  obtain ⟨rfl, rfl, rfl, rfl⟩ := lf4 h
                  refine r_tab E (off := 167) (tgt := 174) dX1_finish_7 (by rcases c62 with q | q <;> (rw [q]; decide)) (fun w1 w2 => by show _ < 18; omega) (by decide) ?_
                  refine r_aload_n E (x := some h0) (i := 0) (j := 0) dX1_finish_174 rfl rfl ?_
                  refine r_aload_n E (x := q1) (i := 1) (j := 1) dX1_finish_175 rfl rfl ?_
                  refine cl_X1_210 E (m_X1_side hc64) dX1_finish_176 ⟨Nat.le_of_ble_eq_true rfl, Nat.le_of_ble_eq_true rfl⟩ ⟨by first | decide | omega | (dsimp only; omega), by first | decide | omega | (dsimp only; omega)⟩ (by decide) rfl g63 ?_
                  exact r_aret E dX1_finish_179 (Or.inl ⟨_, rfl⟩)
                · have h := iff' c62 h
                  by_cases c67 : (gi σ 401 a4) = 10
                  · have h := ift c67 h
                    obtain ⟨g68, h⟩ := ck h
                    obtain ⟨r71, s70, k72, n73, hc69, h⟩ := nb4 h
                    obtain ⟨rfl, rfl, rfl, rfl⟩ := lf4 h
                    refine r_tab E (off := 173) (tgt := 180) dX1_finish_7 (by rw [c67]; decide) (fun w1 w2 => by show _ < 18; omega) (by decide) ?_
                    refine r_aload_n E (x := some h0) (i := 0) (j := 0) dX1_finish_180 rfl rfl ?_
                    refine r_aload_n E (x := q1) (i := 1) (j := 1) dX1_finish_181 rfl rfl ?_
                    refine cl_X1_213 E (m_X1_send hc69) dX1_finish_182 ⟨Nat.le_of_ble_eq_true rfl, Nat.le_of_ble_eq_true rfl⟩ ⟨by first | decide | omega | (dsimp only; omega), by first | decide | omega | (dsimp only; omega)⟩ (by decide) rfl g68 ?_
                    exact r_aret E dX1_finish_185 (Or.inl ⟨_, rfl⟩)
                  · have h := iff' c67 h
                    by_cases c74 : (gi σ 401 a4) = 11
                    · have h := ift c74 h
                      obtain ⟨g75, h⟩ := ck h
                      obtain ⟨r78, s77, k79, n80, hc76, h⟩ := nb4 h
                      obtain ⟨rfl, rfl, rfl, rfl⟩ := lf4 h
                      refine r_tab E (off := 179) (tgt := 186) dX1_finish_7 (by rw [c74]; decide) (fun w1 w2 => by show _ < 18; omega) (by decide) ?_
                      refine r_aload_n E (x := some h0) (i := 0) (j := 0) dX1_finish_186 rfl rfl ?_
                      refine r_aload_n E (x := q1) (i := 1) (j := 1) dX1_finish_187 rfl rfl ?_
                      refine cl_X1_216 E (m_X1_row hc76) dX1_finish_188 ⟨Nat.le_of_ble_eq_true rfl, Nat.le_of_ble_eq_true rfl⟩ ⟨by first | decide | omega | (dsimp only; omega), by first | decide | omega | (dsimp only; omega)⟩ (by decide) rfl g75 ?_
                      exact r_aret E dX1_finish_191 (Or.inl ⟨_, rfl⟩)
                    · have h := iff' c74 h
                      by_cases c81 : (gi σ 401 a4) = 12
                      · have h := ift c81 h
                        obtain ⟨g82, h⟩ := ck h
                        obtain ⟨r85, s84, hc83, h⟩ := nb2 h
                        obtain ⟨rfl, rfl, rfl, rfl⟩ := lf4 h
                        refine r_tab E (off := 185) (tgt := 192) dX1_finish_7 (by rw [c81]; decide) (fun w1 w2 => by show _ < 18; omega) (by decide) ?_
                        refine r_aload_n E (x := some h0) (i := 0) (j := 0) dX1_finish_192 rfl rfl ?_
                        refine r_aload_n E (x := q1) (i := 1) (j := 1) dX1_finish_193 rfl rfl ?_
                        refine cl_X1_219 E (m_X1_put hc83) dX1_finish_194 ⟨Nat.le_of_ble_eq_true rfl, Nat.le_of_ble_eq_true rfl⟩ ⟨by first | decide | omega | (dsimp only; omega), by first | decide | omega | (dsimp only; omega)⟩ (by decide) rfl g82 ?_
                        exact r_aret E dX1_finish_197 (Or.inl ⟨_, rfl⟩)
                      · have h := iff' c81 h
                        by_cases c86 : (gi σ 401 a4) = 13
                        · have h := ift c86 h
                          obtain ⟨g87, h⟩ := ck h
                          obtain ⟨r90, s89, hc88, h⟩ := nb2 h
                          obtain ⟨rfl, rfl, rfl, rfl⟩ := lf4 h
                          refine r_tab E (off := 191) (tgt := 198) dX1_finish_7 (by rw [c86]; decide) (fun w1 w2 => by show _ < 18; omega) (by decide) ?_
                          refine r_aload_n E (x := some h0) (i := 0) (j := 0) dX1_finish_198 rfl rfl ?_
                          refine r_aload_n E (x := q1) (i := 1) (j := 1) dX1_finish_199 rfl rfl ?_
                          refine cl_X1_222 E (m_X1_at hc88) dX1_finish_200 ⟨Nat.le_of_ble_eq_true rfl, Nat.le_of_ble_eq_true rfl⟩ ⟨by first | decide | omega | (dsimp only; omega), by first | decide | omega | (dsimp only; omega)⟩ (by decide) rfl g87 ?_
                          exact r_aret E dX1_finish_203 (Or.inl ⟨_, rfl⟩)
                        · have h := iff' c86 h
                          by_cases c91 : (gi σ 401 a4) = 14
                          · have h := ift c91 h
                            obtain ⟨g92, h⟩ := ck h
                            obtain ⟨r95, s94, k96, n97, hc93, h⟩ := nb4 h
                            obtain ⟨rfl, rfl, rfl, rfl⟩ := lf4 h
                            refine r_tab E (off := 197) (tgt := 204) dX1_finish_7 (by rw [c91]; decide) (fun w1 w2 => by show _ < 18; omega) (by decide) ?_
                            refine r_aload_n E (x := some h0) (i := 0) (j := 0) dX1_finish_204 rfl rfl ?_
                            refine r_aload_n E (x := q1) (i := 1) (j := 1) dX1_finish_205 rfl rfl ?_
                            refine cl_X1_224 E (m_X1_size hc93) dX1_finish_206 ⟨Nat.le_of_ble_eq_true rfl, Nat.le_of_ble_eq_true rfl⟩ ⟨by first | decide | omega | (dsimp only; omega), by first | decide | omega | (dsimp only; omega)⟩ (by decide) rfl g92 ?_
                            exact r_aret E dX1_finish_209 (Or.inl ⟨_, rfl⟩)
                          · have h := iff' c91 h
                            by_cases c98 : (gi σ 401 a4) = 16
                            · have h := ift c98 h
                              obtain ⟨g99, h⟩ := ck h
                              refine r_tab E (off := 203) (tgt := 210) dX1_finish_7 (by rw [c98]; decide) (fun w1 w2 => by show _ < 18; omega) (by decide) ?_
                              refine r_aload_n E (x := some h0) (i := 0) (j := 0) dX1_finish_210 rfl rfl ?_
                              refine r_aload_n E (x := q1) (i := 1) (j := 1) dX1_finish_211 rfl rfl ?_
                              refine gf_X1_139 E (x := gp σ 103 a1) dX1_finish_212 e2 g3 rfl ?_
                              refine gf_X1_120 E (x := gi σ 400 a4) dX1_finish_215 e5 g6 rfl ?_
                              refine r_aload_n E (x := some h0) (i := 0) (j := 0) dX1_finish_218 rfl rfl ?_
                              refine gf_X1_55 E (x := gp σ 205 h0) dX1_finish_219 rfl g99 rfl ?_
                              refine r_ifnonnull E (o := gp σ 205 h0) (tgt := 229) dX1_finish_222 (by decide) (fun c100 => ?_) (fun c100 => ?_)
                              · have h := iff' c100 h
                                obtain ⟨r103, s102, hc101, h⟩ := nb2 h
                                obtain ⟨rfl, rfl, rfl, rfl⟩ := lf4 h
                                refine r_bipush E dX1_finish_229 (v := 7) (by decide) ?_
                                refine cl_X1_85 E (m_X1_failAt hc101) dX1_finish_231 ⟨Nat.le_of_ble_eq_true rfl, Nat.le_of_ble_eq_true rfl⟩ ⟨by first | decide | omega | (dsimp only; omega), by first | decide | omega | (dsimp only; omega)⟩ (by decide) rfl g99 ?_
                                exact r_aret E dX1_finish_234 (Or.inl ⟨_, rfl⟩)
                              · have h := ift c100 h
                                obtain ⟨r106, s105, hc104, h⟩ := nb2 h
                                obtain ⟨rfl, rfl, rfl, rfl⟩ := lf4 h
                                refine r_iconst E dX1_finish_225 (v := 1) (by decide) ?_
                                refine r_goto E (tgt := 231) dX1_finish_226 (by decide) ?_
                                refine cl_X1_85 E (m_X1_failAt hc104) dX1_finish_231 ⟨Nat.le_of_ble_eq_true rfl, Nat.le_of_ble_eq_true rfl⟩ ⟨by first | decide | omega | (dsimp only; omega), by first | decide | omega | (dsimp only; omega)⟩ (by decide) rfl g99 ?_
                                exact r_aret E dX1_finish_234 (Or.inl ⟨_, rfl⟩)
                            · have h := iff' c98 h
                              by_cases c107 : (gi σ 401 a4) = 17
                              · have h := ift c107 h
                                obtain ⟨g108, h⟩ := ck h
                                obtain ⟨r111, s110, k112, n113, hc109, h⟩ := nb4 h
                                obtain ⟨rfl, rfl, rfl, rfl⟩ := lf4 h
                                refine r_tab E (off := 228) (tgt := 235) dX1_finish_7 (by rw [c107]; decide) (fun w1 w2 => by show _ < 18; omega) (by decide) ?_
                                refine r_aload_n E (x := some h0) (i := 0) (j := 0) dX1_finish_235 rfl rfl ?_
                                refine r_aload_n E (x := q1) (i := 1) (j := 1) dX1_finish_236 rfl rfl ?_
                                refine cl_X1_227 E (m_X1_hold hc109) dX1_finish_237 ⟨Nat.le_of_ble_eq_true rfl, Nat.le_of_ble_eq_true rfl⟩ ⟨by first | decide | omega | (dsimp only; omega), by first | decide | omega | (dsimp only; omega)⟩ (by decide) rfl g108 ?_
                                exact r_aret E dX1_finish_240 (Or.inl ⟨_, rfl⟩)
                              · have h := iff' c107 h
                                obtain ⟨rfl, rfl, rfl, rfl⟩ := lf4 h
                                refine r_tab E (off := 234) (tgt := 241) dX1_finish_7 (by have z0 := lv_neT (x := gi σ 401 a4) (k := 0) (a := 0) c7 (by decide); have z1 := lv_neT (x := gi σ 401 a4) (k := 1) (a := 1) (fun q => c17 (Or.inl q)) (by decide); have z2 := lv_neT (x := gi σ 401 a4) (k := 2) (a := 2) (fun q => c17 (Or.inr (q))) (by decide); have z3 := lv_neT (x := gi σ 401 a4) (k := 3) (a := 3) c22 (by decide); have z4 := lv_neT (x := gi σ 401 a4) (k := 4) (a := 4) c32 (by decide); have z5 := lv_neT (x := gi σ 401 a4) (k := 5) (a := 5) c42 (by decide); have z6 := lv_neT (x := gi σ 401 a4) (k := 6) (a := 6) c52 (by decide); have z7 := lv_neT (x := gi σ 401 a4) (k := 7) (a := 7) c57 (by decide); have z8 := lv_neT (x := gi σ 401 a4) (k := 8) (a := 8) (fun q => c62 (Or.inl q)) (by decide); have z9 := lv_neT (x := gi σ 401 a4) (k := 9) (a := 9) (fun q => c62 (Or.inr (q))) (by decide); have z10 := lv_neT (x := gi σ 401 a4) (k := 10) (a := 10) c67 (by decide); have z11 := lv_neT (x := gi σ 401 a4) (k := 11) (a := 11) c74 (by decide); have z12 := lv_neT (x := gi σ 401 a4) (k := 12) (a := 12) c81 (by decide); have z13 := lv_neT (x := gi σ 401 a4) (k := 13) (a := 13) c86 (by decide); have z14 := lv_neT (x := gi σ 401 a4) (k := 14) (a := 14) c91 (by decide); have z15 := lv_neT (x := gi σ 401 a4) (k := 16) (a := 16) c98 (by decide); have z16 := lv_neT (x := gi σ 401 a4) (k := 17) (a := 17) c107 (by decide); by_cases w1 : Int32.toInt (gi σ 401 a4) < 0 <;> by_cases w2 : 17 < Int32.toInt (gi σ 401 a4) <;> first | (simp [w1, w2]; done) | (have zz : Int32.toInt (gi σ 401 a4) = 15 := (by omega); rw [zz]; decide)) (fun w1 w2 => by show _ < 18; omega) (by decide) ?_
                                refine r_aload_n E (x := q1) (i := 1) (j := 1) dX1_finish_241 rfl rfl ?_
                                refine gf_X1_117 E (x := gp σ 108 a1) dX1_finish_242 e2 g3 rfl ?_
                                exact r_aret E dX1_finish_245 (Or.inl ⟨_, rfl⟩)
