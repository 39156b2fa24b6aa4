def ex_X7_thing (d : Dp) (σ : Sg) (h0 : Nat) (p1 : Int32) (p2 : Int32) : Option (Int32 × Sg) := (if p1 < (-1 : Int32) then some ((-1 : Int32), σ) else (if (255 : Int32) < p1 then some ((-1 : Int32), σ) else (if p2 < (0 : Int32) then some ((-1 : Int32), σ) else (if p2 ≤ (3 : Int32) then (if gc σ h0 = 9 then (b2 (ex_X7_thingAt d σ h0 p1) fun r8 s7 => (if p2 = (0 : Int32) then (if r8 = (-1 : Int32) then some ((0 : Int32), s7) else (if gc s7 h0 = 9 then (Option.bind (gp s7 805 h0) fun a109 => (if gc s7 a109 = 10 then (if ¬ (r8 < 0 ∨ gl s7 a109 ≤ Int32.toNatClampNeg r8) then some (ai s7 a109 (Int32.toNatClampNeg r8), s7) else none) else none)) else none)) else (if r8 = (-1 : Int32) then some ((-1 : Int32), s7) else (if p2 = (1 : Int32) then some (r8, s7) else (if gc s7 h0 = 9 then (Option.bind (gp s7 805 h0) fun a13 => (if gc s7 a13 = 10 then (if ¬ (r8 < 0 ∨ gl s7 a13 ≤ Int32.toNatClampNeg r8) then (if (ai s7 a13 (Int32.toNatClampNeg r8)) = (2 : Int32) then (if p2 = (2 : Int32) then (if (1 : Int32) = (0 : Int32) then (if ¬ (r8 < 0 ∨ gl s7 a13 ≤ Int32.toNatClampNeg r8) then (if (ai s7 a13 (Int32.toNatClampNeg r8)) = (4 : Int32) then (Option.bind (gp s7 806 h0) fun a37 => (if gc s7 a37 = 10 then (if ¬ (r8 < 0 ∨ gl s7 a37 ≤ Int32.toNatClampNeg r8) then some (ai s7 a37 (Int32.toNatClampNeg r8), s7) else none) else none)) else (if ¬ (r8 < 0 ∨ gl s7 a13 ≤ Int32.toNatClampNeg r8) then (if (ai s7 a13 (Int32.toNatClampNeg r8)) = (5 : Int32) then (Option.bind (gp s7 806 h0) fun a43 => (if gc s7 a43 = 10 then (if ¬ (r8 < 0 ∨ gl s7 a43 ≤ Int32.toNatClampNeg r8) then some (ai s7 a43 (Int32.toNatClampNeg r8), s7) else none) else none)) else some ((-1 : Int32), s7)) else none)) else none) else (Option.bind (gp s7 806 h0) fun a31 => (if gc s7 a31 = 10 then (if ¬ (r8 < 0 ∨ gl s7 a31 ≤ Int32.toNatClampNeg r8) then some (ai s7 a31 (Int32.toNatClampNeg r8), s7) else none) else none))) else (if (1 : Int32) = (0 : Int32) then (if ¬ (r8 < 0 ∨ gl s7 a13 ≤ Int32.toNatClampNeg r8) then (if (ai s7 a13 (Int32.toNatClampNeg r8)) = (5 : Int32) then (Option.bind (gp s7 807 h0) fun a26 => (if gc s7 a26 = 10 then (if ¬ (r8 < 0 ∨ gl s7 a26 ≤ Int32.toNatClampNeg r8) then some (ai s7 a26 (Int32.toNatClampNeg r8), s7) else none) else none)) else some ((-1 : Int32), s7)) else none) else (Option.bind (gp s7 807 h0) fun a20 => (if gc s7 a20 = 10 then (if ¬ (r8 < 0 ∨ gl s7 a20 ≤ Int32.toNatClampNeg r8) then some (ai s7 a20 (Int32.toNatClampNeg r8), s7) else none) else none)))) else (if ¬ (r8 < 0 ∨ gl s7 a13 ≤ Int32.toNatClampNeg r8) then (if (ai s7 a13 (Int32.toNatClampNeg r8)) = (3 : Int32) then (if p2 = (2 : Int32) then (if (1 : Int32) = (0 : Int32) then (if ¬ (r8 < 0 ∨ gl s7 a13 ≤ Int32.toNatClampNeg r8) then (if (ai s7 a13 (Int32.toNatClampNeg r8)) = (4 : Int32) then (Option.bind (gp s7 806 h0) fun a97 => (if gc s7 a97 = 10 then (if ¬ (r8 < 0 ∨ gl s7 a97 ≤ Int32.toNatClampNeg r8) then some (ai s7 a97 (Int32.toNatClampNeg r8), s7) else none) else none)) else (if ¬ (r8 < 0 ∨ gl s7 a13 ≤ Int32.toNatClampNeg r8) then (if (ai s7 a13 (Int32.toNatClampNeg r8)) = (5 : Int32) then (Option.bind (gp s7 806 h0) fun a103 => (if gc s7 a103 = 10 then (if ¬ (r8 < 0 ∨ gl s7 a103 ≤ Int32.toNatClampNeg r8) then some (ai s7 a103 (Int32.toNatClampNeg r8), s7) else none) else none)) else some ((-1 : Int32), s7)) else none)) else none) else (Option.bind (gp s7 806 h0) fun a91 => (if gc s7 a91 = 10 then (if ¬ (r8 < 0 ∨ gl s7 a91 ≤ Int32.toNatClampNeg r8) then some (ai s7 a91 (Int32.toNatClampNeg r8), s7) else none) else none))) else (if (1 : Int32) = (0 : Int32) then (if ¬ (r8 < 0 ∨ gl s7 a13 ≤ Int32.toNatClampNeg r8) then (if (ai s7 a13 (Int32.toNatClampNeg r8)) = (5 : Int32) then (Option.bind (gp s7 807 h0) fun a86 => (if gc s7 a86 = 10 then (if ¬ (r8 < 0 ∨ gl s7 a86 ≤ Int32.toNatClampNeg r8) then some (ai s7 a86 (Int32.toNatClampNeg r8), s7) else none) else none)) else some ((-1 : Int32), s7)) else none) else (Option.bind (gp s7 807 h0) fun a80 => (if gc s7 a80 = 10 then (if ¬ (r8 < 0 ∨ gl s7 a80 ≤ Int32.toNatClampNeg r8) then some (ai s7 a80 (Int32.toNatClampNeg r8), s7) else none) else none)))) else (if p2 = (2 : Int32) then (if (0 : Int32) = (0 : Int32) then (if ¬ (r8 < 0 ∨ gl s7 a13 ≤ Int32.toNatClampNeg r8) then (if (ai s7 a13 (Int32.toNatClampNeg r8)) = (4 : Int32) then (Option.bind (gp s7 806 h0) fun a68 => (if gc s7 a68 = 10 then (if ¬ (r8 < 0 ∨ gl s7 a68 ≤ Int32.toNatClampNeg r8) then some (ai s7 a68 (Int32.toNatClampNeg r8), s7) else none) else none)) else (if ¬ (r8 < 0 ∨ gl s7 a13 ≤ Int32.toNatClampNeg r8) then (if (ai s7 a13 (Int32.toNatClampNeg r8)) = (5 : Int32) then (Option.bind (gp s7 806 h0) fun a74 => (if gc s7 a74 = 10 then (if ¬ (r8 < 0 ∨ gl s7 a74 ≤ Int32.toNatClampNeg r8) then some (ai s7 a74 (Int32.toNatClampNeg r8), s7) else none) else none)) else some ((-1 : Int32), s7)) else none)) else none) else (Option.bind (gp s7 806 h0) fun a62 => (if gc s7 a62 = 10 then (if ¬ (r8 < 0 ∨ gl s7 a62 ≤ Int32.toNatClampNeg r8) then some (ai s7 a62 (Int32.toNatClampNeg r8), s7) else none) else none))) else (if (0 : Int32) = (0 : Int32) then (if ¬ (r8 < 0 ∨ gl s7 a13 ≤ Int32.toNatClampNeg r8) then (if (ai s7 a13 (Int32.toNatClampNeg r8)) = (5 : Int32) then (Option.bind (gp s7 807 h0) fun a57 => (if gc s7 a57 = 10 then (if ¬ (r8 < 0 ∨ gl s7 a57 ≤ Int32.toNatClampNeg r8) then some (ai s7 a57 (Int32.toNatClampNeg r8), s7) else none) else none)) else some ((-1 : Int32), s7)) else none) else (Option.bind (gp s7 807 h0) fun a51 => (if gc s7 a51 = 10 then (if ¬ (r8 < 0 ∨ gl s7 a51 ≤ Int32.toNatClampNeg r8) then some (ai s7 a51 (Int32.toNatClampNeg r8), s7) else none) else none))))) else none)) else none) else none)) else none))))) else none) else some ((-1 : Int32), σ)))))
set_option maxHeartbeats 4000000 in
set_option maxRecDepth 20000 in
theorem m_X7_thing {l : Launch} {d : Dp} {σ σ' : Sg} {h0 : Nat} {p1 : Int32} {p2 : Int32} {r : Int32} (h : ex_X7_thing d σ h0 p1 p2 = some (r, σ')) : Mt l d yX7_thing cX7_thing 5 (some .int) 1 21 σ [.ref h0, .int (p1), .int (p2)] (some (.int r)) σ' 0 0 := by
  refine mt_start (own := RX7) (lv0 := [(0, va_rf (some h0)), (1, .int (p1)), (2, .int (p2))]) (by decide) rfl (by simp only [lg_sl, List.flatMap_cons, List.flatMap_nil, va_rf_cat]; exact Nat.le_of_ble_eq_true rfl) (by first | rfl | (simp only [lv_args, va_rf_cat]; rfl)) ?_
  intro p e s m args below meth c E hnm
  unfold ex_X7_thing at h
  refine r_iload_n E (i := 1) (j := 1) dX7_thing_0 rfl rfl ?_
  refine r_iconst E dX7_thing_1 (v := -1) (by decide) ?_
  refine r_icmp_lt E (tgt := 21) dX7_thing_2 (by decide) (fun c1 => ?_) (fun c1 => ?_)
  · have h := ift c1 h
    obtain ⟨rfl, rfl⟩ := lf2 h
    refine r_iconst E dX7_thing_21 (v := -1) (by decide) ?_
    exact r_iret E dX7_thing_22
  · have h := iff' c1 h
    refine r_iload_n E (i := 1) (j := 1) dX7_thing_5 rfl rfl ?_
    refine r_sipush E dX7_thing_6 (v := 255) (by decide) ?_
    refine r_icmp_gt E (tgt := 21) dX7_thing_9 (by decide) (fun c2 => ?_) (fun c2 => ?_)
    · have h := ift c2 h
      obtain ⟨rfl, rfl⟩ := lf2 h
      refine r_iconst E dX7_thing_21 (v := -1) (by decide) ?_
      exact r_iret E dX7_thing_22
    · have h := iff' c2 h
      refine r_iload_n E (i := 2) (j := 2) dX7_thing_12 rfl rfl ?_
      refine r_if_lt E (tgt := 21) dX7_thing_13 (by decide) (fun c3 => ?_) (fun c3 => ?_)
      · have h := ift c3 h
        obtain ⟨rfl, rfl⟩ := lf2 h
        refine r_iconst E dX7_thing_21 (v := -1) (by decide) ?_
        exact r_iret E dX7_thing_22
      · have h := iff' c3 h
        refine r_iload_n E (i := 2) (j := 2) dX7_thing_16 rfl rfl ?_
        refine r_iconst E dX7_thing_17 (v := 3) (by decide) ?_
        refine r_icmp_le E (tgt := 23) dX7_thing_18 (by decide) (fun c4 => ?_) (fun c4 => ?_)
        · have h := ift c4 h
          obtain ⟨g5, h⟩ := ck h
          obtain ⟨r8, s7, hc6, h⟩ := nb2 h
          refine r_aload_n E (x := some h0) (i := 0) (j := 0) dX7_thing_23 rfl rfl ?_
          refine r_iload_n E (i := 1) (j := 1) dX7_thing_24 rfl rfl ?_
          refine cl_X7_179 E (m_X7_thingAt hc6) dX7_thing_25 ⟨Nat.le_of_ble_eq_true rfl, Nat.le_of_ble_eq_true rfl⟩ ⟨by first | decide | omega | (dsimp only; omega), by first | decide | omega | (dsimp only; omega)⟩ (by decide) rfl g5 ?_
          refine r_istore_n E (i := 3) (lv' := [(3, .int (r8)), (0, va_rf (some h0)), (1, .int (p1)), (2, .int (p2))]) dX7_thing_28 rfl (by decide) (by first | rfl | (simp only [List.filter_cons, List.filter_nil, va_rf_cat]; rfl)) ?_
          refine r_iload_n E (i := 2) (j := 3) dX7_thing_29 rfl rfl ?_
          refine r_if_ne E (tgt := 49) dX7_thing_30 (by decide) (fun c9 => ?_) (fun c9 => ?_)
          · have h := iff' c9 h
            refine r_iload_n E (i := 3) (j := 0) dX7_thing_49 rfl rfl ?_
            refine r_iconst E dX7_thing_50 (v := -1) (by decide) ?_
            refine r_icmp_ne E (tgt := 56) dX7_thing_51 (by decide) (fun c10 => ?_) (fun c10 => ?_)
            · have h := iff' c10 h
              refine r_iload_n E (i := 2) (j := 3) dX7_thing_56 rfl rfl ?_
              refine r_iconst E dX7_thing_57 (v := 1) (by decide) ?_
              refine r_icmp_ne E (tgt := 63) dX7_thing_58 (by decide) (fun c11 => ?_) (fun c11 => ?_)
              · have h := iff' c11 h
                obtain ⟨g12, h⟩ := ck h
                obtain ⟨a13, e14, h⟩ := nn h
                obtain ⟨g15, h⟩ := ck h
                obtain ⟨g16, h⟩ := ck h
                refine r_aload_n E (x := some h0) (i := 0) (j := 1) dX7_thing_63 rfl rfl ?_
                refine gf_X7_24 E (x := gp s7 805 h0) dX7_thing_64 rfl g12 rfl ?_
                refine r_iload_n E (i := 3) (j := 0) dX7_thing_67 rfl rfl ?_
                refine r_iald E dX7_thing_68 e14 g15 g16 ?_
                refine r_iconst E dX7_thing_69 (v := 2) (by decide) ?_
                refine r_icmp_eq E (tgt := 83) dX7_thing_70 (by decide) (fun c17 => ?_) (fun c17 => ?_)
                · have h := ift c17 h
                  refine r_iconst E dX7_thing_83 (v := 1) (by decide) ?_
                  refine r_goto E (tgt := 88) dX7_thing_84 (by decide) ?_
                  refine r_istore E (lv' := [(4, .int ((1 : Int32))), (3, .int (r8)), (0, va_rf (some h0)), (1, .int (p1)), (2, .int (p2))]) dX7_thing_88 (by decide) (by first | rfl | (simp only [List.filter_cons, List.filter_nil, va_rf_cat]; rfl)) ?_
                  refine r_iload_n E (i := 2) (j := 4) dX7_thing_90 rfl rfl ?_
                  refine r_iconst E dX7_thing_91 (v := 2) (by decide) ?_
                  refine r_icmp_ne E (tgt := 131) dX7_thing_92 (by decide) (fun c18 => ?_) (fun c18 => ?_)
                  · have h := iff' c18 h
                    refine r_iload E (j := 0) dX7_thing_131 rfl ?_
                    refine r_if_ne E (tgt := 146) dX7_thing_133 (by decide) (fun c19 => ?_) (fun c19 => ?_)
                    · have h := iff' c19 h
                      obtain ⟨a20, e21, h⟩ := nn h
                      obtain ⟨g22, h⟩ := ck h
                      obtain ⟨g23, h⟩ := ck h
                      obtain ⟨rfl, rfl⟩ := lf2 h
                      refine r_aload_n E (x := some h0) (i := 0) (j := 2) dX7_thing_146 rfl rfl ?_
                      refine gf_X7_30 E (x := gp s7 807 h0) dX7_thing_147 rfl g12 rfl ?_
                      refine r_iload_n E (i := 3) (j := 1) dX7_thing_150 rfl rfl ?_
                      refine r_iald E dX7_thing_151 e21 g22 g23 ?_
                      refine r_goto E (tgt := 156) dX7_thing_152 (by decide) ?_
                      exact r_iret E dX7_thing_156
                    · have h := ift c19 h
                      obtain ⟨g24, h⟩ := ck h
                      refine r_aload_n E (x := some h0) (i := 0) (j := 2) dX7_thing_136 rfl rfl ?_
                      refine gf_X7_24 E (x := gp s7 805 h0) dX7_thing_137 rfl g12 rfl ?_
                      refine r_iload_n E (i := 3) (j := 1) dX7_thing_140 rfl rfl ?_
                      refine r_iald E dX7_thing_141 e14 g15 g24 ?_
                      refine r_iconst E dX7_thing_142 (v := 5) (by decide) ?_
                      refine r_icmp_ne E (tgt := 155) dX7_thing_143 (by decide) (fun c25 => ?_) (fun c25 => ?_)
                      · have h := iff' c25 h
                        obtain ⟨rfl, rfl⟩ := lf2 h
                        refine r_iconst E dX7_thing_155 (v := -1) (by decide) ?_
                        exact r_iret E dX7_thing_156
                      · have h := ift c25 h
                        obtain ⟨a26, e27, h⟩ := nn h
                        obtain ⟨g28, h⟩ := ck h
                        obtain ⟨g29, h⟩ := ck h
                        obtain ⟨rfl, rfl⟩ := lf2 h
                        refine r_aload_n E (x := some h0) (i := 0) (j := 2) dX7_thing_146 rfl rfl ?_
                        refine gf_X7_30 E (x := gp s7 807 h0) dX7_thing_147 rfl g12 rfl ?_
                        refine r_iload_n E (i := 3) (j := 1) dX7_thing_150 rfl rfl ?_
                        refine r_iald E dX7_thing_151 e27 g28 g29 ?_
                        refine r_goto E (tgt := 156) dX7_thing_152 (by decide) ?_
                        exact r_iret E dX7_thing_156
                  · have h := ift c18 h
                    refine r_iload E (j := 0) dX7_thing_95 rfl ?_
                    refine r_if_ne E (tgt := 120) dX7_thing_97 (by decide) (fun c30 => ?_) (fun c30 => ?_)
                    · have h := iff' c30 h
                      obtain ⟨a31, e32, h⟩ := nn h
                      obtain ⟨g33, h⟩ := ck h
                      obtain ⟨g34, h⟩ := ck h
                      obtain ⟨rfl, rfl⟩ := lf2 h
                      refine r_aload_n E (x := some h0) (i := 0) (j := 2) dX7_thing_120 rfl rfl ?_
                      refine gf_X7_27 E (x := gp s7 806 h0) dX7_thing_121 rfl g12 rfl ?_
                      refine r_iload_n E (i := 3) (j := 1) dX7_thing_124 rfl rfl ?_
                      refine r_iald E dX7_thing_125 e32 g33 g34 ?_
                      refine r_goto E (tgt := 130) dX7_thing_126 (by decide) ?_
                      exact r_iret E dX7_thing_130
                    · have h := ift c30 h
                      obtain ⟨g35, h⟩ := ck h
                      refine r_aload_n E (x := some h0) (i := 0) (j := 2) dX7_thing_100 rfl rfl ?_
                      refine gf_X7_24 E (x := gp s7 805 h0) dX7_thing_101 rfl g12 rfl ?_
                      refine r_iload_n E (i := 3) (j := 1) dX7_thing_104 rfl rfl ?_
                      refine r_iald E dX7_thing_105 e14 g15 g35 ?_
                      refine r_iconst E dX7_thing_106 (v := 4) (by decide) ?_
                      refine r_icmp_eq E (tgt := 120) dX7_thing_107 (by decide) (fun c36 => ?_) (fun c36 => ?_)
                      · have h := ift c36 h
                        obtain ⟨a37, e38, h⟩ := nn h
                        obtain ⟨g39, h⟩ := ck h
                        obtain ⟨g40, h⟩ := ck h
                        obtain ⟨rfl, rfl⟩ := lf2 h
                        refine r_aload_n E (x := some h0) (i := 0) (j := 2) dX7_thing_120 rfl rfl ?_
                        refine gf_X7_27 E (x := gp s7 806 h0) dX7_thing_121 rfl g12 rfl ?_
                        refine r_iload_n E (i := 3) (j := 1) dX7_thing_124 rfl rfl ?_
                        refine r_iald E dX7_thing_125 e38 g39 g40 ?_
                        refine r_goto E (tgt := 130) dX7_thing_126 (by decide) ?_
                        exact r_iret E dX7_thing_130
                      · have h := iff' c36 h
                        obtain ⟨g41, h⟩ := ck h
                        refine r_aload_n E (x := some h0) (i := 0) (j := 2) dX7_thing_110 rfl rfl ?_
                        refine gf_X7_24 E (x := gp s7 805 h0) dX7_thing_111 rfl g12 rfl ?_
                        refine r_iload_n E (i := 3) (j := 1) dX7_thing_114 rfl rfl ?_
                        refine r_iald E dX7_thing_115 e14 g15 g41 ?_
                        refine r_iconst E dX7_thing_116 (v := 5) (by decide) ?_
                        refine r_icmp_ne E (tgt := 129) dX7_thing_117 (by decide) (fun c42 => ?_) (fun c42 => ?_)
                        · have h := iff' c42 h
                          obtain ⟨rfl, rfl⟩ := lf2 h
                          refine r_iconst E dX7_thing_129 (v := -1) (by decide) ?_
                          exact r_iret E dX7_thing_130
                        · have h := ift c42 h
                          obtain ⟨a43, e44, h⟩ := nn h
                          obtain ⟨g45, h⟩ := ck h
                          obtain ⟨g46, h⟩ := ck h
                          obtain ⟨rfl, rfl⟩ := lf2 h
                          refine r_aload_n E (x := some h0) (i := 0) (j := 2) dX7_thing_120 rfl rfl ?_
                          refine gf_X7_27 E (x := gp s7 806 h0) dX7_thing_121 rfl g12 rfl ?_
                          refine r_iload_n E (i := 3) (j := 1) dX7_thing_124 rfl rfl ?_
                          refine r_iald E dX7_thing_125 e44 g45 g46 ?_
                          refine r_goto E (tgt := 130) dX7_thing_126 (by decide) ?_
                          exact r_iret E dX7_thing_130
                · have h := iff' c17 h
                  obtain ⟨g47, h⟩ := ck h
                  refine r_aload_n E (x := some h0) (i := 0) (j := 1) dX7_thing_73 rfl rfl ?_
                  refine gf_X7_24 E (x := gp s7 805 h0) dX7_thing_74 rfl g12 rfl ?_
                  refine r_iload_n E (i := 3) (j := 0) dX7_thing_77 rfl rfl ?_
                  refine r_iald E dX7_thing_78 e14 g15 g47 ?_
                  refine r_iconst E dX7_thing_79 (v := 3) (by decide) ?_
                  refine r_icmp_ne E (tgt := 87) dX7_thing_80 (by decide) (fun c48 => ?_) (fun c48 => ?_)
                  · have h := iff' c48 h
                    refine r_iconst E dX7_thing_87 (v := 0) (by decide) ?_
                    refine r_istore E (lv' := [(4, .int ((0 : Int32))), (3, .int (r8)), (0, va_rf (some h0)), (1, .int (p1)), (2, .int (p2))]) dX7_thing_88 (by decide) (by first | rfl | (simp only [List.filter_cons, List.filter_nil, va_rf_cat]; rfl)) ?_
                    refine r_iload_n E (i := 2) (j := 4) dX7_thing_90 rfl rfl ?_
                    refine r_iconst E dX7_thing_91 (v := 2) (by decide) ?_
                    refine r_icmp_ne E (tgt := 131) dX7_thing_92 (by decide) (fun c49 => ?_) (fun c49 => ?_)
                    · have h := iff' c49 h
                      refine r_iload E (j := 0) dX7_thing_131 rfl ?_
                      refine r_if_ne E (tgt := 146) dX7_thing_133 (by decide) (fun c50 => ?_) (fun c50 => ?_)
                      · have h := iff' c50 h
                        obtain ⟨a51, e52, h⟩ := nn h
                        obtain ⟨g53, h⟩ := ck h
                        obtain ⟨g54, h⟩ := ck h
                        obtain ⟨rfl, rfl⟩ := lf2 h
                        refine r_aload_n E (x := some h0) (i := 0) (j := 2) dX7_thing_146 rfl rfl ?_
                        refine gf_X7_30 E (x := gp s7 807 h0) dX7_thing_147 rfl g12 rfl ?_
                        refine r_iload_n E (i := 3) (j := 1) dX7_thing_150 rfl rfl ?_
                        refine r_iald E dX7_thing_151 e52 g53 g54 ?_
                        refine r_goto E (tgt := 156) dX7_thing_152 (by decide) ?_
                        exact r_iret E dX7_thing_156
                      · have h := ift c50 h
                        obtain ⟨g55, h⟩ := ck h
                        refine r_aload_n E (x := some h0) (i := 0) (j := 2) dX7_thing_136 rfl rfl ?_
                        refine gf_X7_24 E (x := gp s7 805 h0) dX7_thing_137 rfl g12 rfl ?_
                        refine r_iload_n E (i := 3) (j := 1) dX7_thing_140 rfl rfl ?_
                        refine r_iald E dX7_thing_141 e14 g15 g55 ?_
                        refine r_iconst E dX7_thing_142 (v := 5) (by decide) ?_
                        refine r_icmp_ne E (tgt := 155) dX7_thing_143 (by decide) (fun c56 => ?_) (fun c56 => ?_)
                        · have h := iff' c56 h
                          obtain ⟨rfl, rfl⟩ := lf2 h
                          refine r_iconst E dX7_thing_155 (v := -1) (by decide) ?_
                          exact r_iret E dX7_thing_156
                        · have h := ift c56 h
                          obtain ⟨a57, e58, h⟩ := nn h
                          obtain ⟨g59, h⟩ := ck h
                          obtain ⟨g60, h⟩ := ck h
                          obtain ⟨rfl, rfl⟩ := lf2 h
                          refine r_aload_n E (x := some h0) (i := 0) (j := 2) dX7_thing_146 rfl rfl ?_
                          refine gf_X7_30 E (x := gp s7 807 h0) dX7_thing_147 rfl g12 rfl ?_
                          refine r_iload_n E (i := 3) (j := 1) dX7_thing_150 rfl rfl ?_
                          refine r_iald E dX7_thing_151 e58 g59 g60 ?_
                          refine r_goto E (tgt := 156) dX7_thing_152 (by decide) ?_
                          exact r_iret E dX7_thing_156
                    · have h := ift c49 h
                      refine r_iload E (j := 0) dX7_thing_95 rfl ?_
                      refine r_if_ne E (tgt := 120) dX7_thing_97 (by decide) (fun c61 => ?_) (fun c61 => ?_)
                      · have h := iff' c61 h
                        obtain ⟨a62, e63, h⟩ := nn h
                        obtain ⟨g64, h⟩ := ck h
                        obtain ⟨g65, h⟩ := ck h
                        obtain ⟨rfl, rfl⟩ := lf2 h
                        refine r_aload_n E (x := some h0) (i := 0) (j := 2) dX7_thing_120 rfl rfl ?_
                        refine gf_X7_27 E (x := gp s7 806 h0) dX7_thing_121 rfl g12 rfl ?_
                        refine r_iload_n E (i := 3) (j := 1) dX7_thing_124 rfl rfl ?_
                        refine r_iald E dX7_thing_125 e63 g64 g65 ?_
                        refine r_goto E (tgt := 130) dX7_thing_126 (by decide) ?_
                        exact r_iret E dX7_thing_130
                      · have h := ift c61 h
                        obtain ⟨g66, h⟩ := ck h
                        refine r_aload_n E (x := some h0) (i := 0) (j := 2) dX7_thing_100 rfl rfl ?_
                        refine gf_X7_24 E (x := gp s7 805 h0) dX7_thing_101 rfl g12 rfl ?_
                        refine r_iload_n E (i := 3) (j := 1) dX7_thing_104 rfl rfl ?_
                        refine r_iald E dX7_thing_105 e14 g15 g66 ?_
                        refine r_iconst E dX7_thing_106 (v := 4) (by decide) ?_
                        refine r_icmp_eq E (tgt := 120) dX7_thing_107 (by decide) (fun c67 => ?_) (fun c67 => ?_)
                        · have h := ift c67 h
                          obtain ⟨a68, e69, h⟩ := nn h
                          obtain ⟨g70, h⟩ := ck h
                          obtain ⟨g71, h⟩ := ck h
                          obtain ⟨rfl, rfl⟩ := lf2 h
                          refine r_aload_n E (x := some h0) (i := 0) (j := 2) dX7_thing_120 rfl rfl ?_
                          refine gf_X7_27 E (x := gp s7 806 h0) dX7_thing_121 rfl g12 rfl ?_
                          refine r_iload_n E (i := 3) (j := 1) dX7_thing_124 rfl rfl ?_
                          refine r_iald E dX7_thing_125 e69 g70 g71 ?_
                          refine r_goto E (tgt := 130) dX7_thing_126 (by decide) ?_
                          exact r_iret E dX7_thing_130
                        · have h := iff' c67 h
                          obtain ⟨g72, h⟩ := ck h
                          refine r_aload_n E (x := some h0) (i := 0) (j := 2) dX7_thing_110 rfl rfl ?_
                          refine gf_X7_24 E (x := gp s7 805 h0) dX7_thing_111 rfl g12 rfl ?_
                          refine r_iload_n E (i := 3) (j := 1) dX7_thing_114 rfl rfl ?_
                          refine r_iald E dX7_thing_115 e14 g15 g72 ?_
                          refine r_iconst E dX7_thing_116 (v := 5) (by decide) ?_
                          refine r_icmp_ne E (tgt := 129) dX7_thing_117 (by decide) (fun c73 => ?_) (fun c73 => ?_)
                          · have h := iff' c73 h
                            obtain ⟨rfl, rfl⟩ := lf2 h
                            refine r_iconst E dX7_thing_129 (v := -1) (by decide) ?_
                            exact r_iret E dX7_thing_130
                          · have h := ift c73 h
                            obtain ⟨a74, e75, h⟩ := nn h
                            obtain ⟨g76, h⟩ := ck h
                            obtain ⟨g77, h⟩ := ck h
                            obtain ⟨rfl, rfl⟩ := lf2 h
                            refine r_aload_n E (x := some h0) (i := 0) (j := 2) dX7_thing_120 rfl rfl ?_
                            refine gf_X7_27 E (x := gp s7 806 h0) dX7_thing_121 rfl g12 rfl ?_
                            refine r_iload_n E (i := 3) (j := 1) dX7_thing_124 rfl rfl ?_
                            refine r_iald E dX7_thing_125 e75 g76 g77 ?_
                            refine r_goto E (tgt := 130) dX7_thing_126 (by decide) ?_
                            exact r_iret E dX7_thing_130
                  · have h := ift c48 h
                    refine r_iconst E dX7_thing_83 (v := 1) (by decide) ?_
                    refine r_goto E (tgt := 88) dX7_thing_84 (by decide) ?_
                    refine r_istore E (lv' := [(4, .int ((1 : Int32))), (3, .int (r8)), (0, va_rf (some h0)), (1, .int (p1)), (2, .int (p2))]) dX7_thing_88 (by decide) (by first | rfl | (simp only [List.filter_cons, List.filter_nil, va_rf_cat]; rfl)) ?_
                    refine r_iload_n E (i := 2) (j := 4) dX7_thing_90 rfl rfl ?_
                    refine r_iconst E dX7_thing_91 (v := 2) (by decide) ?_
                    refine r_icmp_ne E (tgt := 131) dX7_thing_92 (by decide) (fun c78 => ?_) (fun c78 => ?_)
                    · have h := iff' c78 h
                      refine r_iload E (j := 0) dX7_thing_131 rfl ?_
                      refine r_if_ne E (tgt := 146) dX7_thing_133 (by decide) (fun c79 => ?_) (fun c79 => ?_)
                      · have h := iff' c79 h
                        obtain ⟨a80, e81, h⟩ := nn h
                        obtain ⟨g82, h⟩ := ck h
                        obtain ⟨g83, h⟩ := ck h
                        obtain ⟨rfl, rfl⟩ := lf2 h
                        refine r_aload_n E (x := some h0) (i := 0) (j := 2) dX7_thing_146 rfl rfl ?_
                        refine gf_X7_30 E (x := gp s7 807 h0) dX7_thing_147 rfl g12 rfl ?_
                        refine r_iload_n E (i := 3) (j := 1) dX7_thing_150 rfl rfl ?_
                        refine r_iald E dX7_thing_151 e81 g82 g83 ?_
                        refine r_goto E (tgt := 156) dX7_thing_152 (by decide) ?_
                        exact r_iret E dX7_thing_156
                      · have h := ift c79 h
                        obtain ⟨g84, h⟩ := ck h
                        refine r_aload_n E (x := some h0) (i := 0) (j := 2) dX7_thing_136 rfl rfl ?_
                        refine gf_X7_24 E (x := gp s7 805 h0) dX7_thing_137 rfl g12 rfl ?_
                        refine r_iload_n E (i := 3) (j := 1) dX7_thing_140 rfl rfl ?_
                        refine r_iald E dX7_thing_141 e14 g15 g84 ?_
                        refine r_iconst E dX7_thing_142 (v := 5) (by decide) ?_
                        refine r_icmp_ne E (tgt := 155) dX7_thing_143 (by decide) (fun c85 => ?_) (fun c85 => ?_)
                        · have h := iff' c85 h
                          obtain ⟨rfl, rfl⟩ := lf2 h
                          refine r_iconst E dX7_thing_155 (v := -1) (by decide) ?_
                          exact r_iret E dX7_thing_156
                        · have h := ift c85 h
                          obtain ⟨a86, e87, h⟩ := nn h
                          obtain ⟨g88, h⟩ := ck h
                          obtain ⟨g89, h⟩ := ck h
                          obtain ⟨rfl, rfl⟩ := lf2 h
                          refine r_aload_n E (x := some h0) (i := 0) (j := 2) dX7_thing_146 rfl rfl ?_
                          refine gf_X7_30 E (x := gp s7 807 h0) dX7_thing_147 rfl g12 rfl ?_
                          refine r_iload_n E (i := 3) (j := 1) dX7_thing_150 rfl rfl ?_
                          refine r_iald E dX7_thing_151 e87 g88 g89 ?_
                          refine r_goto E (tgt := 156) dX7_thing_152 (by decide) ?_
                          exact r_iret E dX7_thing_156
                    · have h := ift c78 h
                      refine r_iload E (j := 0) dX7_thing_95 rfl ?_
                      refine r_if_ne E (tgt := 120) dX7_thing_97 (by decide) (fun c90 => ?_) (fun c90 => ?_)
                      · have h := iff' c90 h
                        obtain ⟨a91, e92, h⟩ := nn h
                        obtain ⟨g93, h⟩ := ck h
                        obtain ⟨g94, h⟩ := ck h
                        obtain ⟨rfl, rfl⟩ := lf2 h
                        refine r_aload_n E (x := some h0) (i := 0) (j := 2) dX7_thing_120 rfl rfl ?_
                        refine gf_X7_27 E (x := gp s7 806 h0) dX7_thing_121 rfl g12 rfl ?_
                        refine r_iload_n E (i := 3) (j := 1) dX7_thing_124 rfl rfl ?_
                        refine r_iald E dX7_thing_125 e92 g93 g94 ?_
                        refine r_goto E (tgt := 130) dX7_thing_126 (by decide) ?_
                        exact r_iret E dX7_thing_130
                      · have h := ift c90 h
                        obtain ⟨g95, h⟩ := ck h
                        refine r_aload_n E (x := some h0) (i := 0) (j := 2) dX7_thing_100 rfl rfl ?_
                        refine gf_X7_24 E (x := gp s7 805 h0) dX7_thing_101 rfl g12 rfl ?_
                        refine r_iload_n E (i := 3) (j := 1) dX7_thing_104 rfl rfl ?_
                        refine r_iald E dX7_thing_105 e14 g15 g95 ?_
                        refine r_iconst E dX7_thing_106 (v := 4) (by decide) ?_
                        refine r_icmp_eq E (tgt := 120) dX7_thing_107 (by decide) (fun c96 => ?_) (fun c96 => ?_)
                        · have h := ift c96 h
                          obtain ⟨a97, e98, h⟩ := nn h
                          obtain ⟨g99, h⟩ := ck h
                          obtain ⟨g100, h⟩ := ck h
                          obtain ⟨rfl, rfl⟩ := lf2 h
                          refine r_aload_n E (x := some h0) (i := 0) (j := 2) dX7_thing_120 rfl rfl ?_
                          refine gf_X7_27 E (x := gp s7 806 h0) dX7_thing_121 rfl g12 rfl ?_
                          refine r_iload_n E (i := 3) (j := 1) dX7_thing_124 rfl rfl ?_
                          refine r_iald E dX7_thing_125 e98 g99 g100 ?_
                          refine r_goto E (tgt := 130) dX7_thing_126 (by decide) ?_
                          exact r_iret E dX7_thing_130
                        · have h := iff' c96 h
                          obtain ⟨g101, h⟩ := ck h
                          refine r_aload_n E (x := some h0) (i := 0) (j := 2) dX7_thing_110 rfl rfl ?_
                          refine gf_X7_24 E (x := gp s7 805 h0) dX7_thing_111 rfl g12 rfl ?_
                          refine r_iload_n E (i := 3) (j := 1) dX7_thing_114 rfl rfl ?_
                          refine r_iald E dX7_thing_115 e14 g15 g101 ?_
                          refine r_iconst E dX7_thing_116 (v := 5) (by decide) ?_
                          refine r_icmp_ne E (tgt := 129) dX7_thing_117 (by decide) (fun c102 => ?_) (fun c102 => ?_)
                          · have h := iff' c102 h
                            obtain ⟨rfl, rfl⟩ := lf2 h
                            refine r_iconst E dX7_thing_129 (v := -1) (by decide) ?_
                            exact r_iret E dX7_thing_130
                          · have h := ift c102 h
                            obtain ⟨a103, e104, h⟩ := nn h
                            obtain ⟨g105, h⟩ := ck h
                            obtain ⟨g106, h⟩ := ck h
                            obtain ⟨rfl, rfl⟩ := lf2 h
                            refine r_aload_n E (x := some h0) (i := 0) (j := 2) dX7_thing_120 rfl rfl ?_
                            refine gf_X7_27 E (x := gp s7 806 h0) dX7_thing_121 rfl g12 rfl ?_
                            refine r_iload_n E (i := 3) (j := 1) dX7_thing_124 rfl rfl ?_
                            refine r_iald E dX7_thing_125 e104 g105 g106 ?_
                            refine r_goto E (tgt := 130) dX7_thing_126 (by decide) ?_
                            exact r_iret E dX7_thing_130
              · have h := ift c11 h
                obtain ⟨rfl, rfl⟩ := lf2 h
                refine r_iload_n E (i := 3) (j := 0) dX7_thing_61 rfl rfl ?_
                exact r_iret E dX7_thing_62
            · have h := ift c10 h
              obtain ⟨rfl, rfl⟩ := lf2 h
              refine r_iconst E dX7_thing_54 (v := -1) (by decide) ?_
              exact r_iret E dX7_thing_55
          · have h := ift c9 h
            refine r_iload_n E (i := 3) (j := 0) dX7_thing_33 rfl rfl ?_
            refine r_iconst E dX7_thing_34 (v := -1) (by decide) ?_
            refine r_icmp_ne E (tgt := 42) dX7_thing_35 (by decide) (fun c107 => ?_) (fun c107 => ?_)
            · have h := iff' c107 h
              obtain ⟨g108, h⟩ := ck h
              obtain ⟨a109, e110, h⟩ := nn h
              obtain ⟨g111, h⟩ := ck h
              obtain ⟨g112, h⟩ := ck h
              obtain ⟨rfl, rfl⟩ := lf2 h
              refine r_aload_n E (x := some h0) (i := 0) (j := 1) dX7_thing_42 rfl rfl ?_
              refine gf_X7_24 E (x := gp s7 805 h0) dX7_thing_43 rfl g108 rfl ?_
              refine r_iload_n E (i := 3) (j := 0) dX7_thing_46 rfl rfl ?_
              refine r_iald E dX7_thing_47 e110 g111 g112 ?_
              exact r_iret E dX7_thing_48
            · have h := ift c107 h
              obtain ⟨rfl, rfl⟩ := lf2 h
              refine r_iconst E dX7_thing_38 (v := 0) (by decide) ?_
              refine r_goto E (tgt := 48) dX7_thing_39 (by decide) ?_
              exact r_iret E dX7_thing_48
        · have h := iff' c4 h
          obtain ⟨rfl, rfl⟩ := lf2 h
          refine r_iconst E dX7_thing_21 (v := -1) (by decide) ?_
          exact r_iret E dX7_thing_22
