def ex_X7_inRow (d : Dp) (σ : Sg) (h0 : Nat) (p1 : Int32) (p2 : Int32) (p3 : Int32) (p4 : Int32) : Option (Int32 × Sg) := (if gc σ h0 = 9 then (Option.bind (gp σ 806 h0) fun a2 => (if gc σ a2 = 10 then (if ¬ (p2 < 0 ∨ gl σ a2 ≤ Int32.toNatClampNeg p2) then (if (ai σ a2 (Int32.toNatClampNeg p2)) = (-1 : Int32) then (b2 (ex_X7_fail d σ h0 (1 : Int32) p1) fun r261 s260 => some (r261, s260)) else (if p3 < (0 : Int32) then (b2 (ex_X7_fail d σ h0 (2 : Int32) p1) fun r10 s9 => some (r10, s9)) else (if ¬ (p2 < 0 ∨ gl σ a2 ≤ Int32.toNatClampNeg p2) then (if p3 < (ai σ a2 (Int32.toNatClampNeg p2)) then (Option.bind (gp σ 808 h0) fun a13 => (if gc σ a13 = 11 then (if ¬ (p2 < 0 ∨ gl σ a13 ≤ Int32.toNatClampNeg p2) then (Option.bind (gp σ 801 h0) fun a17 => (if gc σ a17 = 10 then (if ¬ (p1 < 0 ∨ gl σ a17 ≤ Int32.toNatClampNeg p1) then (if (ai σ a17 (Int32.toNatClampNeg p1)) = (13 : Int32) then (Option.bind (gp σ 810 h0) fun a252 => (if gc σ a252 = 10 then (if ¬ (((Int64.toInt32 (aj σ a13 (Int32.toNatClampNeg p2))) + p3) < 0 ∨ gl σ a252 ≤ Int32.toNatClampNeg ((Int64.toInt32 (aj σ a13 (Int32.toNatClampNeg p2))) + p3)) then some (ai σ a252 (Int32.toNatClampNeg ((Int64.toInt32 (aj σ a13 (Int32.toNatClampNeg p2))) + p3)), σ) else none) else none)) else (if p4 = (-1 : Int32) then (if p4 = (-1 : Int32) then (Option.bind (gp σ 810 h0) fun a24 => (if gc σ a24 = 10 then (if ¬ (((Int64.toInt32 (aj σ a13 (Int32.toNatClampNeg p2))) + p3) < 0 ∨ gl σ a24 ≤ Int32.toNatClampNeg ((Int64.toInt32 (aj σ a13 (Int32.toNatClampNeg p2))) + p3)) then (bn (wi σ a24 (Int32.toNatClampNeg ((Int64.toInt32 (aj σ a13 (Int32.toNatClampNeg p2))) + p3)) p4) fun s28 => some (p4, s28)) else none) else none)) else (Option.bind (gp σ 807 h0) fun a30 => (if gc σ a30 = 10 then (if ¬ (p2 < 0 ∨ gl σ a30 ≤ Int32.toNatClampNeg p2) then (if (ai σ a30 (Int32.toNatClampNeg p2)) = (1 : Int32) then (if (0 : Int32) = (0 : Int32) then (b2 (ex_X7_fail d σ h0 (4 : Int32) p1) fun r60 s59 => some (r60, s59)) else (if ¬ (p2 < 0 ∨ gl σ a30 ≤ Int32.toNatClampNeg p2) then (if (ai σ a30 (Int32.toNatClampNeg p2)) = (2 : Int32) then (Option.bind (gp σ 805 h0) fun a69 => (if gc σ a69 = 10 then (if ¬ (p4 < 0 ∨ gl σ a69 ≤ Int32.toNatClampNeg p4) then (if (ai σ a69 (Int32.toNatClampNeg p4)) = (3 : Int32) then (Option.bind (gp σ 810 h0) fun a74 => (if gc σ a74 = 10 then (if ¬ (((Int64.toInt32 (aj σ a13 (Int32.toNatClampNeg p2))) + p3) < 0 ∨ gl σ a74 ≤ Int32.toNatClampNeg ((Int64.toInt32 (aj σ a13 (Int32.toNatClampNeg p2))) + p3)) then (bn (wi σ a74 (Int32.toNatClampNeg ((Int64.toInt32 (aj σ a13 (Int32.toNatClampNeg p2))) + p3)) p4) fun s78 => some (p4, s78)) else none) else none)) else (b2 (ex_X7_fail d σ h0 (4 : Int32) p1) fun r82 s81 => some (r82, s81))) else none) else none)) else (Option.bind (gp σ 810 h0) fun a63 => (if gc σ a63 = 10 then (if ¬ (((Int64.toInt32 (aj σ a13 (Int32.toNatClampNeg p2))) + p3) < 0 ∨ gl σ a63 ≤ Int32.toNatClampNeg ((Int64.toInt32 (aj σ a13 (Int32.toNatClampNeg p2))) + p3)) then (bn (wi σ a63 (Int32.toNatClampNeg ((Int64.toInt32 (aj σ a13 (Int32.toNatClampNeg p2))) + p3)) p4) fun s67 => some (p4, s67)) else none) else none))) else none)) else (if ¬ (p2 < 0 ∨ gl σ a30 ≤ Int32.toNatClampNeg p2) then (if (ai σ a30 (Int32.toNatClampNeg p2)) = (2 : Int32) then (Option.bind (gp σ 805 h0) fun a43 => (if gc σ a43 = 10 then (if ¬ (p4 < 0 ∨ gl σ a43 ≤ Int32.toNatClampNeg p4) then (if (ai σ a43 (Int32.toNatClampNeg p4)) = (3 : Int32) then (Option.bind (gp σ 810 h0) fun a48 => (if gc σ a48 = 10 then (if ¬ (((Int64.toInt32 (aj σ a13 (Int32.toNatClampNeg p2))) + p3) < 0 ∨ gl σ a48 ≤ Int32.toNatClampNeg ((Int64.toInt32 (aj σ a13 (Int32.toNatClampNeg p2))) + p3)) then (bn (wi σ a48 (Int32.toNatClampNeg ((Int64.toInt32 (aj σ a13 (Int32.toNatClampNeg p2))) + p3)) p4) fun s52 => some (p4, s52)) else none) else none)) else (b2 (ex_X7_fail d σ h0 (4 : Int32) p1) fun r56 s55 => some (r56, s55))) else none) else none)) else (Option.bind (gp σ 810 h0) fun a37 => (if gc σ a37 = 10 then (if ¬ (((Int64.toInt32 (aj σ a13 (Int32.toNatClampNeg p2))) + p3) < 0 ∨ gl σ a37 ≤ Int32.toNatClampNeg ((Int64.toInt32 (aj σ a13 (Int32.toNatClampNeg p2))) + p3)) then (bn (wi σ a37 (Int32.toNatClampNeg ((Int64.toInt32 (aj σ a13 (Int32.toNatClampNeg p2))) + p3)) p4) fun s41 => some (p4, s41)) else none) else none))) else none)) else none) else none))) else (Option.bind (gp σ 805 h0) fun a83 => (if gc σ a83 = 10 then (if ¬ (p4 < 0 ∨ gl σ a83 ≤ Int32.toNatClampNeg p4) then (if (ai σ a83 (Int32.toNatClampNeg p4)) = (2 : Int32) then (if p4 = (-1 : Int32) then (Option.bind (gp σ 810 h0) fun a89 => (if gc σ a89 = 10 then (if ¬ (((Int64.toInt32 (aj σ a13 (Int32.toNatClampNeg p2))) + p3) < 0 ∨ gl σ a89 ≤ Int32.toNatClampNeg ((Int64.toInt32 (aj σ a13 (Int32.toNatClampNeg p2))) + p3)) then (bn (wi σ a89 (Int32.toNatClampNeg ((Int64.toInt32 (aj σ a13 (Int32.toNatClampNeg p2))) + p3)) p4) fun s93 => some (p4, s93)) else none) else none)) else (Option.bind (gp σ 807 h0) fun a95 => (if gc σ a95 = 10 then (if ¬ (p2 < 0 ∨ gl σ a95 ≤ Int32.toNatClampNeg p2) then (if (ai σ a95 (Int32.toNatClampNeg p2)) = (1 : Int32) then (if (1 : Int32) = (0 : Int32) then (b2 (ex_X7_fail d σ h0 (4 : Int32) p1) fun r122 s121 => some (r122, s121)) else (if ¬ (p2 < 0 ∨ gl σ a95 ≤ Int32.toNatClampNeg p2) then (if (ai σ a95 (Int32.toNatClampNeg p2)) = (2 : Int32) then (if ¬ (p4 < 0 ∨ gl σ a83 ≤ Int32.toNatClampNeg p4) then (if (ai σ a83 (Int32.toNatClampNeg p4)) = (3 : Int32) then (Option.bind (gp σ 810 h0) fun a133 => (if gc σ a133 = 10 then (if ¬ (((Int64.toInt32 (aj σ a13 (Int32.toNatClampNeg p2))) + p3) < 0 ∨ gl σ a133 ≤ Int32.toNatClampNeg ((Int64.toInt32 (aj σ a13 (Int32.toNatClampNeg p2))) + p3)) then (bn (wi σ a133 (Int32.toNatClampNeg ((Int64.toInt32 (aj σ a13 (Int32.toNatClampNeg p2))) + p3)) p4) fun s137 => some (p4, s137)) else none) else none)) else (b2 (ex_X7_fail d σ h0 (4 : Int32) p1) fun r141 s140 => some (r141, s140))) else none) else (Option.bind (gp σ 810 h0) fun a125 => (if gc σ a125 = 10 then (if ¬ (((Int64.toInt32 (aj σ a13 (Int32.toNatClampNeg p2))) + p3) < 0 ∨ gl σ a125 ≤ Int32.toNatClampNeg ((Int64.toInt32 (aj σ a13 (Int32.toNatClampNeg p2))) + p3)) then (bn (wi σ a125 (Int32.toNatClampNeg ((Int64.toInt32 (aj σ a13 (Int32.toNatClampNeg p2))) + p3)) p4) fun s129 => some (p4, s129)) else none) else none))) else none)) else (if ¬ (p2 < 0 ∨ gl σ a95 ≤ Int32.toNatClampNeg p2) then (if (ai σ a95 (Int32.toNatClampNeg p2)) = (2 : Int32) then (if ¬ (p4 < 0 ∨ gl σ a83 ≤ Int32.toNatClampNeg p4) then (if (ai σ a83 (Int32.toNatClampNeg p4)) = (3 : Int32) then (Option.bind (gp σ 810 h0) fun a110 => (if gc σ a110 = 10 then (if ¬ (((Int64.toInt32 (aj σ a13 (Int32.toNatClampNeg p2))) + p3) < 0 ∨ gl σ a110 ≤ Int32.toNatClampNeg ((Int64.toInt32 (aj σ a13 (Int32.toNatClampNeg p2))) + p3)) then (bn (wi σ a110 (Int32.toNatClampNeg ((Int64.toInt32 (aj σ a13 (Int32.toNatClampNeg p2))) + p3)) p4) fun s114 => some (p4, s114)) else none) else none)) else (b2 (ex_X7_fail d σ h0 (4 : Int32) p1) fun r118 s117 => some (r118, s117))) else none) else (Option.bind (gp σ 810 h0) fun a102 => (if gc σ a102 = 10 then (if ¬ (((Int64.toInt32 (aj σ a13 (Int32.toNatClampNeg p2))) + p3) < 0 ∨ gl σ a102 ≤ Int32.toNatClampNeg ((Int64.toInt32 (aj σ a13 (Int32.toNatClampNeg p2))) + p3)) then (bn (wi σ a102 (Int32.toNatClampNeg ((Int64.toInt32 (aj σ a13 (Int32.toNatClampNeg p2))) + p3)) p4) fun s106 => some (p4, s106)) else none) else none))) else none)) else none) else none))) else (if ¬ (p4 < 0 ∨ gl σ a83 ≤ Int32.toNatClampNeg p4) then (if (ai σ a83 (Int32.toNatClampNeg p4)) = (3 : Int32) then (if p4 = (-1 : Int32) then (Option.bind (gp σ 810 h0) fun a199 => (if gc σ a199 = 10 then (if ¬ (((Int64.toInt32 (aj σ a13 (Int32.toNatClampNeg p2))) + p3) < 0 ∨ gl σ a199 ≤ Int32.toNatClampNeg ((Int64.toInt32 (aj σ a13 (Int32.toNatClampNeg p2))) + p3)) then (bn (wi σ a199 (Int32.toNatClampNeg ((Int64.toInt32 (aj σ a13 (Int32.toNatClampNeg p2))) + p3)) p4) fun s203 => some (p4, s203)) else none) else none)) else (Option.bind (gp σ 807 h0) fun a205 => (if gc σ a205 = 10 then (if ¬ (p2 < 0 ∨ gl σ a205 ≤ Int32.toNatClampNeg p2) then (if (ai σ a205 (Int32.toNatClampNeg p2)) = (1 : Int32) then (if (1 : Int32) = (0 : Int32) then (b2 (ex_X7_fail d σ h0 (4 : Int32) p1) fun r232 s231 => some (r232, s231)) else (if ¬ (p2 < 0 ∨ gl σ a205 ≤ Int32.toNatClampNeg p2) then (if (ai σ a205 (Int32.toNatClampNeg p2)) = (2 : Int32) then (if ¬ (p4 < 0 ∨ gl σ a83 ≤ Int32.toNatClampNeg p4) then (if (ai σ a83 (Int32.toNatClampNeg p4)) = (3 : Int32) then (Option.bind (gp σ 810 h0) fun a243 => (if gc σ a243 = 10 then (if ¬ (((Int64.toInt32 (aj σ a13 (Int32.toNatClampNeg p2))) + p3) < 0 ∨ gl σ a243 ≤ Int32.toNatClampNeg ((Int64.toInt32 (aj σ a13 (Int32.toNatClampNeg p2))) + p3)) then (bn (wi σ a243 (Int32.toNatClampNeg ((Int64.toInt32 (aj σ a13 (Int32.toNatClampNeg p2))) + p3)) p4) fun s247 => some (p4, s247)) else none) else none)) else (b2 (ex_X7_fail d σ h0 (4 : Int32) p1) fun r251 s250 => some (r251, s250))) else none) else (Option.bind (gp σ 810 h0) fun a235 => (if gc σ a235 = 10 then (if ¬ (((Int64.toInt32 (aj σ a13 (Int32.toNatClampNeg p2))) + p3) < 0 ∨ gl σ a235 ≤ Int32.toNatClampNeg ((Int64.toInt32 (aj σ a13 (Int32.toNatClampNeg p2))) + p3)) then (bn (wi σ a235 (Int32.toNatClampNeg ((Int64.toInt32 (aj σ a13 (Int32.toNatClampNeg p2))) + p3)) p4) fun s239 => some (p4, s239)) else none) else none))) else none)) else (if ¬ (p2 < 0 ∨ gl σ a205 ≤ Int32.toNatClampNeg p2) then (if (ai σ a205 (Int32.toNatClampNeg p2)) = (2 : Int32) then (if ¬ (p4 < 0 ∨ gl σ a83 ≤ Int32.toNatClampNeg p4) then (if (ai σ a83 (Int32.toNatClampNeg p4)) = (3 : Int32) then (Option.bind (gp σ 810 h0) fun a220 => (if gc σ a220 = 10 then (if ¬ (((Int64.toInt32 (aj σ a13 (Int32.toNatClampNeg p2))) + p3) < 0 ∨ gl σ a220 ≤ Int32.toNatClampNeg ((Int64.toInt32 (aj σ a13 (Int32.toNatClampNeg p2))) + p3)) then (bn (wi σ a220 (Int32.toNatClampNeg ((Int64.toInt32 (aj σ a13 (Int32.toNatClampNeg p2))) + p3)) p4) fun s224 => some (p4, s224)) else none) else none)) else (b2 (ex_X7_fail d σ h0 (4 : Int32) p1) fun r228 s227 => some (r228, s227))) else none) else (Option.bind (gp σ 810 h0) fun a212 => (if gc σ a212 = 10 then (if ¬ (((Int64.toInt32 (aj σ a13 (Int32.toNatClampNeg p2))) + p3) < 0 ∨ gl σ a212 ≤ Int32.toNatClampNeg ((Int64.toInt32 (aj σ a13 (Int32.toNatClampNeg p2))) + p3)) then (bn (wi σ a212 (Int32.toNatClampNeg ((Int64.toInt32 (aj σ a13 (Int32.toNatClampNeg p2))) + p3)) p4) fun s216 => some (p4, s216)) else none) else none))) else none)) else none) else none))) else (if p4 = (-1 : Int32) then (Option.bind (gp σ 810 h0) fun a145 => (if gc σ a145 = 10 then (if ¬ (((Int64.toInt32 (aj σ a13 (Int32.toNatClampNeg p2))) + p3) < 0 ∨ gl σ a145 ≤ Int32.toNatClampNeg ((Int64.toInt32 (aj σ a13 (Int32.toNatClampNeg p2))) + p3)) then (bn (wi σ a145 (Int32.toNatClampNeg ((Int64.toInt32 (aj σ a13 (Int32.toNatClampNeg p2))) + p3)) p4) fun s149 => some (p4, s149)) else none) else none)) else (Option.bind (gp σ 807 h0) fun a151 => (if gc σ a151 = 10 then (if ¬ (p2 < 0 ∨ gl σ a151 ≤ Int32.toNatClampNeg p2) then (if (ai σ a151 (Int32.toNatClampNeg p2)) = (1 : Int32) then (if (0 : Int32) = (0 : Int32) then (b2 (ex_X7_fail d σ h0 (4 : Int32) p1) fun r178 s177 => some (r178, s177)) else (if ¬ (p2 < 0 ∨ gl σ a151 ≤ Int32.toNatClampNeg p2) then (if (ai σ a151 (Int32.toNatClampNeg p2)) = (2 : Int32) then (if ¬ (p4 < 0 ∨ gl σ a83 ≤ Int32.toNatClampNeg p4) then (if (ai σ a83 (Int32.toNatClampNeg p4)) = (3 : Int32) then (Option.bind (gp σ 810 h0) fun a189 => (if gc σ a189 = 10 then (if ¬ (((Int64.toInt32 (aj σ a13 (Int32.toNatClampNeg p2))) + p3) < 0 ∨ gl σ a189 ≤ Int32.toNatClampNeg ((Int64.toInt32 (aj σ a13 (Int32.toNatClampNeg p2))) + p3)) then (bn (wi σ a189 (Int32.toNatClampNeg ((Int64.toInt32 (aj σ a13 (Int32.toNatClampNeg p2))) + p3)) p4) fun s193 => some (p4, s193)) else none) else none)) else (b2 (ex_X7_fail d σ h0 (4 : Int32) p1) fun r197 s196 => some (r197, s196))) else none) else (Option.bind (gp σ 810 h0) fun a181 => (if gc σ a181 = 10 then (if ¬ (((Int64.toInt32 (aj σ a13 (Int32.toNatClampNeg p2))) + p3) < 0 ∨ gl σ a181 ≤ Int32.toNatClampNeg ((Int64.toInt32 (aj σ a13 (Int32.toNatClampNeg p2))) + p3)) then (bn (wi σ a181 (Int32.toNatClampNeg ((Int64.toInt32 (aj σ a13 (Int32.toNatClampNeg p2))) + p3)) p4) fun s185 => some (p4, s185)) else none) else none))) else none)) else (if ¬ (p2 < 0 ∨ gl σ a151 ≤ Int32.toNatClampNeg p2) then (if (ai σ a151 (Int32.toNatClampNeg p2)) = (2 : Int32) then (if ¬ (p4 < 0 ∨ gl σ a83 ≤ Int32.toNatClampNeg p4) then (if (ai σ a83 (Int32.toNatClampNeg p4)) = (3 : Int32) then (Option.bind (gp σ 810 h0) fun a166 => (if gc σ a166 = 10 then (if ¬ (((Int64.toInt32 (aj σ a13 (Int32.toNatClampNeg p2))) + p3) < 0 ∨ gl σ a166 ≤ Int32.toNatClampNeg ((Int64.toInt32 (aj σ a13 (Int32.toNatClampNeg p2))) + p3)) then (bn (wi σ a166 (Int32.toNatClampNeg ((Int64.toInt32 (aj σ a13 (Int32.toNatClampNeg p2))) + p3)) p4) fun s170 => some (p4, s170)) else none) else none)) else (b2 (ex_X7_fail d σ h0 (4 : Int32) p1) fun r174 s173 => some (r174, s173))) else none) else (Option.bind (gp σ 810 h0) fun a158 => (if gc σ a158 = 10 then (if ¬ (((Int64.toInt32 (aj σ a13 (Int32.toNatClampNeg p2))) + p3) < 0 ∨ gl σ a158 ≤ Int32.toNatClampNeg ((Int64.toInt32 (aj σ a13 (Int32.toNatClampNeg p2))) + p3)) then (bn (wi σ a158 (Int32.toNatClampNeg ((Int64.toInt32 (aj σ a13 (Int32.toNatClampNeg p2))) + p3)) p4) fun s162 => some (p4, s162)) else none) else none))) else none)) else none) else none)))) else none)) else none) else none)))) else none) else none)) else none) else none)) else (b2 (ex_X7_fail d σ h0 (2 : Int32) p1) fun r258 s257 => some (r258, s257))) else none))) else none) else none)) else none)
set_option maxHeartbeats 4000000 in
set_option maxRecDepth 20000 in
theorem m_X7_inRow {l : Launch} {d : Dp} {σ σ' : Sg} {h0 : Nat} {p1 : Int32} {p2 : Int32} {p3 : Int32} {p4 : Int32} {r : Int32} (h : ex_X7_inRow d σ h0 p1 p2 p3 p4 = some (r, σ')) : Mt l d yX7_inRow cX7_inRow 7 (some .int) 1 22 σ [.ref h0, .int (p1), .int (p2), .int (p3), .int (p4)] (some (.int r)) σ' 0 0 := by
  refine mt_start (own := RX7) (lv0 := [(0, va_rf (some h0)), (1, .int (p1)), (2, .int (p2)), (3, .int (p3)), (4, .int (p4))]) (by decide) rfl (by simp only [lg_sl, List.flatMap_cons, List.flatMap_nil, va_rf_cat]; exact Nat.le_of_ble_eq_true rfl) (by first | rfl | (simp only [lv_args, va_rf_cat]; rfl)) ?_
  intro p e s m args below meth c E hnm
  unfold ex_X7_inRow at h
  obtain ⟨g1, h⟩ := ck h
  obtain ⟨a2, e3, h⟩ := nn h
  obtain ⟨g4, h⟩ := ck h
  obtain ⟨g5, h⟩ := ck h
  refine r_aload_n E (x := some h0) (i := 0) (j := 0) dX7_inRow_0 rfl rfl ?_
  refine gf_X7_27 E (x := gp σ 806 h0) dX7_inRow_1 rfl g1 rfl ?_
  refine r_iload_n E (i := 2) (j := 2) dX7_inRow_4 rfl rfl ?_
  refine r_iald E dX7_inRow_5 e3 g4 g5 ?_
  refine r_iconst E dX7_inRow_6 (v := -1) (by decide) ?_
  refine r_icmp_ne E (tgt := 17) dX7_inRow_7 (by decide) (fun c6 => ?_) (fun c6 => ?_)
  · have h := iff' c6 h
    refine r_iload_n E (i := 3) (j := 3) dX7_inRow_17 rfl rfl ?_
    refine r_if_lt E (tgt := 31) dX7_inRow_18 (by decide) (fun c7 => ?_) (fun c7 => ?_)
    · have h := ift c7 h
      obtain ⟨r10, s9, hc8, h⟩ := nb2 h
      obtain ⟨rfl, rfl⟩ := lf2 h
      refine r_aload_n E (x := some h0) (i := 0) (j := 0) dX7_inRow_31 rfl rfl ?_
      refine r_iconst E dX7_inRow_32 (v := 2) (by decide) ?_
      refine r_iload_n E (i := 1) (j := 1) dX7_inRow_33 rfl rfl ?_
      refine cl_X7_88 E (m_X7_fail hc8) dX7_inRow_34 ⟨Nat.le_of_ble_eq_true rfl, Nat.le_of_ble_eq_true rfl⟩ ⟨by first | decide | omega | (dsimp only; omega), by first | decide | omega | (dsimp only; omega)⟩ (by decide) rfl g1 ?_
      exact r_iret E dX7_inRow_37
    · have h := iff' c7 h
      obtain ⟨g11, h⟩ := ck h
      refine r_iload_n E (i := 3) (j := 3) dX7_inRow_21 rfl rfl ?_
      refine r_aload_n E (x := some h0) (i := 0) (j := 0) dX7_inRow_22 rfl rfl ?_
      refine gf_X7_27 E (x := gp σ 806 h0) dX7_inRow_23 rfl g1 rfl ?_
      refine r_iload_n E (i := 2) (j := 2) dX7_inRow_26 rfl rfl ?_
      refine r_iald E dX7_inRow_27 e3 g4 g11 ?_
      refine r_icmp_lt E (tgt := 38) dX7_inRow_28 (by decide) (fun c12 => ?_) (fun c12 => ?_)
      · have h := ift c12 h
        obtain ⟨a13, e14, h⟩ := nn h
        obtain ⟨g15, h⟩ := ck h
        obtain ⟨g16, h⟩ := ck h
        obtain ⟨a17, e18, h⟩ := nn h
        obtain ⟨g19, h⟩ := ck h
        obtain ⟨g20, h⟩ := ck h
        refine r_aload_n E (x := some h0) (i := 0) (j := 0) dX7_inRow_38 rfl rfl ?_
        refine gf_X7_33 E (x := gp σ 808 h0) dX7_inRow_39 rfl g1 rfl ?_
        refine r_iload_n E (i := 2) (j := 2) dX7_inRow_42 rfl rfl ?_
        refine r_lald E dX7_inRow_43 e14 g15 g16 ?_
        refine r_l2i E dX7_inRow_44 ?_
        refine r_iload_n E (i := 3) (j := 3) dX7_inRow_45 rfl rfl ?_
        refine r_iadd E dX7_inRow_46 ?_
        refine r_istore E (lv' := [(5, .int ((Int64.toInt32 (aj σ a13 (Int32.toNatClampNeg p2))) + p3)), (0, va_rf (some h0)), (1, .int (p1)), (2, .int (p2)), (3, .int (p3)), (4, .int (p4))]) dX7_inRow_47 (by decide) (by first | rfl | (simp only [List.filter_cons, List.filter_nil, va_rf_cat]; rfl)) ?_
        refine r_aload_n E (x := some h0) (i := 0) (j := 1) dX7_inRow_49 rfl rfl ?_
        refine gf_X7_13 E (x := gp σ 801 h0) dX7_inRow_50 rfl g1 rfl ?_
        refine r_iload_n E (i := 1) (j := 2) dX7_inRow_53 rfl rfl ?_
        refine r_iald E dX7_inRow_54 e18 g19 g20 ?_
        refine r_bipush E dX7_inRow_55 (v := 13) (by decide) ?_
        refine r_icmp_ne E (tgt := 68) dX7_inRow_57 (by decide) (fun c21 => ?_) (fun c21 => ?_)
        · have h := iff' c21 h
          refine r_iload E (j := 5) dX7_inRow_68 rfl ?_
          refine r_iconst E dX7_inRow_70 (v := -1) (by decide) ?_
          refine r_icmp_eq E (tgt := 100) dX7_inRow_71 (by decide) (fun c22 => ?_) (fun c22 => ?_)
          · have h := ift c22 h
            refine r_iconst E dX7_inRow_100 (v := 0) (by decide) ?_
            refine r_istore E (lv' := [(6, .int ((0 : Int32))), (5, .int ((Int64.toInt32 (aj σ a13 (Int32.toNatClampNeg p2))) + p3)), (0, va_rf (some h0)), (1, .int (p1)), (2, .int (p2)), (3, .int (p3)), (4, .int (p4))]) dX7_inRow_101 (by decide) (by first | rfl | (simp only [List.filter_cons, List.filter_nil, va_rf_cat]; rfl)) ?_
            refine r_iload E (j := 6) dX7_inRow_103 rfl ?_
            refine r_iconst E dX7_inRow_105 (v := -1) (by decide) ?_
            refine r_icmp_eq E (tgt := 152) dX7_inRow_106 (by decide) (fun c23 => ?_) (fun c23 => ?_)
            · have h := ift c23 h
              obtain ⟨a24, e25, h⟩ := nn h
              obtain ⟨g26, h⟩ := ck h
              obtain ⟨g27, h⟩ := ck h
              obtain ⟨s28, e29, h⟩ := nbn h
              obtain ⟨rfl, rfl⟩ := lf2 h
              refine r_aload_n E (x := some h0) (i := 0) (j := 2) dX7_inRow_152 rfl rfl ?_
              refine gf_X7_36 E (x := gp σ 810 h0) dX7_inRow_153 rfl g1 rfl ?_
              refine r_iload E (j := 1) dX7_inRow_156 rfl ?_
              refine r_iload E (j := 6) dX7_inRow_158 rfl ?_
              refine r_iast E dX7_inRow_160 e25 g26 g27 ?_
              refine r_nm e29 ?_
              refine r_iload E (j := 6) dX7_inRow_161 rfl ?_
              exact r_iret E dX7_inRow_163
            · have h := iff' c23 h
              obtain ⟨a30, e31, h⟩ := nn h
              obtain ⟨g32, h⟩ := ck h
              obtain ⟨g33, h⟩ := ck h
              refine r_aload_n E (x := some h0) (i := 0) (j := 2) dX7_inRow_109 rfl rfl ?_
              refine gf_X7_30 E (x := gp σ 807 h0) dX7_inRow_110 rfl g1 rfl ?_
              refine r_iload_n E (i := 2) (j := 4) dX7_inRow_113 rfl rfl ?_
              refine r_iald E dX7_inRow_114 e31 g32 g33 ?_
              refine r_iconst E dX7_inRow_115 (v := 1) (by decide) ?_
              refine r_icmp_ne E (tgt := 124) dX7_inRow_116 (by decide) (fun c34 => ?_) (fun c34 => ?_)
              · have h := iff' c34 h
                obtain ⟨g35, h⟩ := ck h
                refine r_aload_n E (x := some h0) (i := 0) (j := 2) dX7_inRow_124 rfl rfl ?_
                refine gf_X7_30 E (x := gp σ 807 h0) dX7_inRow_125 rfl g1 rfl ?_
                refine r_iload_n E (i := 2) (j := 4) dX7_inRow_128 rfl rfl ?_
                refine r_iald E dX7_inRow_129 e31 g32 g35 ?_
                refine r_iconst E dX7_inRow_130 (v := 2) (by decide) ?_
                refine r_icmp_ne E (tgt := 152) dX7_inRow_131 (by decide) (fun c36 => ?_) (fun c36 => ?_)
                · have h := iff' c36 h
                  obtain ⟨a37, e38, h⟩ := nn h
                  obtain ⟨g39, h⟩ := ck h
                  obtain ⟨g40, h⟩ := ck h
                  obtain ⟨s41, e42, h⟩ := nbn h
                  obtain ⟨rfl, rfl⟩ := lf2 h
                  refine r_aload_n E (x := some h0) (i := 0) (j := 2) dX7_inRow_152 rfl rfl ?_
                  refine gf_X7_36 E (x := gp σ 810 h0) dX7_inRow_153 rfl g1 rfl ?_
                  refine r_iload E (j := 1) dX7_inRow_156 rfl ?_
                  refine r_iload E (j := 6) dX7_inRow_158 rfl ?_
                  refine r_iast E dX7_inRow_160 e38 g39 g40 ?_
                  refine r_nm e42 ?_
                  refine r_iload E (j := 6) dX7_inRow_161 rfl ?_
                  exact r_iret E dX7_inRow_163
                · have h := ift c36 h
                  obtain ⟨a43, e44, h⟩ := nn h
                  obtain ⟨g45, h⟩ := ck h
                  obtain ⟨g46, h⟩ := ck h
                  refine r_aload_n E (x := some h0) (i := 0) (j := 2) dX7_inRow_134 rfl rfl ?_
                  refine gf_X7_24 E (x := gp σ 805 h0) dX7_inRow_135 rfl g1 rfl ?_
                  refine r_iload E (j := 6) dX7_inRow_138 rfl ?_
                  refine r_iald E dX7_inRow_140 e44 g45 g46 ?_
                  refine r_iconst E dX7_inRow_141 (v := 3) (by decide) ?_
                  refine r_icmp_eq E (tgt := 152) dX7_inRow_142 (by decide) (fun c47 => ?_) (fun c47 => ?_)
                  · have h := ift c47 h
                    obtain ⟨a48, e49, h⟩ := nn h
                    obtain ⟨g50, h⟩ := ck h
                    obtain ⟨g51, h⟩ := ck h
                    obtain ⟨s52, e53, h⟩ := nbn h
                    obtain ⟨rfl, rfl⟩ := lf2 h
                    refine r_aload_n E (x := some h0) (i := 0) (j := 2) dX7_inRow_152 rfl rfl ?_
                    refine gf_X7_36 E (x := gp σ 810 h0) dX7_inRow_153 rfl g1 rfl ?_
                    refine r_iload E (j := 1) dX7_inRow_156 rfl ?_
                    refine r_iload E (j := 6) dX7_inRow_158 rfl ?_
                    refine r_iast E dX7_inRow_160 e49 g50 g51 ?_
                    refine r_nm e53 ?_
                    refine r_iload E (j := 6) dX7_inRow_161 rfl ?_
                    exact r_iret E dX7_inRow_163
                  · have h := iff' c47 h
                    obtain ⟨r56, s55, hc54, h⟩ := nb2 h
                    obtain ⟨rfl, rfl⟩ := lf2 h
                    refine r_aload_n E (x := some h0) (i := 0) (j := 2) dX7_inRow_145 rfl rfl ?_
                    refine r_iconst E dX7_inRow_146 (v := 4) (by decide) ?_
                    refine r_iload_n E (i := 1) (j := 3) dX7_inRow_147 rfl rfl ?_
                    refine cl_X7_88 E (m_X7_fail hc54) dX7_inRow_148 ⟨Nat.le_of_ble_eq_true rfl, Nat.le_of_ble_eq_true rfl⟩ ⟨by first | decide | omega | (dsimp only; omega), by first | decide | omega | (dsimp only; omega)⟩ (by decide) rfl g1 ?_
                    exact r_iret E dX7_inRow_151
              · have h := ift c34 h
                refine r_iload E (j := 0) dX7_inRow_119 rfl ?_
                refine r_if_eq E (tgt := 145) dX7_inRow_121 (by decide) (fun c57 => ?_) (fun c57 => ?_)
                · have h := ift c57 h
                  obtain ⟨r60, s59, hc58, h⟩ := nb2 h
                  obtain ⟨rfl, rfl⟩ := lf2 h
                  refine r_aload_n E (x := some h0) (i := 0) (j := 2) dX7_inRow_145 rfl rfl ?_
                  refine r_iconst E dX7_inRow_146 (v := 4) (by decide) ?_
                  refine r_iload_n E (i := 1) (j := 3) dX7_inRow_147 rfl rfl ?_
                  refine cl_X7_88 E (m_X7_fail hc58) dX7_inRow_148 ⟨Nat.le_of_ble_eq_true rfl, Nat.le_of_ble_eq_true rfl⟩ ⟨by first | decide | omega | (dsimp only; omega), by first | decide | omega | (dsimp only; omega)⟩ (by decide) rfl g1 ?_
                  exact r_iret E dX7_inRow_151
                · have h := iff' c57 h
                  obtain ⟨g61, h⟩ := ck h
                  refine r_aload_n E (x := some h0) (i := 0) (j := 2) dX7_inRow_124 rfl rfl ?_
                  refine gf_X7_30 E (x := gp σ 807 h0) dX7_inRow_125 rfl g1 rfl ?_
                  refine r_iload_n E (i := 2) (j := 4) dX7_inRow_128 rfl rfl ?_
                  refine r_iald E dX7_inRow_129 e31 g32 g61 ?_
                  refine r_iconst E dX7_inRow_130 (v := 2) (by decide) ?_
                  refine r_icmp_ne E (tgt := 152) dX7_inRow_131 (by decide) (fun c62 => ?_) (fun c62 => ?_)
                  · have h := iff' c62 h
                    obtain ⟨a63, e64, h⟩ := nn h
                    obtain ⟨g65, h⟩ := ck h
                    obtain ⟨g66, h⟩ := ck h
                    obtain ⟨s67, e68, h⟩ := nbn h
                    obtain ⟨rfl, rfl⟩ := lf2 h
                    refine r_aload_n E (x := some h0) (i := 0) (j := 2) dX7_inRow_152 rfl rfl ?_
                    refine gf_X7_36 E (x := gp σ 810 h0) dX7_inRow_153 rfl g1 rfl ?_
                    refine r_iload E (j := 1) dX7_inRow_156 rfl ?_
                    refine r_iload E (j := 6) dX7_inRow_158 rfl ?_
                    refine r_iast E dX7_inRow_160 e64 g65 g66 ?_
                    refine r_nm e68 ?_
                    refine r_iload E (j := 6) dX7_inRow_161 rfl ?_
                    exact r_iret E dX7_inRow_163
                  · have h := ift c62 h
                    obtain ⟨a69, e70, h⟩ := nn h
                    obtain ⟨g71, h⟩ := ck h
                    obtain ⟨g72, h⟩ := ck h
                    refine r_aload_n E (x := some h0) (i := 0) (j := 2) dX7_inRow_134 rfl rfl ?_
                    refine gf_X7_24 E (x := gp σ 805 h0) dX7_inRow_135 rfl g1 rfl ?_
                    refine r_iload E (j := 6) dX7_inRow_138 rfl ?_
                    refine r_iald E dX7_inRow_140 e70 g71 g72 ?_
                    refine r_iconst E dX7_inRow_141 (v := 3) (by decide) ?_
                    refine r_icmp_eq E (tgt := 152) dX7_inRow_142 (by decide) (fun c73 => ?_) (fun c73 => ?_)
                    · have h := ift c73 h
                      obtain ⟨a74, e75, h⟩ := nn h
                      obtain ⟨g76, h⟩ := ck h
                      obtain ⟨g77, h⟩ := ck h
                      obtain ⟨s78, e79, h⟩ := nbn h
                      obtain ⟨rfl, rfl⟩ := lf2 h
                      refine r_aload_n E (x := some h0) (i := 0) (j := 2) dX7_inRow_152 rfl rfl ?_
                      refine gf_X7_36 E (x := gp σ 810 h0) dX7_inRow_153 rfl g1 rfl ?_
                      refine r_iload E (j := 1) dX7_inRow_156 rfl ?_
                      refine r_iload E (j := 6) dX7_inRow_158 rfl ?_
                      refine r_iast E dX7_inRow_160 e75 g76 g77 ?_
                      refine r_nm e79 ?_
                      refine r_iload E (j := 6) dX7_inRow_161 rfl ?_
                      exact r_iret E dX7_inRow_163
                    · have h := iff' c73 h
                      obtain ⟨r82, s81, hc80, h⟩ := nb2 h
                      obtain ⟨rfl, rfl⟩ := lf2 h
                      refine r_aload_n E (x := some h0) (i := 0) (j := 2) dX7_inRow_145 rfl rfl ?_
                      refine r_iconst E dX7_inRow_146 (v := 4) (by decide) ?_
                      refine r_iload_n E (i := 1) (j := 3) dX7_inRow_147 rfl rfl ?_
                      refine cl_X7_88 E (m_X7_fail hc80) dX7_inRow_148 ⟨Nat.le_of_ble_eq_true rfl, Nat.le_of_ble_eq_true rfl⟩ ⟨by first | decide | omega | (dsimp only; omega), by first | decide | omega | (dsimp only; omega)⟩ (by decide) rfl g1 ?_
                      exact r_iret E dX7_inRow_151
          · have h := iff' c22 h
            obtain ⟨a83, e84, h⟩ := nn h
            obtain ⟨g85, h⟩ := ck h
            obtain ⟨g86, h⟩ := ck h
            refine r_aload_n E (x := some h0) (i := 0) (j := 1) dX7_inRow_74 rfl rfl ?_
            refine gf_X7_24 E (x := gp σ 805 h0) dX7_inRow_75 rfl g1 rfl ?_
            refine r_iload E (j := 5) dX7_inRow_78 rfl ?_
            refine r_iald E dX7_inRow_80 e84 g85 g86 ?_
            refine r_iconst E dX7_inRow_81 (v := 2) (by decide) ?_
            refine r_icmp_eq E (tgt := 96) dX7_inRow_82 (by decide) (fun c87 => ?_) (fun c87 => ?_)
            · have h := ift c87 h
              refine r_iconst E dX7_inRow_96 (v := 1) (by decide) ?_
              refine r_goto E (tgt := 101) dX7_inRow_97 (by decide) ?_
              refine r_istore E (lv' := [(6, .int ((1 : Int32))), (5, .int ((Int64.toInt32 (aj σ a13 (Int32.toNatClampNeg p2))) + p3)), (0, va_rf (some h0)), (1, .int (p1)), (2, .int (p2)), (3, .int (p3)), (4, .int (p4))]) dX7_inRow_101 (by decide) (by first | rfl | (simp only [List.filter_cons, List.filter_nil, va_rf_cat]; rfl)) ?_
              refine r_iload E (j := 6) dX7_inRow_103 rfl ?_
              refine r_iconst E dX7_inRow_105 (v := -1) (by decide) ?_
              refine r_icmp_eq E (tgt := 152) dX7_inRow_106 (by decide) (fun c88 => ?_) (fun c88 => ?_)
              · have h := ift c88 h
                obtain ⟨a89, e90, h⟩ := nn h
                obtain ⟨g91, h⟩ := ck h
                obtain ⟨g92, h⟩ := ck h
                obtain ⟨s93, e94, h⟩ := nbn h
                obtain ⟨rfl, rfl⟩ := lf2 h
                refine r_aload_n E (x := some h0) (i := 0) (j := 2) dX7_inRow_152 rfl rfl ?_
                refine gf_X7_36 E (x := gp σ 810 h0) dX7_inRow_153 rfl g1 rfl ?_
                refine r_iload E (j := 1) dX7_inRow_156 rfl ?_
                refine r_iload E (j := 6) dX7_inRow_158 rfl ?_
                refine r_iast E dX7_inRow_160 e90 g91 g92 ?_
                refine r_nm e94 ?_
                refine r_iload E (j := 6) dX7_inRow_161 rfl ?_
                exact r_iret E dX7_inRow_163
              · have h := iff' c88 h
                obtain ⟨a95, e96, h⟩ := nn h
                obtain ⟨g97, h⟩ := ck h
                obtain ⟨g98, h⟩ := ck h
                refine r_aload_n E (x := some h0) (i := 0) (j := 2) dX7_inRow_109 rfl rfl ?_
                refine gf_X7_30 E (x := gp σ 807 h0) dX7_inRow_110 rfl g1 rfl ?_
                refine r_iload_n E (i := 2) (j := 4) dX7_inRow_113 rfl rfl ?_
                refine r_iald E dX7_inRow_114 e96 g97 g98 ?_
                refine r_iconst E dX7_inRow_115 (v := 1) (by decide) ?_
                refine r_icmp_ne E (tgt := 124) dX7_inRow_116 (by decide) (fun c99 => ?_) (fun c99 => ?_)
                · have h := iff' c99 h
                  obtain ⟨g100, h⟩ := ck h
                  refine r_aload_n E (x := some h0) (i := 0) (j := 2) dX7_inRow_124 rfl rfl ?_
                  refine gf_X7_30 E (x := gp σ 807 h0) dX7_inRow_125 rfl g1 rfl ?_
                  refine r_iload_n E (i := 2) (j := 4) dX7_inRow_128 rfl rfl ?_
                  refine r_iald E dX7_inRow_129 e96 g97 g100 ?_
                  refine r_iconst E dX7_inRow_130 (v := 2) (by decide) ?_
                  refine r_icmp_ne E (tgt := 152) dX7_inRow_131 (by decide) (fun c101 => ?_) (fun c101 => ?_)
                  · have h := iff' c101 h
                    obtain ⟨a102, e103, h⟩ := nn h
                    obtain ⟨g104, h⟩ := ck h
                    obtain ⟨g105, h⟩ := ck h
                    obtain ⟨s106, e107, h⟩ := nbn h
                    obtain ⟨rfl, rfl⟩ := lf2 h
                    refine r_aload_n E (x := some h0) (i := 0) (j := 2) dX7_inRow_152 rfl rfl ?_
                    refine gf_X7_36 E (x := gp σ 810 h0) dX7_inRow_153 rfl g1 rfl ?_
                    refine r_iload E (j := 1) dX7_inRow_156 rfl ?_
                    refine r_iload E (j := 6) dX7_inRow_158 rfl ?_
                    refine r_iast E dX7_inRow_160 e103 g104 g105 ?_
                    refine r_nm e107 ?_
                    refine r_iload E (j := 6) dX7_inRow_161 rfl ?_
                    exact r_iret E dX7_inRow_163
                  · have h := ift c101 h
                    obtain ⟨g108, h⟩ := ck h
                    refine r_aload_n E (x := some h0) (i := 0) (j := 2) dX7_inRow_134 rfl rfl ?_
                    refine gf_X7_24 E (x := gp σ 805 h0) dX7_inRow_135 rfl g1 rfl ?_
                    refine r_iload E (j := 6) dX7_inRow_138 rfl ?_
                    refine r_iald E dX7_inRow_140 e84 g85 g108 ?_
                    refine r_iconst E dX7_inRow_141 (v := 3) (by decide) ?_
                    refine r_icmp_eq E (tgt := 152) dX7_inRow_142 (by decide) (fun c109 => ?_) (fun c109 => ?_)
                    · have h := ift c109 h
                      obtain ⟨a110, e111, h⟩ := nn h
                      obtain ⟨g112, h⟩ := ck h
                      obtain ⟨g113, h⟩ := ck h
                      obtain ⟨s114, e115, h⟩ := nbn h
                      obtain ⟨rfl, rfl⟩ := lf2 h
                      refine r_aload_n E (x := some h0) (i := 0) (j := 2) dX7_inRow_152 rfl rfl ?_
                      refine gf_X7_36 E (x := gp σ 810 h0) dX7_inRow_153 rfl g1 rfl ?_
                      refine r_iload E (j := 1) dX7_inRow_156 rfl ?_
                      refine r_iload E (j := 6) dX7_inRow_158 rfl ?_
                      refine r_iast E dX7_inRow_160 e111 g112 g113 ?_
                      refine r_nm e115 ?_
                      refine r_iload E (j := 6) dX7_inRow_161 rfl ?_
                      exact r_iret E dX7_inRow_163
                    · have h := iff' c109 h
                      obtain ⟨r118, s117, hc116, h⟩ := nb2 h
                      obtain ⟨rfl, rfl⟩ := lf2 h
                      refine r_aload_n E (x := some h0) (i := 0) (j := 2) dX7_inRow_145 rfl rfl ?_
                      refine r_iconst E dX7_inRow_146 (v := 4) (by decide) ?_
                      refine r_iload_n E (i := 1) (j := 3) dX7_inRow_147 rfl rfl ?_
                      refine cl_X7_88 E (m_X7_fail hc116) dX7_inRow_148 ⟨Nat.le_of_ble_eq_true rfl, Nat.le_of_ble_eq_true rfl⟩ ⟨by first | decide | omega | (dsimp only; omega), by first | decide | omega | (dsimp only; omega)⟩ (by decide) rfl g1 ?_
                      exact r_iret E dX7_inRow_151
                · have h := ift c99 h
                  refine r_iload E (j := 0) dX7_inRow_119 rfl ?_
                  refine r_if_eq E (tgt := 145) dX7_inRow_121 (by decide) (fun c119 => ?_) (fun c119 => ?_)
                  · have h := ift c119 h
                    obtain ⟨r122, s121, hc120, h⟩ := nb2 h
                    obtain ⟨rfl, rfl⟩ := lf2 h
                    refine r_aload_n E (x := some h0) (i := 0) (j := 2) dX7_inRow_145 rfl rfl ?_
                    refine r_iconst E dX7_inRow_146 (v := 4) (by decide) ?_
                    refine r_iload_n E (i := 1) (j := 3) dX7_inRow_147 rfl rfl ?_
                    refine cl_X7_88 E (m_X7_fail hc120) dX7_inRow_148 ⟨Nat.le_of_ble_eq_true rfl, Nat.le_of_ble_eq_true rfl⟩ ⟨by first | decide | omega | (dsimp only; omega), by first | decide | omega | (dsimp only; omega)⟩ (by decide) rfl g1 ?_
                    exact r_iret E dX7_inRow_151
                  · have h := iff' c119 h
                    obtain ⟨g123, h⟩ := ck h
                    refine r_aload_n E (x := some h0) (i := 0) (j := 2) dX7_inRow_124 rfl rfl ?_
                    refine gf_X7_30 E (x := gp σ 807 h0) dX7_inRow_125 rfl g1 rfl ?_
                    refine r_iload_n E (i := 2) (j := 4) dX7_inRow_128 rfl rfl ?_
                    refine r_iald E dX7_inRow_129 e96 g97 g123 ?_
                    refine r_iconst E dX7_inRow_130 (v := 2) (by decide) ?_
                    refine r_icmp_ne E (tgt := 152) dX7_inRow_131 (by decide) (fun c124 => ?_) (fun c124 => ?_)
                    · have h := iff' c124 h
                      obtain ⟨a125, e126, h⟩ := nn h
                      obtain ⟨g127, h⟩ := ck h
                      obtain ⟨g128, h⟩ := ck h
                      obtain ⟨s129, e130, h⟩ := nbn h
                      obtain ⟨rfl, rfl⟩ := lf2 h
                      refine r_aload_n E (x := some h0) (i := 0) (j := 2) dX7_inRow_152 rfl rfl ?_
                      refine gf_X7_36 E (x := gp σ 810 h0) dX7_inRow_153 rfl g1 rfl ?_
                      refine r_iload E (j := 1) dX7_inRow_156 rfl ?_
                      refine r_iload E (j := 6) dX7_inRow_158 rfl ?_
                      refine r_iast E dX7_inRow_160 e126 g127 g128 ?_
                      refine r_nm e130 ?_
                      refine r_iload E (j := 6) dX7_inRow_161 rfl ?_
                      exact r_iret E dX7_inRow_163
                    · have h := ift c124 h
                      obtain ⟨g131, h⟩ := ck h
                      refine r_aload_n E (x := some h0) (i := 0) (j := 2) dX7_inRow_134 rfl rfl ?_
                      refine gf_X7_24 E (x := gp σ 805 h0) dX7_inRow_135 rfl g1 rfl ?_
                      refine r_iload E (j := 6) dX7_inRow_138 rfl ?_
                      refine r_iald E dX7_inRow_140 e84 g85 g131 ?_
                      refine r_iconst E dX7_inRow_141 (v := 3) (by decide) ?_
                      refine r_icmp_eq E (tgt := 152) dX7_inRow_142 (by decide) (fun c132 => ?_) (fun c132 => ?_)
                      · have h := ift c132 h
                        obtain ⟨a133, e134, h⟩ := nn h
                        obtain ⟨g135, h⟩ := ck h
                        obtain ⟨g136, h⟩ := ck h
                        obtain ⟨s137, e138, h⟩ := nbn h
                        obtain ⟨rfl, rfl⟩ := lf2 h
                        refine r_aload_n E (x := some h0) (i := 0) (j := 2) dX7_inRow_152 rfl rfl ?_
                        refine gf_X7_36 E (x := gp σ 810 h0) dX7_inRow_153 rfl g1 rfl ?_
                        refine r_iload E (j := 1) dX7_inRow_156 rfl ?_
                        refine r_iload E (j := 6) dX7_inRow_158 rfl ?_
                        refine r_iast E dX7_inRow_160 e134 g135 g136 ?_
                        refine r_nm e138 ?_
                        refine r_iload E (j := 6) dX7_inRow_161 rfl ?_
                        exact r_iret E dX7_inRow_163
                      · have h := iff' c132 h
                        obtain ⟨r141, s140, hc139, h⟩ := nb2 h
                        obtain ⟨rfl, rfl⟩ := lf2 h
                        refine r_aload_n E (x := some h0) (i := 0) (j := 2) dX7_inRow_145 rfl rfl ?_
                        refine r_iconst E dX7_inRow_146 (v := 4) (by decide) ?_
                        refine r_iload_n E (i := 1) (j := 3) dX7_inRow_147 rfl rfl ?_
                        refine cl_X7_88 E (m_X7_fail hc139) dX7_inRow_148 ⟨Nat.le_of_ble_eq_true rfl, Nat.le_of_ble_eq_true rfl⟩ ⟨by first | decide | omega | (dsimp only; omega), by first | decide | omega | (dsimp only; omega)⟩ (by decide) rfl g1 ?_
                        exact r_iret E dX7_inRow_151
            · have h := iff' c87 h
              obtain ⟨g142, h⟩ := ck h
              refine r_aload_n E (x := some h0) (i := 0) (j := 1) dX7_inRow_85 rfl rfl ?_
              refine gf_X7_24 E (x := gp σ 805 h0) dX7_inRow_86 rfl g1 rfl ?_
              refine r_iload E (j := 5) dX7_inRow_89 rfl ?_
              refine r_iald E dX7_inRow_91 e84 g85 g142 ?_
              refine r_iconst E dX7_inRow_92 (v := 3) (by decide) ?_
              refine r_icmp_ne E (tgt := 100) dX7_inRow_93 (by decide) (fun c143 => ?_) (fun c143 => ?_)
              · have h := iff' c143 h
                refine r_iconst E dX7_inRow_100 (v := 0) (by decide) ?_
                refine r_istore E (lv' := [(6, .int ((0 : Int32))), (5, .int ((Int64.toInt32 (aj σ a13 (Int32.toNatClampNeg p2))) + p3)), (0, va_rf (some h0)), (1, .int (p1)), (2, .int (p2)), (3, .int (p3)), (4, .int (p4))]) dX7_inRow_101 (by decide) (by first | rfl | (simp only [List.filter_cons, List.filter_nil, va_rf_cat]; rfl)) ?_
                refine r_iload E (j := 6) dX7_inRow_103 rfl ?_
                refine r_iconst E dX7_inRow_105 (v := -1) (by decide) ?_
                refine r_icmp_eq E (tgt := 152) dX7_inRow_106 (by decide) (fun c144 => ?_) (fun c144 => ?_)
                · have h := ift c144 h
                  obtain ⟨a145, e146, h⟩ := nn h
                  obtain ⟨g147, h⟩ := ck h
                  obtain ⟨g148, h⟩ := ck h
                  obtain ⟨s149, e150, h⟩ := nbn h
                  obtain ⟨rfl, rfl⟩ := lf2 h
                  refine r_aload_n E (x := some h0) (i := 0) (j := 2) dX7_inRow_152 rfl rfl ?_
                  refine gf_X7_36 E (x := gp σ 810 h0) dX7_inRow_153 rfl g1 rfl ?_
                  refine r_iload E (j := 1) dX7_inRow_156 rfl ?_
                  refine r_iload E (j := 6) dX7_inRow_158 rfl ?_
                  refine r_iast E dX7_inRow_160 e146 g147 g148 ?_
                  refine r_nm e150 ?_
                  refine r_iload E (j := 6) dX7_inRow_161 rfl ?_
                  exact r_iret E dX7_inRow_163
                · have h := iff' c144 h
                  obtain ⟨a151, e152, h⟩ := nn h
                  obtain ⟨g153, h⟩ := ck h
                  obtain ⟨g154, h⟩ := ck h
                  refine r_aload_n E (x := some h0) (i := 0) (j := 2) dX7_inRow_109 rfl rfl ?_
                  refine gf_X7_30 E (x := gp σ 807 h0) dX7_inRow_110 rfl g1 rfl ?_
                  refine r_iload_n E (i := 2) (j := 4) dX7_inRow_113 rfl rfl ?_
                  refine r_iald E dX7_inRow_114 e152 g153 g154 ?_
                  refine r_iconst E dX7_inRow_115 (v := 1) (by decide) ?_
                  refine r_icmp_ne E (tgt := 124) dX7_inRow_116 (by decide) (fun c155 => ?_) (fun c155 => ?_)
                  · have h := iff' c155 h
                    obtain ⟨g156, h⟩ := ck h
                    refine r_aload_n E (x := some h0) (i := 0) (j := 2) dX7_inRow_124 rfl rfl ?_
                    refine gf_X7_30 E (x := gp σ 807 h0) dX7_inRow_125 rfl g1 rfl ?_
                    refine r_iload_n E (i := 2) (j := 4) dX7_inRow_128 rfl rfl ?_
                    refine r_iald E dX7_inRow_129 e152 g153 g156 ?_
                    refine r_iconst E dX7_inRow_130 (v := 2) (by decide) ?_
                    refine r_icmp_ne E (tgt := 152) dX7_inRow_131 (by decide) (fun c157 => ?_) (fun c157 => ?_)
                    · have h := iff' c157 h
                      obtain ⟨a158, e159, h⟩ := nn h
                      obtain ⟨g160, h⟩ := ck h
                      obtain ⟨g161, h⟩ := ck h
                      obtain ⟨s162, e163, h⟩ := nbn h
                      obtain ⟨rfl, rfl⟩ := lf2 h
                      refine r_aload_n E (x := some h0) (i := 0) (j := 2) dX7_inRow_152 rfl rfl ?_
                      refine gf_X7_36 E (x := gp σ 810 h0) dX7_inRow_153 rfl g1 rfl ?_
                      refine r_iload E (j := 1) dX7_inRow_156 rfl ?_
                      refine r_iload E (j := 6) dX7_inRow_158 rfl ?_
                      refine r_iast E dX7_inRow_160 e159 g160 g161 ?_
                      refine r_nm e163 ?_
                      refine r_iload E (j := 6) dX7_inRow_161 rfl ?_
                      exact r_iret E dX7_inRow_163
                    · have h := ift c157 h
                      obtain ⟨g164, h⟩ := ck h
                      refine r_aload_n E (x := some h0) (i := 0) (j := 2) dX7_inRow_134 rfl rfl ?_
                      refine gf_X7_24 E (x := gp σ 805 h0) dX7_inRow_135 rfl g1 rfl ?_
                      refine r_iload E (j := 6) dX7_inRow_138 rfl ?_
                      refine r_iald E dX7_inRow_140 e84 g85 g164 ?_
                      refine r_iconst E dX7_inRow_141 (v := 3) (by decide) ?_
                      refine r_icmp_eq E (tgt := 152) dX7_inRow_142 (by decide) (fun c165 => ?_) (fun c165 => ?_)
                      · have h := ift c165 h
                        obtain ⟨a166, e167, h⟩ := nn h
                        obtain ⟨g168, h⟩ := ck h
                        obtain ⟨g169, h⟩ := ck h
                        obtain ⟨s170, e171, h⟩ := nbn h
                        obtain ⟨rfl, rfl⟩ := lf2 h
                        refine r_aload_n E (x := some h0) (i := 0) (j := 2) dX7_inRow_152 rfl rfl ?_
                        refine gf_X7_36 E (x := gp σ 810 h0) dX7_inRow_153 rfl g1 rfl ?_
                        refine r_iload E (j := 1) dX7_inRow_156 rfl ?_
                        refine r_iload E (j := 6) dX7_inRow_158 rfl ?_
                        refine r_iast E dX7_inRow_160 e167 g168 g169 ?_
                        refine r_nm e171 ?_
                        refine r_iload E (j := 6) dX7_inRow_161 rfl ?_
                        exact r_iret E dX7_inRow_163
                      · have h := iff' c165 h
                        obtain ⟨r174, s173, hc172, h⟩ := nb2 h
                        obtain ⟨rfl, rfl⟩ := lf2 h
                        refine r_aload_n E (x := some h0) (i := 0) (j := 2) dX7_inRow_145 rfl rfl ?_
                        refine r_iconst E dX7_inRow_146 (v := 4) (by decide) ?_
                        refine r_iload_n E (i := 1) (j := 3) dX7_inRow_147 rfl rfl ?_
                        refine cl_X7_88 E (m_X7_fail hc172) dX7_inRow_148 ⟨Nat.le_of_ble_eq_true rfl, Nat.le_of_ble_eq_true rfl⟩ ⟨by first | decide | omega | (dsimp only; omega), by first | decide | omega | (dsimp only; omega)⟩ (by decide) rfl g1 ?_
                        exact r_iret E dX7_inRow_151
                  · have h := ift c155 h
                    refine r_iload E (j := 0) dX7_inRow_119 rfl ?_
                    refine r_if_eq E (tgt := 145) dX7_inRow_121 (by decide) (fun c175 => ?_) (fun c175 => ?_)
                    · have h := ift c175 h
                      obtain ⟨r178, s177, hc176, h⟩ := nb2 h
                      obtain ⟨rfl, rfl⟩ := lf2 h
                      refine r_aload_n E (x := some h0) (i := 0) (j := 2) dX7_inRow_145 rfl rfl ?_
                      refine r_iconst E dX7_inRow_146 (v := 4) (by decide) ?_
                      refine r_iload_n E (i := 1) (j := 3) dX7_inRow_147 rfl rfl ?_
                      refine cl_X7_88 E (m_X7_fail hc176) dX7_inRow_148 ⟨Nat.le_of_ble_eq_true rfl, Nat.le_of_ble_eq_true rfl⟩ ⟨by first | decide | omega | (dsimp only; omega), by first | decide | omega | (dsimp only; omega)⟩ (by decide) rfl g1 ?_
                      exact r_iret E dX7_inRow_151
                    · have h := iff' c175 h
                      obtain ⟨g179, h⟩ := ck h
                      refine r_aload_n E (x := some h0) (i := 0) (j := 2) dX7_inRow_124 rfl rfl ?_
                      refine gf_X7_30 E (x := gp σ 807 h0) dX7_inRow_125 rfl g1 rfl ?_
                      refine r_iload_n E (i := 2) (j := 4) dX7_inRow_128 rfl rfl ?_
                      refine r_iald E dX7_inRow_129 e152 g153 g179 ?_
                      refine r_iconst E dX7_inRow_130 (v := 2) (by decide) ?_
                      refine r_icmp_ne E (tgt := 152) dX7_inRow_131 (by decide) (fun c180 => ?_) (fun c180 => ?_)
                      · have h := iff' c180 h
                        obtain ⟨a181, e182, h⟩ := nn h
                        obtain ⟨g183, h⟩ := ck h
                        obtain ⟨g184, h⟩ := ck h
                        obtain ⟨s185, e186, h⟩ := nbn h
                        obtain ⟨rfl, rfl⟩ := lf2 h
                        refine r_aload_n E (x := some h0) (i := 0) (j := 2) dX7_inRow_152 rfl rfl ?_
                        refine gf_X7_36 E (x := gp σ 810 h0) dX7_inRow_153 rfl g1 rfl ?_
                        refine r_iload E (j := 1) dX7_inRow_156 rfl ?_
                        refine r_iload E (j := 6) dX7_inRow_158 rfl ?_
                        refine r_iast E dX7_inRow_160 e182 g183 g184 ?_
                        refine r_nm e186 ?_
                        refine r_iload E (j := 6) dX7_inRow_161 rfl ?_
                        exact r_iret E dX7_inRow_163
                      · have h := ift c180 h
                        obtain ⟨g187, h⟩ := ck h
                        refine r_aload_n E (x := some h0) (i := 0) (j := 2) dX7_inRow_134 rfl rfl ?_
                        refine gf_X7_24 E (x := gp σ 805 h0) dX7_inRow_135 rfl g1 rfl ?_
                        refine r_iload E (j := 6) dX7_inRow_138 rfl ?_
                        refine r_iald E dX7_inRow_140 e84 g85 g187 ?_
                        refine r_iconst E dX7_inRow_141 (v := 3) (by decide) ?_
                        refine r_icmp_eq E (tgt := 152) dX7_inRow_142 (by decide) (fun c188 => ?_) (fun c188 => ?_)
                        · have h := ift c188 h
                          obtain ⟨a189, e190, h⟩ := nn h
                          obtain ⟨g191, h⟩ := ck h
                          obtain ⟨g192, h⟩ := ck h
                          obtain ⟨s193, e194, h⟩ := nbn h
                          obtain ⟨rfl, rfl⟩ := lf2 h
                          refine r_aload_n E (x := some h0) (i := 0) (j := 2) dX7_inRow_152 rfl rfl ?_
                          refine gf_X7_36 E (x := gp σ 810 h0) dX7_inRow_153 rfl g1 rfl ?_
                          refine r_iload E (j := 1) dX7_inRow_156 rfl ?_
                          refine r_iload E (j := 6) dX7_inRow_158 rfl ?_
                          refine r_iast E dX7_inRow_160 e190 g191 g192 ?_
                          refine r_nm e194 ?_
                          refine r_iload E (j := 6) dX7_inRow_161 rfl ?_
                          exact r_iret E dX7_inRow_163
                        · have h := iff' c188 h
                          obtain ⟨r197, s196, hc195, h⟩ := nb2 h
                          obtain ⟨rfl, rfl⟩ := lf2 h
                          refine r_aload_n E (x := some h0) (i := 0) (j := 2) dX7_inRow_145 rfl rfl ?_
                          refine r_iconst E dX7_inRow_146 (v := 4) (by decide) ?_
                          refine r_iload_n E (i := 1) (j := 3) dX7_inRow_147 rfl rfl ?_
                          refine cl_X7_88 E (m_X7_fail hc195) dX7_inRow_148 ⟨Nat.le_of_ble_eq_true rfl, Nat.le_of_ble_eq_true rfl⟩ ⟨by first | decide | omega | (dsimp only; omega), by first | decide | omega | (dsimp only; omega)⟩ (by decide) rfl g1 ?_
                          exact r_iret E dX7_inRow_151
              · have h := ift c143 h
                refine r_iconst E dX7_inRow_96 (v := 1) (by decide) ?_
                refine r_goto E (tgt := 101) dX7_inRow_97 (by decide) ?_
                refine r_istore E (lv' := [(6, .int ((1 : Int32))), (5, .int ((Int64.toInt32 (aj σ a13 (Int32.toNatClampNeg p2))) + p3)), (0, va_rf (some h0)), (1, .int (p1)), (2, .int (p2)), (3, .int (p3)), (4, .int (p4))]) dX7_inRow_101 (by decide) (by first | rfl | (simp only [List.filter_cons, List.filter_nil, va_rf_cat]; rfl)) ?_
                refine r_iload E (j := 6) dX7_inRow_103 rfl ?_
                refine r_iconst E dX7_inRow_105 (v := -1) (by decide) ?_
                refine r_icmp_eq E (tgt := 152) dX7_inRow_106 (by decide) (fun c198 => ?_) (fun c198 => ?_)
                · have h := ift c198 h
                  obtain ⟨a199, e200, h⟩ := nn h
                  obtain ⟨g201, h⟩ := ck h
                  obtain ⟨g202, h⟩ := ck h
                  obtain ⟨s203, e204, h⟩ := nbn h
                  obtain ⟨rfl, rfl⟩ := lf2 h
                  refine r_aload_n E (x := some h0) (i := 0) (j := 2) dX7_inRow_152 rfl rfl ?_
                  refine gf_X7_36 E (x := gp σ 810 h0) dX7_inRow_153 rfl g1 rfl ?_
                  refine r_iload E (j := 1) dX7_inRow_156 rfl ?_
                  refine r_iload E (j := 6) dX7_inRow_158 rfl ?_
                  refine r_iast E dX7_inRow_160 e200 g201 g202 ?_
                  refine r_nm e204 ?_
                  refine r_iload E (j := 6) dX7_inRow_161 rfl ?_
                  exact r_iret E dX7_inRow_163
                · have h := iff' c198 h
                  obtain ⟨a205, e206, h⟩ := nn h
                  obtain ⟨g207, h⟩ := ck h
                  obtain ⟨g208, h⟩ := ck h
                  refine r_aload_n E (x := some h0) (i := 0) (j := 2) dX7_inRow_109 rfl rfl ?_
                  refine gf_X7_30 E (x := gp σ 807 h0) dX7_inRow_110 rfl g1 rfl ?_
                  refine r_iload_n E (i := 2) (j := 4) dX7_inRow_113 rfl rfl ?_
                  refine r_iald E dX7_inRow_114 e206 g207 g208 ?_
                  refine r_iconst E dX7_inRow_115 (v := 1) (by decide) ?_
                  refine r_icmp_ne E (tgt := 124) dX7_inRow_116 (by decide) (fun c209 => ?_) (fun c209 => ?_)
                  · have h := iff' c209 h
                    obtain ⟨g210, h⟩ := ck h
                    refine r_aload_n E (x := some h0) (i := 0) (j := 2) dX7_inRow_124 rfl rfl ?_
                    refine gf_X7_30 E (x := gp σ 807 h0) dX7_inRow_125 rfl g1 rfl ?_
                    refine r_iload_n E (i := 2) (j := 4) dX7_inRow_128 rfl rfl ?_
                    refine r_iald E dX7_inRow_129 e206 g207 g210 ?_
                    refine r_iconst E dX7_inRow_130 (v := 2) (by decide) ?_
                    refine r_icmp_ne E (tgt := 152) dX7_inRow_131 (by decide) (fun c211 => ?_) (fun c211 => ?_)
                    · have h := iff' c211 h
                      obtain ⟨a212, e213, h⟩ := nn h
                      obtain ⟨g214, h⟩ := ck h
                      obtain ⟨g215, h⟩ := ck h
                      obtain ⟨s216, e217, h⟩ := nbn h
                      obtain ⟨rfl, rfl⟩ := lf2 h
                      refine r_aload_n E (x := some h0) (i := 0) (j := 2) dX7_inRow_152 rfl rfl ?_
                      refine gf_X7_36 E (x := gp σ 810 h0) dX7_inRow_153 rfl g1 rfl ?_
                      refine r_iload E (j := 1) dX7_inRow_156 rfl ?_
                      refine r_iload E (j := 6) dX7_inRow_158 rfl ?_
                      refine r_iast E dX7_inRow_160 e213 g214 g215 ?_
                      refine r_nm e217 ?_
                      refine r_iload E (j := 6) dX7_inRow_161 rfl ?_
                      exact r_iret E dX7_inRow_163
                    · have h := ift c211 h
                      obtain ⟨g218, h⟩ := ck h
                      refine r_aload_n E (x := some h0) (i := 0) (j := 2) dX7_inRow_134 rfl rfl ?_
                      refine gf_X7_24 E (x := gp σ 805 h0) dX7_inRow_135 rfl g1 rfl ?_
                      refine r_iload E (j := 6) dX7_inRow_138 rfl ?_
                      refine r_iald E dX7_inRow_140 e84 g85 g218 ?_
                      refine r_iconst E dX7_inRow_141 (v := 3) (by decide) ?_
                      refine r_icmp_eq E (tgt := 152) dX7_inRow_142 (by decide) (fun c219 => ?_) (fun c219 => ?_)
                      · have h := ift c219 h
                        obtain ⟨a220, e221, h⟩ := nn h
                        obtain ⟨g222, h⟩ := ck h
                        obtain ⟨g223, h⟩ := ck h
                        obtain ⟨s224, e225, h⟩ := nbn h
                        obtain ⟨rfl, rfl⟩ := lf2 h
                        refine r_aload_n E (x := some h0) (i := 0) (j := 2) dX7_inRow_152 rfl rfl ?_
                        refine gf_X7_36 E (x := gp σ 810 h0) dX7_inRow_153 rfl g1 rfl ?_
                        refine r_iload E (j := 1) dX7_inRow_156 rfl ?_
                        refine r_iload E (j := 6) dX7_inRow_158 rfl ?_
                        refine r_iast E dX7_inRow_160 e221 g222 g223 ?_
                        refine r_nm e225 ?_
                        refine r_iload E (j := 6) dX7_inRow_161 rfl ?_
                        exact r_iret E dX7_inRow_163
                      · have h := iff' c219 h
                        obtain ⟨r228, s227, hc226, h⟩ := nb2 h
                        obtain ⟨rfl, rfl⟩ := lf2 h
                        refine r_aload_n E (x := some h0) (i := 0) (j := 2) dX7_inRow_145 rfl rfl ?_
                        refine r_iconst E dX7_inRow_146 (v := 4) (by decide) ?_
                        refine r_iload_n E (i := 1) (j := 3) dX7_inRow_147 rfl rfl ?_
                        refine cl_X7_88 E (m_X7_fail hc226) dX7_inRow_148 ⟨Nat.le_of_ble_eq_true rfl, Nat.le_of_ble_eq_true rfl⟩ ⟨by first | decide | omega | (dsimp only; omega), by first | decide | omega | (dsimp only; omega)⟩ (by decide) rfl g1 ?_
                        exact r_iret E dX7_inRow_151
                  · have h := ift c209 h
                    refine r_iload E (j := 0) dX7_inRow_119 rfl ?_
                    refine r_if_eq E (tgt := 145) dX7_inRow_121 (by decide) (fun c229 => ?_) (fun c229 => ?_)
                    · have h := ift c229 h
                      obtain ⟨r232, s231, hc230, h⟩ := nb2 h
                      obtain ⟨rfl, rfl⟩ := lf2 h
                      refine r_aload_n E (x := some h0) (i := 0) (j := 2) dX7_inRow_145 rfl rfl ?_
                      refine r_iconst E dX7_inRow_146 (v := 4) (by decide) ?_
                      refine r_iload_n E (i := 1) (j := 3) dX7_inRow_147 rfl rfl ?_
                      refine cl_X7_88 E (m_X7_fail hc230) dX7_inRow_148 ⟨Nat.le_of_ble_eq_true rfl, Nat.le_of_ble_eq_true rfl⟩ ⟨by first | decide | omega | (dsimp only; omega), by first | decide | omega | (dsimp only; omega)⟩ (by decide) rfl g1 ?_
                      exact r_iret E dX7_inRow_151
                    · have h := iff' c229 h
                      obtain ⟨g233, h⟩ := ck h
                      refine r_aload_n E (x := some h0) (i := 0) (j := 2) dX7_inRow_124 rfl rfl ?_
                      refine gf_X7_30 E (x := gp σ 807 h0) dX7_inRow_125 rfl g1 rfl ?_
                      refine r_iload_n E (i := 2) (j := 4) dX7_inRow_128 rfl rfl ?_
                      refine r_iald E dX7_inRow_129 e206 g207 g233 ?_
                      refine r_iconst E dX7_inRow_130 (v := 2) (by decide) ?_
                      refine r_icmp_ne E (tgt := 152) dX7_inRow_131 (by decide) (fun c234 => ?_) (fun c234 => ?_)
                      · have h := iff' c234 h
                        obtain ⟨a235, e236, h⟩ := nn h
                        obtain ⟨g237, h⟩ := ck h
                        obtain ⟨g238, h⟩ := ck h
                        obtain ⟨s239, e240, h⟩ := nbn h
                        obtain ⟨rfl, rfl⟩ := lf2 h
                        refine r_aload_n E (x := some h0) (i := 0) (j := 2) dX7_inRow_152 rfl rfl ?_
                        refine gf_X7_36 E (x := gp σ 810 h0) dX7_inRow_153 rfl g1 rfl ?_
                        refine r_iload E (j := 1) dX7_inRow_156 rfl ?_
                        refine r_iload E (j := 6) dX7_inRow_158 rfl ?_
                        refine r_iast E dX7_inRow_160 e236 g237 g238 ?_
                        refine r_nm e240 ?_
                        refine r_iload E (j := 6) dX7_inRow_161 rfl ?_
                        exact r_iret E dX7_inRow_163
                      · have h := ift c234 h
                        obtain ⟨g241, h⟩ := ck h
                        refine r_aload_n E (x := some h0) (i := 0) (j := 2) dX7_inRow_134 rfl rfl ?_
                        refine gf_X7_24 E (x := gp σ 805 h0) dX7_inRow_135 rfl g1 rfl ?_
                        refine r_iload E (j := 6) dX7_inRow_138 rfl ?_
                        refine r_iald E dX7_inRow_140 e84 g85 g241 ?_
                        refine r_iconst E dX7_inRow_141 (v := 3) (by decide) ?_
                        refine r_icmp_eq E (tgt := 152) dX7_inRow_142 (by decide) (fun c242 => ?_) (fun c242 => ?_)
                        · have h := ift c242 h
                          obtain ⟨a243, e244, h⟩ := nn h
                          obtain ⟨g245, h⟩ := ck h
                          obtain ⟨g246, h⟩ := ck h
                          obtain ⟨s247, e248, h⟩ := nbn h
                          obtain ⟨rfl, rfl⟩ := lf2 h
                          refine r_aload_n E (x := some h0) (i := 0) (j := 2) dX7_inRow_152 rfl rfl ?_
                          refine gf_X7_36 E (x := gp σ 810 h0) dX7_inRow_153 rfl g1 rfl ?_
                          refine r_iload E (j := 1) dX7_inRow_156 rfl ?_
                          refine r_iload E (j := 6) dX7_inRow_158 rfl ?_
                          refine r_iast E dX7_inRow_160 e244 g245 g246 ?_
                          refine r_nm e248 ?_
                          refine r_iload E (j := 6) dX7_inRow_161 rfl ?_
                          exact r_iret E dX7_inRow_163
                        · have h := iff' c242 h
                          obtain ⟨r251, s250, hc249, h⟩ := nb2 h
                          obtain ⟨rfl, rfl⟩ := lf2 h
                          refine r_aload_n E (x := some h0) (i := 0) (j := 2) dX7_inRow_145 rfl rfl ?_
                          refine r_iconst E dX7_inRow_146 (v := 4) (by decide) ?_
                          refine r_iload_n E (i := 1) (j := 3) dX7_inRow_147 rfl rfl ?_
                          refine cl_X7_88 E (m_X7_fail hc249) dX7_inRow_148 ⟨Nat.le_of_ble_eq_true rfl, Nat.le_of_ble_eq_true rfl⟩ ⟨by first | decide | omega | (dsimp only; omega), by first | decide | omega | (dsimp only; omega)⟩ (by decide) rfl g1 ?_
                          exact r_iret E dX7_inRow_151
        · have h := ift c21 h
          obtain ⟨a252, e253, h⟩ := nn h
          obtain ⟨g254, h⟩ := ck h
          obtain ⟨g255, h⟩ := ck h
          obtain ⟨rfl, rfl⟩ := lf2 h
          refine r_aload_n E (x := some h0) (i := 0) (j := 1) dX7_inRow_60 rfl rfl ?_
          refine gf_X7_36 E (x := gp σ 810 h0) dX7_inRow_61 rfl g1 rfl ?_
          refine r_iload E (j := 0) dX7_inRow_64 rfl ?_
          refine r_iald E dX7_inRow_66 e253 g254 g255 ?_
          exact r_iret E dX7_inRow_67
      · have h := iff' c12 h
        obtain ⟨r258, s257, hc256, h⟩ := nb2 h
        obtain ⟨rfl, rfl⟩ := lf2 h
        refine r_aload_n E (x := some h0) (i := 0) (j := 0) dX7_inRow_31 rfl rfl ?_
        refine r_iconst E dX7_inRow_32 (v := 2) (by decide) ?_
        refine r_iload_n E (i := 1) (j := 1) dX7_inRow_33 rfl rfl ?_
        refine cl_X7_88 E (m_X7_fail hc256) dX7_inRow_34 ⟨Nat.le_of_ble_eq_true rfl, Nat.le_of_ble_eq_true rfl⟩ ⟨by first | decide | omega | (dsimp only; omega), by first | decide | omega | (dsimp only; omega)⟩ (by decide) rfl g1 ?_
        exact r_iret E dX7_inRow_37
  · have h := ift c6 h
    obtain ⟨r261, s260, hc259, h⟩ := nb2 h
    obtain ⟨rfl, rfl⟩ := lf2 h
    refine r_aload_n E (x := some h0) (i := 0) (j := 0) dX7_inRow_10 rfl rfl ?_
    refine r_iconst E dX7_inRow_11 (v := 1) (by decide) ?_
    refine r_iload_n E (i := 1) (j := 1) dX7_inRow_12 rfl rfl ?_
    refine cl_X7_88 E (m_X7_fail hc259) dX7_inRow_13 ⟨Nat.le_of_ble_eq_true rfl, Nat.le_of_ble_eq_true rfl⟩ ⟨by first | decide | omega | (dsimp only; omega), by first | decide | omega | (dsimp only; omega)⟩ (by decide) rfl g1 ?_
    exact r_iret E dX7_inRow_16
