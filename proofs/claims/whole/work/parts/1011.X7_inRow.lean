def ex_X7_inRow (d : Dp) (σ : Sg) (h0 : Nat) (p1 : Int32) (p2 : Int32) (p3 : Int32) (p4 : Int32) : Option (Int32 × Sg) := (if gc σ h0 = 9 then (Option.bind (gp σ 806 h0) fun a2 => (if gc σ a2 = 10 then (if ¬ (p2 < 0 ∨ gl σ a2 ≤ Int32.toNatClampNeg p2) then (if (ai σ a2 (Int32.toNatClampNeg p2)) = (-1 : Int32) then (b2 (ex_X7_fail d σ h0 (1 : Int32) p1) fun r221 s220 => some (r221, s220)) else (if p3 < (0 : Int32) then (b2 (ex_X7_fail d σ h0 (2 : Int32) p1) fun r10 s9 => some (r10, s9)) else (if ¬ (p2 < 0 ∨ gl σ a2 ≤ Int32.toNatClampNeg p2) then (if p3 < (ai σ a2 (Int32.toNatClampNeg p2)) then (Option.bind (gp σ 808 h0) fun a13 => (if gc σ a13 = 11 then (if ¬ (p2 < 0 ∨ gl σ a13 ≤ Int32.toNatClampNeg p2) then (Option.bind (gp σ 801 h0) fun a17 => (if gc σ a17 = 10 then (if ¬ (p1 < 0 ∨ gl σ a17 ≤ Int32.toNatClampNeg p1) then (if (ai σ a17 (Int32.toNatClampNeg p1)) = (13 : Int32) then (Option.bind (gp σ 810 h0) fun a212 => (if gc σ a212 = 10 then (if ¬ (((Int64.toInt32 (aj σ a13 (Int32.toNatClampNeg p2))) + p3) < 0 ∨ gl σ a212 ≤ Int32.toNatClampNeg ((Int64.toInt32 (aj σ a13 (Int32.toNatClampNeg p2))) + p3)) then some (ai σ a212 (Int32.toNatClampNeg ((Int64.toInt32 (aj σ a13 (Int32.toNatClampNeg p2))) + p3)), σ) else none) else none)) else (if p4 = (-1 : Int32) then (if p4 = (-1 : Int32) then (Option.bind (gp σ 810 h0) fun a24 => (if gc σ a24 = 10 then (if ¬ (((Int64.toInt32 (aj σ a13 (Int32.toNatClampNeg p2))) + p3) < 0 ∨ gl σ a24 ≤ Int32.toNatClampNeg ((Int64.toInt32 (aj σ a13 (Int32.toNatClampNeg p2))) + p3)) then some (p4, (wi σ a24 (Int32.toNatClampNeg ((Int64.toInt32 (aj σ a13 (Int32.toNatClampNeg p2))) + p3)) p4)) else none) else none)) else (Option.bind (gp σ 807 h0) fun a28 => (if gc σ a28 = 10 then (if ¬ (p2 < 0 ∨ gl σ a28 ≤ Int32.toNatClampNeg p2) then (if (ai σ a28 (Int32.toNatClampNeg p2)) = (1 : Int32) then (if (0 : Int32) = (0 : Int32) then (b2 (ex_X7_fail d σ h0 (4 : Int32) p1) fun r54 s53 => some (r54, s53)) else (if ¬ (p2 < 0 ∨ gl σ a28 ≤ Int32.toNatClampNeg p2) then (if (ai σ a28 (Int32.toNatClampNeg p2)) = (2 : Int32) then (Option.bind (gp σ 805 h0) fun a61 => (if gc σ a61 = 10 then (if ¬ (p4 < 0 ∨ gl σ a61 ≤ Int32.toNatClampNeg p4) then (if (ai σ a61 (Int32.toNatClampNeg p4)) = (3 : Int32) then (Option.bind (gp σ 810 h0) fun a66 => (if gc σ a66 = 10 then (if ¬ (((Int64.toInt32 (aj σ a13 (Int32.toNatClampNeg p2))) + p3) < 0 ∨ gl σ a66 ≤ Int32.toNatClampNeg ((Int64.toInt32 (aj σ a13 (Int32.toNatClampNeg p2))) + p3)) then some (p4, (wi σ a66 (Int32.toNatClampNeg ((Int64.toInt32 (aj σ a13 (Int32.toNatClampNeg p2))) + p3)) p4)) else none) else none)) else (b2 (ex_X7_fail d σ h0 (4 : Int32) p1) fun r72 s71 => some (r72, s71))) else none) else none)) else (Option.bind (gp σ 810 h0) fun a57 => (if gc σ a57 = 10 then (if ¬ (((Int64.toInt32 (aj σ a13 (Int32.toNatClampNeg p2))) + p3) < 0 ∨ gl σ a57 ≤ Int32.toNatClampNeg ((Int64.toInt32 (aj σ a13 (Int32.toNatClampNeg p2))) + p3)) then some (p4, (wi σ a57 (Int32.toNatClampNeg ((Int64.toInt32 (aj σ a13 (Int32.toNatClampNeg p2))) + p3)) p4)) else none) else none))) else none)) else (if ¬ (p2 < 0 ∨ gl σ a28 ≤ Int32.toNatClampNeg p2) then (if (ai σ a28 (Int32.toNatClampNeg p2)) = (2 : Int32) then (Option.bind (gp σ 805 h0) fun a39 => (if gc σ a39 = 10 then (if ¬ (p4 < 0 ∨ gl σ a39 ≤ Int32.toNatClampNeg p4) then (if (ai σ a39 (Int32.toNatClampNeg p4)) = (3 : Int32) then (Option.bind (gp σ 810 h0) fun a44 => (if gc σ a44 = 10 then (if ¬ (((Int64.toInt32 (aj σ a13 (Int32.toNatClampNeg p2))) + p3) < 0 ∨ gl σ a44 ≤ Int32.toNatClampNeg ((Int64.toInt32 (aj σ a13 (Int32.toNatClampNeg p2))) + p3)) then some (p4, (wi σ a44 (Int32.toNatClampNeg ((Int64.toInt32 (aj σ a13 (Int32.toNatClampNeg p2))) + p3)) p4)) else none) else none)) else (b2 (ex_X7_fail d σ h0 (4 : Int32) p1) fun r50 s49 => some (r50, s49))) else none) else none)) else (Option.bind (gp σ 810 h0) fun a35 => (if gc σ a35 = 10 then (if ¬ (((Int64.toInt32 (aj σ a13 (Int32.toNatClampNeg p2))) + p3) < 0 ∨ gl σ a35 ≤ Int32.toNatClampNeg ((Int64.toInt32 (aj σ a13 (Int32.toNatClampNeg p2))) + p3)) then some (p4, (wi σ a35 (Int32.toNatClampNeg ((Int64.toInt32 (aj σ a13 (Int32.toNatClampNeg p2))) + p3)) p4)) else none) else none))) else none)) else none) else none))) else (Option.bind (gp σ 805 h0) fun a73 => (if gc σ a73 = 10 then (if ¬ (p4 < 0 ∨ gl σ a73 ≤ Int32.toNatClampNeg p4) then (if (ai σ a73 (Int32.toNatClampNeg p4)) = (2 : Int32) then (if p4 = (-1 : Int32) then (Option.bind (gp σ 810 h0) fun a79 => (if gc σ a79 = 10 then (if ¬ (((Int64.toInt32 (aj σ a13 (Int32.toNatClampNeg p2))) + p3) < 0 ∨ gl σ a79 ≤ Int32.toNatClampNeg ((Int64.toInt32 (aj σ a13 (Int32.toNatClampNeg p2))) + p3)) then some (p4, (wi σ a79 (Int32.toNatClampNeg ((Int64.toInt32 (aj σ a13 (Int32.toNatClampNeg p2))) + p3)) p4)) else none) else none)) else (Option.bind (gp σ 807 h0) fun a83 => (if gc σ a83 = 10 then (if ¬ (p2 < 0 ∨ gl σ a83 ≤ Int32.toNatClampNeg p2) then (if (ai σ a83 (Int32.toNatClampNeg p2)) = (1 : Int32) then (if (1 : Int32) = (0 : Int32) then (b2 (ex_X7_fail d σ h0 (4 : Int32) p1) fun r106 s105 => some (r106, s105)) else (if ¬ (p2 < 0 ∨ gl σ a83 ≤ Int32.toNatClampNeg p2) then (if (ai σ a83 (Int32.toNatClampNeg p2)) = (2 : Int32) then (if ¬ (p4 < 0 ∨ gl σ a73 ≤ Int32.toNatClampNeg p4) then (if (ai σ a73 (Int32.toNatClampNeg p4)) = (3 : Int32) then (Option.bind (gp σ 810 h0) fun a115 => (if gc σ a115 = 10 then (if ¬ (((Int64.toInt32 (aj σ a13 (Int32.toNatClampNeg p2))) + p3) < 0 ∨ gl σ a115 ≤ Int32.toNatClampNeg ((Int64.toInt32 (aj σ a13 (Int32.toNatClampNeg p2))) + p3)) then some (p4, (wi σ a115 (Int32.toNatClampNeg ((Int64.toInt32 (aj σ a13 (Int32.toNatClampNeg p2))) + p3)) p4)) else none) else none)) else (b2 (ex_X7_fail d σ h0 (4 : Int32) p1) fun r121 s120 => some (r121, s120))) else none) else (Option.bind (gp σ 810 h0) fun a109 => (if gc σ a109 = 10 then (if ¬ (((Int64.toInt32 (aj σ a13 (Int32.toNatClampNeg p2))) + p3) < 0 ∨ gl σ a109 ≤ Int32.toNatClampNeg ((Int64.toInt32 (aj σ a13 (Int32.toNatClampNeg p2))) + p3)) then some (p4, (wi σ a109 (Int32.toNatClampNeg ((Int64.toInt32 (aj σ a13 (Int32.toNatClampNeg p2))) + p3)) p4)) else none) else none))) else none)) else (if ¬ (p2 < 0 ∨ gl σ a83 ≤ Int32.toNatClampNeg p2) then (if (ai σ a83 (Int32.toNatClampNeg p2)) = (2 : Int32) then (if ¬ (p4 < 0 ∨ gl σ a73 ≤ Int32.toNatClampNeg p4) then (if (ai σ a73 (Int32.toNatClampNeg p4)) = (3 : Int32) then (Option.bind (gp σ 810 h0) fun a96 => (if gc σ a96 = 10 then (if ¬ (((Int64.toInt32 (aj σ a13 (Int32.toNatClampNeg p2))) + p3) < 0 ∨ gl σ a96 ≤ Int32.toNatClampNeg ((Int64.toInt32 (aj σ a13 (Int32.toNatClampNeg p2))) + p3)) then some (p4, (wi σ a96 (Int32.toNatClampNeg ((Int64.toInt32 (aj σ a13 (Int32.toNatClampNeg p2))) + p3)) p4)) else none) else none)) else (b2 (ex_X7_fail d σ h0 (4 : Int32) p1) fun r102 s101 => some (r102, s101))) else none) else (Option.bind (gp σ 810 h0) fun a90 => (if gc σ a90 = 10 then (if ¬ (((Int64.toInt32 (aj σ a13 (Int32.toNatClampNeg p2))) + p3) < 0 ∨ gl σ a90 ≤ Int32.toNatClampNeg ((Int64.toInt32 (aj σ a13 (Int32.toNatClampNeg p2))) + p3)) then some (p4, (wi σ a90 (Int32.toNatClampNeg ((Int64.toInt32 (aj σ a13 (Int32.toNatClampNeg p2))) + p3)) p4)) else none) else none))) else none)) else none) else none))) else (if ¬ (p4 < 0 ∨ gl σ a73 ≤ Int32.toNatClampNeg p4) then (if (ai σ a73 (Int32.toNatClampNeg p4)) = (3 : Int32) then (if p4 = (-1 : Int32) then (Option.bind (gp σ 810 h0) fun a169 => (if gc σ a169 = 10 then (if ¬ (((Int64.toInt32 (aj σ a13 (Int32.toNatClampNeg p2))) + p3) < 0 ∨ gl σ a169 ≤ Int32.toNatClampNeg ((Int64.toInt32 (aj σ a13 (Int32.toNatClampNeg p2))) + p3)) then some (p4, (wi σ a169 (Int32.toNatClampNeg ((Int64.toInt32 (aj σ a13 (Int32.toNatClampNeg p2))) + p3)) p4)) else none) else none)) else (Option.bind (gp σ 807 h0) fun a173 => (if gc σ a173 = 10 then (if ¬ (p2 < 0 ∨ gl σ a173 ≤ Int32.toNatClampNeg p2) then (if (ai σ a173 (Int32.toNatClampNeg p2)) = (1 : Int32) then (if (1 : Int32) = (0 : Int32) then (b2 (ex_X7_fail d σ h0 (4 : Int32) p1) fun r196 s195 => some (r196, s195)) else (if ¬ (p2 < 0 ∨ gl σ a173 ≤ Int32.toNatClampNeg p2) then (if (ai σ a173 (Int32.toNatClampNeg p2)) = (2 : Int32) then (if ¬ (p4 < 0 ∨ gl σ a73 ≤ Int32.toNatClampNeg p4) then (if (ai σ a73 (Int32.toNatClampNeg p4)) = (3 : Int32) then (Option.bind (gp σ 810 h0) fun a205 => (if gc σ a205 = 10 then (if ¬ (((Int64.toInt32 (aj σ a13 (Int32.toNatClampNeg p2))) + p3) < 0 ∨ gl σ a205 ≤ Int32.toNatClampNeg ((Int64.toInt32 (aj σ a13 (Int32.toNatClampNeg p2))) + p3)) then some (p4, (wi σ a205 (Int32.toNatClampNeg ((Int64.toInt32 (aj σ a13 (Int32.toNatClampNeg p2))) + p3)) p4)) else none) else none)) else (b2 (ex_X7_fail d σ h0 (4 : Int32) p1) fun r211 s210 => some (r211, s210))) else none) else (Option.bind (gp σ 810 h0) fun a199 => (if gc σ a199 = 10 then (if ¬ (((Int64.toInt32 (aj σ a13 (Int32.toNatClampNeg p2))) + p3) < 0 ∨ gl σ a199 ≤ Int32.toNatClampNeg ((Int64.toInt32 (aj σ a13 (Int32.toNatClampNeg p2))) + p3)) then some (p4, (wi σ a199 (Int32.toNatClampNeg ((Int64.toInt32 (aj σ a13 (Int32.toNatClampNeg p2))) + p3)) p4)) else none) else none))) else none)) else (if ¬ (p2 < 0 ∨ gl σ a173 ≤ Int32.toNatClampNeg p2) then (if (ai σ a173 (Int32.toNatClampNeg p2)) = (2 : Int32) then (if ¬ (p4 < 0 ∨ gl σ a73 ≤ Int32.toNatClampNeg p4) then (if (ai σ a73 (Int32.toNatClampNeg p4)) = (3 : Int32) then (Option.bind (gp σ 810 h0) fun a186 => (if gc σ a186 = 10 then (if ¬ (((Int64.toInt32 (aj σ a13 (Int32.toNatClampNeg p2))) + p3) < 0 ∨ gl σ a186 ≤ Int32.toNatClampNeg ((Int64.toInt32 (aj σ a13 (Int32.toNatClampNeg p2))) + p3)) then some (p4, (wi σ a186 (Int32.toNatClampNeg ((Int64.toInt32 (aj σ a13 (Int32.toNatClampNeg p2))) + p3)) p4)) else none) else none)) else (b2 (ex_X7_fail d σ h0 (4 : Int32) p1) fun r192 s191 => some (r192, s191))) else none) else (Option.bind (gp σ 810 h0) fun a180 => (if gc σ a180 = 10 then (if ¬ (((Int64.toInt32 (aj σ a13 (Int32.toNatClampNeg p2))) + p3) < 0 ∨ gl σ a180 ≤ Int32.toNatClampNeg ((Int64.toInt32 (aj σ a13 (Int32.toNatClampNeg p2))) + p3)) then some (p4, (wi σ a180 (Int32.toNatClampNeg ((Int64.toInt32 (aj σ a13 (Int32.toNatClampNeg p2))) + p3)) p4)) else none) else none))) else none)) else none) else none))) else (if p4 = (-1 : Int32) then (Option.bind (gp σ 810 h0) fun a125 => (if gc σ a125 = 10 then (if ¬ (((Int64.toInt32 (aj σ a13 (Int32.toNatClampNeg p2))) + p3) < 0 ∨ gl σ a125 ≤ Int32.toNatClampNeg ((Int64.toInt32 (aj σ a13 (Int32.toNatClampNeg p2))) + p3)) then some (p4, (wi σ a125 (Int32.toNatClampNeg ((Int64.toInt32 (aj σ a13 (Int32.toNatClampNeg p2))) + p3)) p4)) else none) else none)) else (Option.bind (gp σ 807 h0) fun a129 => (if gc σ a129 = 10 then (if ¬ (p2 < 0 ∨ gl σ a129 ≤ Int32.toNatClampNeg p2) then (if (ai σ a129 (Int32.toNatClampNeg p2)) = (1 : Int32) then (if (0 : Int32) = (0 : Int32) then (b2 (ex_X7_fail d σ h0 (4 : Int32) p1) fun r152 s151 => some (r152, s151)) else (if ¬ (p2 < 0 ∨ gl σ a129 ≤ Int32.toNatClampNeg p2) then (if (ai σ a129 (Int32.toNatClampNeg p2)) = (2 : Int32) then (if ¬ (p4 < 0 ∨ gl σ a73 ≤ Int32.toNatClampNeg p4) then (if (ai σ a73 (Int32.toNatClampNeg p4)) = (3 : Int32) then (Option.bind (gp σ 810 h0) fun a161 => (if gc σ a161 = 10 then (if ¬ (((Int64.toInt32 (aj σ a13 (Int32.toNatClampNeg p2))) + p3) < 0 ∨ gl σ a161 ≤ Int32.toNatClampNeg ((Int64.toInt32 (aj σ a13 (Int32.toNatClampNeg p2))) + p3)) then some (p4, (wi σ a161 (Int32.toNatClampNeg ((Int64.toInt32 (aj σ a13 (Int32.toNatClampNeg p2))) + p3)) p4)) else none) else none)) else (b2 (ex_X7_fail d σ h0 (4 : Int32) p1) fun r167 s166 => some (r167, s166))) else none) else (Option.bind (gp σ 810 h0) fun a155 => (if gc σ a155 = 10 then (if ¬ (((Int64.toInt32 (aj σ a13 (Int32.toNatClampNeg p2))) + p3) < 0 ∨ gl σ a155 ≤ Int32.toNatClampNeg ((Int64.toInt32 (aj σ a13 (Int32.toNatClampNeg p2))) + p3)) then some (p4, (wi σ a155 (Int32.toNatClampNeg ((Int64.toInt32 (aj σ a13 (Int32.toNatClampNeg p2))) + p3)) p4)) else none) else none))) else none)) else (if ¬ (p2 < 0 ∨ gl σ a129 ≤ Int32.toNatClampNeg p2) then (if (ai σ a129 (Int32.toNatClampNeg p2)) = (2 : Int32) then (if ¬ (p4 < 0 ∨ gl σ a73 ≤ Int32.toNatClampNeg p4) then (if (ai σ a73 (Int32.toNatClampNeg p4)) = (3 : Int32) then (Option.bind (gp σ 810 h0) fun a142 => (if gc σ a142 = 10 then (if ¬ (((Int64.toInt32 (aj σ a13 (Int32.toNatClampNeg p2))) + p3) < 0 ∨ gl σ a142 ≤ Int32.toNatClampNeg ((Int64.toInt32 (aj σ a13 (Int32.toNatClampNeg p2))) + p3)) then some (p4, (wi σ a142 (Int32.toNatClampNeg ((Int64.toInt32 (aj σ a13 (Int32.toNatClampNeg p2))) + p3)) p4)) else none) else none)) else (b2 (ex_X7_fail d σ h0 (4 : Int32) p1) fun r148 s147 => some (r148, s147))) else none) else (Option.bind (gp σ 810 h0) fun a136 => (if gc σ a136 = 10 then (if ¬ (((Int64.toInt32 (aj σ a13 (Int32.toNatClampNeg p2))) + p3) < 0 ∨ gl σ a136 ≤ Int32.toNatClampNeg ((Int64.toInt32 (aj σ a13 (Int32.toNatClampNeg p2))) + p3)) then some (p4, (wi σ a136 (Int32.toNatClampNeg ((Int64.toInt32 (aj σ a13 (Int32.toNatClampNeg p2))) + p3)) p4)) else none) else none))) else none)) else none) else none)))) else none)) else none) else none)))) else none) else none)) else none) else none)) else (b2 (ex_X7_fail d σ h0 (2 : Int32) p1) fun r218 s217 => some (r218, s217))) else none))) else none) else none)) else none)
set_option maxHeartbeats 4000000 in
set_option maxRecDepth 20000 in
theorem m_X7_inRow {l : Launch} {d : Dp} {σ σ' : Sg} {h0 : Nat} {p1 : Int32} {p2 : Int32} {p3 : Int32} {p4 : Int32} {r : Int32} (h : ex_X7_inRow d σ h0 p1 p2 p3 p4 = some (r, σ')) : Mt l d yX7_inRow cX7_inRow 7 (some .int) 1 22 σ [.ref h0, .int (p1), .int (p2), .int (p3), .int (p4)] (some (.int r)) σ' 0 0 := by
  refine mt_start (own := RX7) (lv0 := [(0, va_rf (some h0)), (1, .int (p1)), (2, .int (p2)), (3, .int (p3)), (4, .int (p4))]) (by decide) rfl (by simp only [lg_sl, List.flatMap_cons, List.flatMap_nil, va_rf_cat]; exact Nat.le_of_ble_eq_true rfl) (by first | rfl | (simp only [lv_args, va_rf_cat]; rfl)) ?_
  intro p e s m args below meth c E hnm
  unfold ex_X7_inRow at h
  obtain ⟨g1, h⟩ := ck h
  obtain ⟨a2, e3, h⟩ := nn h
  obtain ⟨g4, h⟩ := ck h
  obtain ⟨g5, h⟩ := ck h
  refine r_aload_n E (x := some h0) (i := 0) (j := 0) dX7_inRow_0 rfl rfl ?_
  refine gf_X7_27 E (x := gp σ 806 h0) dX7_inRow_1 rfl g1 rfl ?_
  refine r_iload_n E (i := 2) (j := 2) dX7_inRow_4 rfl rfl ?_
  refine r_iald E dX7_inRow_5 e3 g4 g5 ?_
  refine r_iconst E dX7_inRow_6 (v := -1) (by decide) ?_
  refine r_icmp_ne E (tgt := 17) dX7_inRow_7 (by decide) (fun c6 => ?_) (fun c6 => ?_)
  · have h := iff' c6 h
    refine r_iload_n E (i := 3) (j := 3) dX7_inRow_17 rfl rfl ?_
    refine r_if_lt E (tgt := 31) dX7_inRow_18 (by decide) (fun c7 => ?_) (fun c7 => ?_)
    · have h := ift c7 h
      obtain ⟨r10, s9, hc8, h⟩ := nb2 h
      obtain ⟨rfl, rfl⟩ := lf2 h
      refine r_aload_n E (x := some h0) (i := 0) (j := 0) dX7_inRow_31 rfl rfl ?_
      refine r_iconst E dX7_inRow_32 (v := 2) (by decide) ?_
      refine r_iload_n E (i := 1) (j := 1) dX7_inRow_33 rfl rfl ?_
      refine cl_X7_88 E (m_X7_fail hc8) dX7_inRow_34 ⟨Nat.le_of_ble_eq_true rfl, Nat.le_of_ble_eq_true rfl⟩ ⟨by first | decide | omega | (dsimp only; omega), by first | decide | omega | (dsimp only; omega)⟩ (by decide) rfl g1 ?_
      exact r_iret E dX7_inRow_37
    · have h := iff' c7 h
      obtain ⟨g11, h⟩ := ck h
      refine r_iload_n E (i := 3) (j := 3) dX7_inRow_21 rfl rfl ?_
      refine r_aload_n E (x := some h0) (i := 0) (j := 0) dX7_inRow_22 rfl rfl ?_
      refine gf_X7_27 E (x := gp σ 806 h0) dX7_inRow_23 rfl g1 rfl ?_
      refine r_iload_n E (i := 2) (j := 2) dX7_inRow_26 rfl rfl ?_
      refine r_iald E dX7_inRow_27 e3 g4 g11 ?_
      refine r_icmp_lt E (tgt := 38) dX7_inRow_28 (by decide) (fun c12 => ?_) (fun c12 => ?_)
      · have h := ift c12 h
        obtain ⟨a13, e14, h⟩ := nn h
        obtain ⟨g15, h⟩ := ck h
        obtain ⟨g16, h⟩ := ck h
        obtain ⟨a17, e18, h⟩ := nn h
        obtain ⟨g19, h⟩ := ck h
        obtain ⟨g20, h⟩ := ck h
        refine r_aload_n E (x := some h0) (i := 0) (j := 0) dX7_inRow_38 rfl rfl ?_
        refine gf_X7_33 E (x := gp σ 808 h0) dX7_inRow_39 rfl g1 rfl ?_
        refine r_iload_n E (i := 2) (j := 2) dX7_inRow_42 rfl rfl ?_
        refine r_lald E dX7_inRow_43 e14 g15 g16 ?_
        refine r_l2i E dX7_inRow_44 ?_
        refine r_iload_n E (i := 3) (j := 3) dX7_inRow_45 rfl rfl ?_
        refine r_iadd E dX7_inRow_46 ?_
        refine r_istore E (lv' := [(5, .int ((Int64.toInt32 (aj σ a13 (Int32.toNatClampNeg p2))) + p3)), (0, va_rf (some h0)), (1, .int (p1)), (2, .int (p2)), (3, .int (p3)), (4, .int (p4))]) dX7_inRow_47 (by decide) (by first | rfl | (simp only [List.filter_cons, List.filter_nil, va_rf_cat]; rfl)) ?_
        refine r_aload_n E (x := some h0) (i := 0) (j := 1) dX7_inRow_49 rfl rfl ?_
        refine gf_X7_13 E (x := gp σ 801 h0) dX7_inRow_50 rfl g1 rfl ?_
        refine r_iload_n E (i := 1) (j := 2) dX7_inRow_53 rfl rfl ?_
        refine r_iald E dX7_inRow_54 e18 g19 g20 ?_
        refine r_bipush E dX7_inRow_55 (v := 13) (by decide) ?_
        refine r_icmp_ne E (tgt := 68) dX7_inRow_57 (by decide) (fun c21 => ?_) (fun c21 => ?_)
        · have h := iff' c21 h
          refine r_iload E (j := 5) dX7_inRow_68 rfl ?_
          refine r_iconst E dX7_inRow_70 (v := -1) (by decide) ?_
          refine r_icmp_eq E (tgt := 100) dX7_inRow_71 (by decide) (fun c22 => ?_) (fun c22 => ?_)
          · have h := ift c22 h
            refine r_iconst E dX7_inRow_100 (v := 0) (by decide) ?_
            refine r_istore E (lv' := [(6, .int ((0 : Int32))), (5, .int ((Int64.toInt32 (aj σ a13 (Int32.toNatClampNeg p2))) + p3)), (0, va_rf (some h0)), (1, .int (p1)), (2, .int (p2)), (3, .int (p3)), (4, .int (p4))]) dX7_inRow_101 (by decide) (by first | rfl | (simp only [List.filter_cons, List.filter_nil, va_rf_cat]; rfl)) ?_
            refine r_iload E (j := 6) dX7_inRow_103 rfl ?_
            refine r_iconst E dX7_inRow_105 (v := -1) (by decide) ?_
            refine r_icmp_eq E (tgt := 152) dX7_inRow_106 (by decide) (fun c23 => ?_) (fun c23 => ?_)
            · have h := ift c23 h
              obtain ⟨a24, e25, h⟩ := nn h
              obtain ⟨g26, h⟩ := ck h
              obtain ⟨g27, h⟩ := ck h
              obtain ⟨rfl, rfl⟩ := lf2 h
              refine r_aload_n E (x := some h0) (i := 0) (j := 2) dX7_inRow_152 rfl rfl ?_
              refine gf_X7_36 E (x := gp σ 810 h0) dX7_inRow_153 rfl g1 rfl ?_
              refine r_iload E (j := 1) dX7_inRow_156 rfl ?_
              refine r_iload E (j := 6) dX7_inRow_158 rfl ?_
              refine r_iast E dX7_inRow_160 e25 g26 g27 ?_
              refine r_iload E (j := 6) dX7_inRow_161 rfl ?_
              exact r_iret E dX7_inRow_163
            · have h := iff' c23 h
              obtain ⟨a28, e29, h⟩ := nn h
              obtain ⟨g30, h⟩ := ck h
              obtain ⟨g31, h⟩ := ck h
              refine r_aload_n E (x := some h0) (i := 0) (j := 2) dX7_inRow_109 rfl rfl ?_
              refine gf_X7_30 E (x := gp σ 807 h0) dX7_inRow_110 rfl g1 rfl ?_
              refine r_iload_n E (i := 2) (j := 4) dX7_inRow_113 rfl rfl ?_
              refine r_iald E dX7_inRow_114 e29 g30 g31 ?_
              refine r_iconst E dX7_inRow_115 (v := 1) (by decide) ?_
              refine r_icmp_ne E (tgt := 124) dX7_inRow_116 (by decide) (fun c32 => ?_) (fun c32 => ?_)
              · have h := iff' c32 h
                obtain ⟨g33, h⟩ := ck h
                refine r_aload_n E (x := some h0) (i := 0) (j := 2) dX7_inRow_124 rfl rfl ?_
                refine gf_X7_30 E (x := gp σ 807 h0) dX7_inRow_125 rfl g1 rfl ?_
                refine r_iload_n E (i := 2) (j := 4) dX7_inRow_128 rfl rfl ?_
                refine r_iald E dX7_inRow_129 e29 g30 g33 ?_
                refine r_iconst E dX7_inRow_130 (v := 2) (by decide) ?_
                refine r_icmp_ne E (tgt := 152) dX7_inRow_131 (by decide) (fun c34 => ?_) (fun c34 => ?_)
                · have h := iff' c34 h
                  obtain ⟨a35, e36, h⟩ := nn h
                  obtain ⟨g37, h⟩ := ck h
                  obtain ⟨g38, h⟩ := ck h
                  obtain ⟨rfl, rfl⟩ := lf2 h
                  refine r_aload_n E (x := some h0) (i := 0) (j := 2) dX7_inRow_152 rfl rfl ?_
                  refine gf_X7_36 E (x := gp σ 810 h0) dX7_inRow_153 rfl g1 rfl ?_
                  refine r_iload E (j := 1) dX7_inRow_156 rfl ?_
                  refine r_iload E (j := 6) dX7_inRow_158 rfl ?_
                  refine r_iast E dX7_inRow_160 e36 g37 g38 ?_
                  refine r_iload E (j := 6) dX7_inRow_161 rfl ?_
                  exact r_iret E dX7_inRow_163
                · have h := ift c34 h
                  obtain ⟨a39, e40, h⟩ := nn h
                  obtain ⟨g41, h⟩ := ck h
                  obtain ⟨g42, h⟩ := ck h
                  refine r_aload_n E (x := some h0) (i := 0) (j := 2) dX7_inRow_134 rfl rfl ?_
                  refine gf_X7_24 E (x := gp σ 805 h0) dX7_inRow_135 rfl g1 rfl ?_
                  refine r_iload E (j := 6) dX7_inRow_138 rfl ?_
                  refine r_iald E dX7_inRow_140 e40 g41 g42 ?_
                  refine r_iconst E dX7_inRow_141 (v := 3) (by decide) ?_
                  refine r_icmp_eq E (tgt := 152) dX7_inRow_142 (by decide) (fun c43 => ?_) (fun c43 => ?_)
                  · have h := ift c43 h
                    obtain ⟨a44, e45, h⟩ := nn h
                    obtain ⟨g46, h⟩ := ck h
                    obtain ⟨g47, h⟩ := ck h
                    obtain ⟨rfl, rfl⟩ := lf2 h
                    refine r_aload_n E (x := some h0) (i := 0) (j := 2) dX7_inRow_152 rfl rfl ?_
                    refine gf_X7_36 E (x := gp σ 810 h0) dX7_inRow_153 rfl g1 rfl ?_
                    refine r_iload E (j := 1) dX7_inRow_156 rfl ?_
                    refine r_iload E (j := 6) dX7_inRow_158 rfl ?_
                    refine r_iast E dX7_inRow_160 e45 g46 g47 ?_
                    refine r_iload E (j := 6) dX7_inRow_161 rfl ?_
                    exact r_iret E dX7_inRow_163
                  · have h := iff' c43 h
                    obtain ⟨r50, s49, hc48, h⟩ := nb2 h
                    obtain ⟨rfl, rfl⟩ := lf2 h
                    refine r_aload_n E (x := some h0) (i := 0) (j := 2) dX7_inRow_145 rfl rfl ?_
                    refine r_iconst E dX7_inRow_146 (v := 4) (by decide) ?_
                    refine r_iload_n E (i := 1) (j := 3) dX7_inRow_147 rfl rfl ?_
                    refine cl_X7_88 E (m_X7_fail hc48) dX7_inRow_148 ⟨Nat.le_of_ble_eq_true rfl, Nat.le_of_ble_eq_true rfl⟩ ⟨by first | decide | omega | (dsimp only; omega), by first | decide | omega | (dsimp only; omega)⟩ (by decide) rfl g1 ?_
                    exact r_iret E dX7_inRow_151
              · have h := ift c32 h
                refine r_iload E (j := 0) dX7_inRow_119 rfl ?_
                refine r_if_eq E (tgt := 145) dX7_inRow_121 (by decide) (fun c51 => ?_) (fun c51 => ?_)
                · have h := ift c51 h
                  obtain ⟨r54, s53, hc52, h⟩ := nb2 h
                  obtain ⟨rfl, rfl⟩ := lf2 h
                  refine r_aload_n E (x := some h0) (i := 0) (j := 2) dX7_inRow_145 rfl rfl ?_
                  refine r_iconst E dX7_inRow_146 (v := 4) (by decide) ?_
                  refine r_iload_n E (i := 1) (j := 3) dX7_inRow_147 rfl rfl ?_
                  refine cl_X7_88 E (m_X7_fail hc52) dX7_inRow_148 ⟨Nat.le_of_ble_eq_true rfl, Nat.le_of_ble_eq_true rfl⟩ ⟨by first | decide | omega | (dsimp only; omega), by first | decide | omega | (dsimp only; omega)⟩ (by decide) rfl g1 ?_
                  exact r_iret E dX7_inRow_151
                · have h := iff' c51 h
                  obtain ⟨g55, h⟩ := ck h
                  refine r_aload_n E (x := some h0) (i := 0) (j := 2) dX7_inRow_124 rfl rfl ?_
                  refine gf_X7_30 E (x := gp σ 807 h0) dX7_inRow_125 rfl g1 rfl ?_
                  refine r_iload_n E (i := 2) (j := 4) dX7_inRow_128 rfl rfl ?_
                  refine r_iald E dX7_inRow_129 e29 g30 g55 ?_
                  refine r_iconst E dX7_inRow_130 (v := 2) (by decide) ?_
                  refine r_icmp_ne E (tgt := 152) dX7_inRow_131 (by decide) (fun c56 => ?_) (fun c56 => ?_)
                  · have h := iff' c56 h
                    obtain ⟨a57, e58, h⟩ := nn h
                    obtain ⟨g59, h⟩ := ck h
                    obtain ⟨g60, h⟩ := ck h
                    obtain ⟨rfl, rfl⟩ := lf2 h
                    refine r_aload_n E (x := some h0) (i := 0) (j := 2) dX7_inRow_152 rfl rfl ?_
                    refine gf_X7_36 E (x := gp σ 810 h0) dX7_inRow_153 rfl g1 rfl ?_
                    refine r_iload E (j := 1) dX7_inRow_156 rfl ?_
                    refine r_iload E (j := 6) dX7_inRow_158 rfl ?_
                    refine r_iast E dX7_inRow_160 e58 g59 g60 ?_
                    refine r_iload E (j := 6) dX7_inRow_161 rfl ?_
                    exact r_iret E dX7_inRow_163
                  · have h := ift c56 h
                    obtain ⟨a61, e62, h⟩ := nn h
                    obtain ⟨g63, h⟩ := ck h
                    obtain ⟨g64, h⟩ := ck h
                    refine r_aload_n E (x := some h0) (i := 0) (j := 2) dX7_inRow_134 rfl rfl ?_
                    refine gf_X7_24 E (x := gp σ 805 h0) dX7_inRow_135 rfl g1 rfl ?_
                    refine r_iload E (j := 6) dX7_inRow_138 rfl ?_
                    refine r_iald E dX7_inRow_140 e62 g63 g64 ?_
                    refine r_iconst E dX7_inRow_141 (v := 3) (by decide) ?_
                    refine r_icmp_eq E (tgt := 152) dX7_inRow_142 (by decide) (fun c65 => ?_) (fun c65 => ?_)
                    · have h := ift c65 h
                      obtain ⟨a66, e67, h⟩ := nn h
                      obtain ⟨g68, h⟩ := ck h
                      obtain ⟨g69, h⟩ := ck h
                      obtain ⟨rfl, rfl⟩ := lf2 h
                      refine r_aload_n E (x := some h0) (i := 0) (j := 2) dX7_inRow_152 rfl rfl ?_
                      refine gf_X7_36 E (x := gp σ 810 h0) dX7_inRow_153 rfl g1 rfl ?_
                      refine r_iload E (j := 1) dX7_inRow_156 rfl ?_
                      refine r_iload E (j := 6) dX7_inRow_158 rfl ?_
                      refine r_iast E dX7_inRow_160 e67 g68 g69 ?_
                      refine r_iload E (j := 6) dX7_inRow_161 rfl ?_
                      exact r_iret E dX7_inRow_163
                    · have h := iff' c65 h
                      obtain ⟨r72, s71, hc70, h⟩ := nb2 h
                      obtain ⟨rfl, rfl⟩ := lf2 h
                      refine r_aload_n E (x := some h0) (i := 0) (j := 2) dX7_inRow_145 rfl rfl ?_
                      refine r_iconst E dX7_inRow_146 (v := 4) (by decide) ?_
                      refine r_iload_n E (i := 1) (j := 3) dX7_inRow_147 rfl rfl ?_
                      refine cl_X7_88 E (m_X7_fail hc70) dX7_inRow_148 ⟨Nat.le_of_ble_eq_true rfl, Nat.le_of_ble_eq_true rfl⟩ ⟨by first | decide | omega | (dsimp only; omega), by first | decide | omega | (dsimp only; omega)⟩ (by decide) rfl g1 ?_
                      exact r_iret E dX7_inRow_151
          · have h := iff' c22 h
            obtain ⟨a73, e74, h⟩ := nn h
            obtain ⟨g75, h⟩ := ck h
            obtain ⟨g76, h⟩ := ck h
            refine r_aload_n E (x := some h0) (i := 0) (j := 1) dX7_inRow_74 rfl rfl ?_
            refine gf_X7_24 E (x := gp σ 805 h0) dX7_inRow_75 rfl g1 rfl ?_
            refine r_iload E (j := 5) dX7_inRow_78 rfl ?_
            refine r_iald E dX7_inRow_80 e74 g75 g76 ?_
            refine r_iconst E dX7_inRow_81 (v := 2) (by decide) ?_
            refine r_icmp_eq E (tgt := 96) dX7_inRow_82 (by decide) (fun c77 => ?_) (fun c77 => ?_)
            · have h := ift c77 h
              refine r_iconst E dX7_inRow_96 (v := 1) (by decide) ?_
              refine r_goto E (tgt := 101) dX7_inRow_97 (by decide) ?_
              refine r_istore E (lv' := [(6, .int ((1 : Int32))), (5, .int ((Int64.toInt32 (aj σ a13 (Int32.toNatClampNeg p2))) + p3)), (0, va_rf (some h0)), (1, .int (p1)), (2, .int (p2)), (3, .int (p3)), (4, .int (p4))]) dX7_inRow_101 (by decide) (by first | rfl | (simp only [List.filter_cons, List.filter_nil, va_rf_cat]; rfl)) ?_
              refine r_iload E (j := 6) dX7_inRow_103 rfl ?_
              refine r_iconst E dX7_inRow_105 (v := -1) (by decide) ?_
              refine r_icmp_eq E (tgt := 152) dX7_inRow_106 (by decide) (fun c78 => ?_) (fun c78 => ?_)
              · have h := ift c78 h
                obtain ⟨a79, e80, h⟩ := nn h
                obtain ⟨g81, h⟩ := ck h
                obtain ⟨g82, h⟩ := ck h
                obtain ⟨rfl, rfl⟩ := lf2 h
                refine r_aload_n E (x := some h0) (i := 0) (j := 2) dX7_inRow_152 rfl rfl ?_
                refine gf_X7_36 E (x := gp σ 810 h0) dX7_inRow_153 rfl g1 rfl ?_
                refine r_iload E (j := 1) dX7_inRow_156 rfl ?_
                refine r_iload E (j := 6) dX7_inRow_158 rfl ?_
                refine r_iast E dX7_inRow_160 e80 g81 g82 ?_
                refine r_iload E (j := 6) dX7_inRow_161 rfl ?_
                exact r_iret E dX7_inRow_163
              · have h := iff' c78 h
                obtain ⟨a83, e84, h⟩ := nn h
                obtain ⟨g85, h⟩ := ck h
                obtain ⟨g86, h⟩ := ck h
                refine r_aload_n E (x := some h0) (i := 0) (j := 2) dX7_inRow_109 rfl rfl ?_
                refine gf_X7_30 E (x := gp σ 807 h0) dX7_inRow_110 rfl g1 rfl ?_
                refine r_iload_n E (i := 2) (j := 4) dX7_inRow_113 rfl rfl ?_
                refine r_iald E dX7_inRow_114 e84 g85 g86 ?_
                refine r_iconst E dX7_inRow_115 (v := 1) (by decide) ?_
                refine r_icmp_ne E (tgt := 124) dX7_inRow_116 (by decide) (fun c87 => ?_) (fun c87 => ?_)
                · have h := iff' c87 h
                  obtain ⟨g88, h⟩ := ck h
                  refine r_aload_n E (x := some h0) (i := 0) (j := 2) dX7_inRow_124 rfl rfl ?_
                  refine gf_X7_30 E (x := gp σ 807 h0) dX7_inRow_125 rfl g1 rfl ?_
                  refine r_iload_n E (i := 2) (j := 4) dX7_inRow_128 rfl rfl ?_
                  refine r_iald E dX7_inRow_129 e84 g85 g88 ?_
                  refine r_iconst E dX7_inRow_130 (v := 2) (by decide) ?_
                  refine r_icmp_ne E (tgt := 152) dX7_inRow_131 (by decide) (fun c89 => ?_) (fun c89 => ?_)
                  · have h := iff' c89 h
                    obtain ⟨a90, e91, h⟩ := nn h
                    obtain ⟨g92, h⟩ := ck h
                    obtain ⟨g93, h⟩ := ck h
                    obtain ⟨rfl, rfl⟩ := lf2 h
                    refine r_aload_n E (x := some h0) (i := 0) (j := 2) dX7_inRow_152 rfl rfl ?_
                    refine gf_X7_36 E (x := gp σ 810 h0) dX7_inRow_153 rfl g1 rfl ?_
                    refine r_iload E (j := 1) dX7_inRow_156 rfl ?_
                    refine r_iload E (j := 6) dX7_inRow_158 rfl ?_
                    refine r_iast E dX7_inRow_160 e91 g92 g93 ?_
                    refine r_iload E (j := 6) dX7_inRow_161 rfl ?_
                    exact r_iret E dX7_inRow_163
                  · have h := ift c89 h
                    obtain ⟨g94, h⟩ := ck h
                    refine r_aload_n E (x := some h0) (i := 0) (j := 2) dX7_inRow_134 rfl rfl ?_
                    refine gf_X7_24 E (x := gp σ 805 h0) dX7_inRow_135 rfl g1 rfl ?_
                    refine r_iload E (j := 6) dX7_inRow_138 rfl ?_
                    refine r_iald E dX7_inRow_140 e74 g75 g94 ?_
                    refine r_iconst E dX7_inRow_141 (v := 3) (by decide) ?_
                    refine r_icmp_eq E (tgt := 152) dX7_inRow_142 (by decide) (fun c95 => ?_) (fun c95 => ?_)
                    · have h := ift c95 h
                      obtain ⟨a96, e97, h⟩ := nn h
                      obtain ⟨g98, h⟩ := ck h
                      obtain ⟨g99, h⟩ := ck h
                      obtain ⟨rfl, rfl⟩ := lf2 h
                      refine r_aload_n E (x := some h0) (i := 0) (j := 2) dX7_inRow_152 rfl rfl ?_
                      refine gf_X7_36 E (x := gp σ 810 h0) dX7_inRow_153 rfl g1 rfl ?_
                      refine r_iload E (j := 1) dX7_inRow_156 rfl ?_
                      refine r_iload E (j := 6) dX7_inRow_158 rfl ?_
                      refine r_iast E dX7_inRow_160 e97 g98 g99 ?_
                      refine r_iload E (j := 6) dX7_inRow_161 rfl ?_
                      exact r_iret E dX7_inRow_163
                    · have h := iff' c95 h
                      obtain ⟨r102, s101, hc100, h⟩ := nb2 h
                      obtain ⟨rfl, rfl⟩ := lf2 h
                      refine r_aload_n E (x := some h0) (i := 0) (j := 2) dX7_inRow_145 rfl rfl ?_
                      refine r_iconst E dX7_inRow_146 (v := 4) (by decide) ?_
                      refine r_iload_n E (i := 1) (j := 3) dX7_inRow_147 rfl rfl ?_
                      refine cl_X7_88 E (m_X7_fail hc100) dX7_inRow_148 ⟨Nat.le_of_ble_eq_true rfl, Nat.le_of_ble_eq_true rfl⟩ ⟨by first | decide | omega | (dsimp only; omega), by first | decide | omega | (dsimp only; omega)⟩ (by decide) rfl g1 ?_
                      exact r_iret E dX7_inRow_151
                · have h := ift c87 h
                  refine r_iload E (j := 0) dX7_inRow_119 rfl ?_
                  refine r_if_eq E (tgt := 145) dX7_inRow_121 (by decide) (fun c103 => ?_) (fun c103 => ?_)
                  · have h := ift c103 h
                    obtain ⟨r106, s105, hc104, h⟩ := nb2 h
                    obtain ⟨rfl, rfl⟩ := lf2 h
                    refine r_aload_n E (x := some h0) (i := 0) (j := 2) dX7_inRow_145 rfl rfl ?_
                    refine r_iconst E dX7_inRow_146 (v := 4) (by decide) ?_
                    refine r_iload_n E (i := 1) (j := 3) dX7_inRow_147 rfl rfl ?_
                    refine cl_X7_88 E (m_X7_fail hc104) dX7_inRow_148 ⟨Nat.le_of_ble_eq_true rfl, Nat.le_of_ble_eq_true rfl⟩ ⟨by first | decide | omega | (dsimp only; omega), by first | decide | omega | (dsimp only; omega)⟩ (by decide) rfl g1 ?_
                    exact r_iret E dX7_inRow_151
                  · have h := iff' c103 h
                    obtain ⟨g107, h⟩ := ck h
                    refine r_aload_n E (x := some h0) (i := 0) (j := 2) dX7_inRow_124 rfl rfl ?_
                    refine gf_X7_30 E (x := gp σ 807 h0) dX7_inRow_125 rfl g1 rfl ?_
                    refine r_iload_n E (i := 2) (j := 4) dX7_inRow_128 rfl rfl ?_
                    refine r_iald E dX7_inRow_129 e84 g85 g107 ?_
                    refine r_iconst E dX7_inRow_130 (v := 2) (by decide) ?_
                    refine r_icmp_ne E (tgt := 152) dX7_inRow_131 (by decide) (fun c108 => ?_) (fun c108 => ?_)
                    · have h := iff' c108 h
                      obtain ⟨a109, e110, h⟩ := nn h
                      obtain ⟨g111, h⟩ := ck h
                      obtain ⟨g112, h⟩ := ck h
                      obtain ⟨rfl, rfl⟩ := lf2 h
                      refine r_aload_n E (x := some h0) (i := 0) (j := 2) dX7_inRow_152 rfl rfl ?_
                      refine gf_X7_36 E (x := gp σ 810 h0) dX7_inRow_153 rfl g1 rfl ?_
                      refine r_iload E (j := 1) dX7_inRow_156 rfl ?_
                      refine r_iload E (j := 6) dX7_inRow_158 rfl ?_
                      refine r_iast E dX7_inRow_160 e110 g111 g112 ?_
                      refine r_iload E (j := 6) dX7_inRow_161 rfl ?_
                      exact r_iret E dX7_inRow_163
                    · have h := ift c108 h
                      obtain ⟨g113, h⟩ := ck h
                      refine r_aload_n E (x := some h0) (i := 0) (j := 2) dX7_inRow_134 rfl rfl ?_
                      refine gf_X7_24 E (x := gp σ 805 h0) dX7_inRow_135 rfl g1 rfl ?_
                      refine r_iload E (j := 6) dX7_inRow_138 rfl ?_
                      refine r_iald E dX7_inRow_140 e74 g75 g113 ?_
                      refine r_iconst E dX7_inRow_141 (v := 3) (by decide) ?_
                      refine r_icmp_eq E (tgt := 152) dX7_inRow_142 (by decide) (fun c114 => ?_) (fun c114 => ?_)
                      · have h := ift c114 h
                        obtain ⟨a115, e116, h⟩ := nn h
                        obtain ⟨g117, h⟩ := ck h
                        obtain ⟨g118, h⟩ := ck h
                        obtain ⟨rfl, rfl⟩ := lf2 h
                        refine r_aload_n E (x := some h0) (i := 0) (j := 2) dX7_inRow_152 rfl rfl ?_
                        refine gf_X7_36 E (x := gp σ 810 h0) dX7_inRow_153 rfl g1 rfl ?_
                        refine r_iload E (j := 1) dX7_inRow_156 rfl ?_
                        refine r_iload E (j := 6) dX7_inRow_158 rfl ?_
                        refine r_iast E dX7_inRow_160 e116 g117 g118 ?_
                        refine r_iload E (j := 6) dX7_inRow_161 rfl ?_
                        exact r_iret E dX7_inRow_163
                      · have h := iff' c114 h
                        obtain ⟨r121, s120, hc119, h⟩ := nb2 h
                        obtain ⟨rfl, rfl⟩ := lf2 h
                        refine r_aload_n E (x := some h0) (i := 0) (j := 2) dX7_inRow_145 rfl rfl ?_
                        refine r_iconst E dX7_inRow_146 (v := 4) (by decide) ?_
                        refine r_iload_n E (i := 1) (j := 3) dX7_inRow_147 rfl rfl ?_
                        refine cl_X7_88 E (m_X7_fail hc119) dX7_inRow_148 ⟨Nat.le_of_ble_eq_true rfl, Nat.le_of_ble_eq_true rfl⟩ ⟨by first | decide | omega | (dsimp only; omega), by first | decide | omega | (dsimp only; omega)⟩ (by decide) rfl g1 ?_
                        exact r_iret E dX7_inRow_151
            · have h := iff' c77 h
              obtain ⟨g122, h⟩ := ck h
              refine r_aload_n E (x := some h0) (i := 0) (j := 1) dX7_inRow_85 rfl rfl ?_
              refine gf_X7_24 E (x := gp σ 805 h0) dX7_inRow_86 rfl g1 rfl ?_
              refine r_iload E (j := 5) dX7_inRow_89 rfl ?_
              refine r_iald E dX7_inRow_91 e74 g75 g122 ?_
              refine r_iconst E dX7_inRow_92 (v := 3) (by decide) ?_
              refine r_icmp_ne E (tgt := 100) dX7_inRow_93 (by decide) (fun c123 => ?_) (fun c123 => ?_)
              · have h := iff' c123 h
                refine r_iconst E dX7_inRow_100 (v := 0) (by decide) ?_
                refine r_istore E (lv' := [(6, .int ((0 : Int32))), (5, .int ((Int64.toInt32 (aj σ a13 (Int32.toNatClampNeg p2))) + p3)), (0, va_rf (some h0)), (1, .int (p1)), (2, .int (p2)), (3, .int (p3)), (4, .int (p4))]) dX7_inRow_101 (by decide) (by first | rfl | (simp only [List.filter_cons, List.filter_nil, va_rf_cat]; rfl)) ?_
                refine r_iload E (j := 6) dX7_inRow_103 rfl ?_
                refine r_iconst E dX7_inRow_105 (v := -1) (by decide) ?_
                refine r_icmp_eq E (tgt := 152) dX7_inRow_106 (by decide) (fun c124 => ?_) (fun c124 => ?_)
                · have h := ift c124 h
                  obtain ⟨a125, e126, h⟩ := nn h
                  obtain ⟨g127, h⟩ := ck h
                  obtain ⟨g128, h⟩ := ck h
                  obtain ⟨rfl, rfl⟩ := lf2 h
                  refine r_aload_n E (x := some h0) (i := 0) (j := 2) dX7_inRow_152 rfl rfl ?_
                  refine gf_X7_36 E (x := gp σ 810 h0) dX7_inRow_153 rfl g1 rfl ?_
                  refine r_iload E (j := 1) dX7_inRow_156 rfl ?_
                  refine r_iload E (j := 6) dX7_inRow_158 rfl ?_
                  refine r_iast E dX7_inRow_160 e126 g127 g128 ?_
                  refine r_iload E (j := 6) dX7_inRow_161 rfl ?_
                  exact r_iret E dX7_inRow_163
                · have h := iff' c124 h
                  obtain ⟨a129, e130, h⟩ := nn h
                  obtain ⟨g131, h⟩ := ck h
                  obtain ⟨g132, h⟩ := ck h
                  refine r_aload_n E (x := some h0) (i := 0) (j := 2) dX7_inRow_109 rfl rfl ?_
                  refine gf_X7_30 E (x := gp σ 807 h0) dX7_inRow_110 rfl g1 rfl ?_
                  refine r_iload_n E (i := 2) (j := 4) dX7_inRow_113 rfl rfl ?_
                  refine r_iald E dX7_inRow_114 e130 g131 g132 ?_
                  refine r_iconst E dX7_inRow_115 (v := 1) (by decide) ?_
                  refine r_icmp_ne E (tgt := 124) dX7_inRow_116 (by decide) (fun c133 => ?_) (fun c133 => ?_)
                  · have h := iff' c133 h
                    obtain ⟨g134, h⟩ := ck h
                    refine r_aload_n E (x := some h0) (i := 0) (j := 2) dX7_inRow_124 rfl rfl ?_
                    refine gf_X7_30 E (x := gp σ 807 h0) dX7_inRow_125 rfl g1 rfl ?_
                    refine r_iload_n E (i := 2) (j := 4) dX7_inRow_128 rfl rfl ?_
                    refine r_iald E dX7_inRow_129 e130 g131 g134 ?_
                    refine r_iconst E dX7_inRow_130 (v := 2) (by decide) ?_
                    refine r_icmp_ne E (tgt := 152) dX7_inRow_131 (by decide) (fun c135 => ?_) (fun c135 => ?_)
                    · have h := iff' c135 h
                      obtain ⟨a136, e137, h⟩ := nn h
                      obtain ⟨g138, h⟩ := ck h
                      obtain ⟨g139, h⟩ := ck h
                      obtain ⟨rfl, rfl⟩ := lf2 h
                      refine r_aload_n E (x := some h0) (i := 0) (j := 2) dX7_inRow_152 rfl rfl ?_
                      refine gf_X7_36 E (x := gp σ 810 h0) dX7_inRow_153 rfl g1 rfl ?_
                      refine r_iload E (j := 1) dX7_inRow_156 rfl ?_
                      refine r_iload E (j := 6) dX7_inRow_158 rfl ?_
                      refine r_iast E dX7_inRow_160 e137 g138 g139 ?_
                      refine r_iload E (j := 6) dX7_inRow_161 rfl ?_
                      exact r_iret E dX7_inRow_163
                    · have h := ift c135 h
                      obtain ⟨g140, h⟩ := ck h
                      refine r_aload_n E (x := some h0) (i := 0) (j := 2) dX7_inRow_134 rfl rfl ?_
                      refine gf_X7_24 E (x := gp σ 805 h0) dX7_inRow_135 rfl g1 rfl ?_
                      refine r_iload E (j := 6) dX7_inRow_138 rfl ?_
                      refine r_iald E dX7_inRow_140 e74 g75 g140 ?_
                      refine r_iconst E dX7_inRow_141 (v := 3) (by decide) ?_
                      refine r_icmp_eq E (tgt := 152) dX7_inRow_142 (by decide) (fun c141 => ?_) (fun c141 => ?_)
                      · have h := ift c141 h
                        obtain ⟨a142, e143, h⟩ := nn h
                        obtain ⟨g144, h⟩ := ck h
                        obtain ⟨g145, h⟩ := ck h
                        obtain ⟨rfl, rfl⟩ := lf2 h
                        refine r_aload_n E (x := some h0) (i := 0) (j := 2) dX7_inRow_152 rfl rfl ?_
                        refine gf_X7_36 E (x := gp σ 810 h0) dX7_inRow_153 rfl g1 rfl ?_
                        refine r_iload E (j := 1) dX7_inRow_156 rfl ?_
                        refine r_iload E (j := 6) dX7_inRow_158 rfl ?_
                        refine r_iast E dX7_inRow_160 e143 g144 g145 ?_
                        refine r_iload E (j := 6) dX7_inRow_161 rfl ?_
                        exact r_iret E dX7_inRow_163
                      · have h := iff' c141 h
                        obtain ⟨r148, s147, hc146, h⟩ := nb2 h
                        obtain ⟨rfl, rfl⟩ := lf2 h
                        refine r_aload_n E (x := some h0) (i := 0) (j := 2) dX7_inRow_145 rfl rfl ?_
                        refine r_iconst E dX7_inRow_146 (v := 4) (by decide) ?_
                        refine r_iload_n E (i := 1) (j := 3) dX7_inRow_147 rfl rfl ?_
                        refine cl_X7_88 E (m_X7_fail hc146) dX7_inRow_148 ⟨Nat.le_of_ble_eq_true rfl, Nat.le_of_ble_eq_true rfl⟩ ⟨by first | decide | omega | (dsimp only; omega), by first | decide | omega | (dsimp only; omega)⟩ (by decide) rfl g1 ?_
                        exact r_iret E dX7_inRow_151
                  · have h := ift c133 h
                    refine r_iload E (j := 0) dX7_inRow_119 rfl ?_
                    refine r_if_eq E (tgt := 145) dX7_inRow_121 (by decide) (fun c149 => ?_) (fun c149 => ?_)
                    · have h := ift c149 h
                      obtain ⟨r152, s151, hc150, h⟩ := nb2 h
                      obtain ⟨rfl, rfl⟩ := lf2 h
                      refine r_aload_n E (x := some h0) (i := 0) (j := 2) dX7_inRow_145 rfl rfl ?_
                      refine r_iconst E dX7_inRow_146 (v := 4) (by decide) ?_
                      refine r_iload_n E (i := 1) (j := 3) dX7_inRow_147 rfl rfl ?_
                      refine cl_X7_88 E (m_X7_fail hc150) dX7_inRow_148 ⟨Nat.le_of_ble_eq_true rfl, Nat.le_of_ble_eq_true rfl⟩ ⟨by first | decide | omega | (dsimp only; omega), by first | decide | omega | (dsimp only; omega)⟩ (by decide) rfl g1 ?_
                      exact r_iret E dX7_inRow_151
                    · have h := iff' c149 h
                      obtain ⟨g153, h⟩ := ck h
                      refine r_aload_n E (x := some h0) (i := 0) (j := 2) dX7_inRow_124 rfl rfl ?_
                      refine gf_X7_30 E (x := gp σ 807 h0) dX7_inRow_125 rfl g1 rfl ?_
                      refine r_iload_n E (i := 2) (j := 4) dX7_inRow_128 rfl rfl ?_
                      refine r_iald E dX7_inRow_129 e130 g131 g153 ?_
                      refine r_iconst E dX7_inRow_130 (v := 2) (by decide) ?_
                      refine r_icmp_ne E (tgt := 152) dX7_inRow_131 (by decide) (fun c154 => ?_) (fun c154 => ?_)
                      · have h := iff' c154 h
                        obtain ⟨a155, e156, h⟩ := nn h
                        obtain ⟨g157, h⟩ := ck h
                        obtain ⟨g158, h⟩ := ck h
                        obtain ⟨rfl, rfl⟩ := lf2 h
                        refine r_aload_n E (x := some h0) (i := 0) (j := 2) dX7_inRow_152 rfl rfl ?_
                        refine gf_X7_36 E (x := gp σ 810 h0) dX7_inRow_153 rfl g1 rfl ?_
                        refine r_iload E (j := 1) dX7_inRow_156 rfl ?_
                        refine r_iload E (j := 6) dX7_inRow_158 rfl ?_
                        refine r_iast E dX7_inRow_160 e156 g157 g158 ?_
                        refine r_iload E (j := 6) dX7_inRow_161 rfl ?_
                        exact r_iret E dX7_inRow_163
                      · have h := ift c154 h
                        obtain ⟨g159, h⟩ := ck h
                        refine r_aload_n E (x := some h0) (i := 0) (j := 2) dX7_inRow_134 rfl rfl ?_
                        refine gf_X7_24 E (x := gp σ 805 h0) dX7_inRow_135 rfl g1 rfl ?_
                        refine r_iload E (j := 6) dX7_inRow_138 rfl ?_
                        refine r_iald E dX7_inRow_140 e74 g75 g159 ?_
                        refine r_iconst E dX7_inRow_141 (v := 3) (by decide) ?_
                        refine r_icmp_eq E (tgt := 152) dX7_inRow_142 (by decide) (fun c160 => ?_) (fun c160 => ?_)
                        · have h := ift c160 h
                          obtain ⟨a161, e162, h⟩ := nn h
                          obtain ⟨g163, h⟩ := ck h
                          obtain ⟨g164, h⟩ := ck h
                          obtain ⟨rfl, rfl⟩ := lf2 h
                          refine r_aload_n E (x := some h0) (i := 0) (j := 2) dX7_inRow_152 rfl rfl ?_
                          refine gf_X7_36 E (x := gp σ 810 h0) dX7_inRow_153 rfl g1 rfl ?_
                          refine r_iload E (j := 1) dX7_inRow_156 rfl ?_
                          refine r_iload E (j := 6) dX7_inRow_158 rfl ?_
                          refine r_iast E dX7_inRow_160 e162 g163 g164 ?_
                          refine r_iload E (j := 6) dX7_inRow_161 rfl ?_
                          exact r_iret E dX7_inRow_163
                        · have h := iff' c160 h
                          obtain ⟨r167, s166, hc165, h⟩ := nb2 h
                          obtain ⟨rfl, rfl⟩ := lf2 h
                          refine r_aload_n E (x := some h0) (i := 0) (j := 2) dX7_inRow_145 rfl rfl ?_
                          refine r_iconst E dX7_inRow_146 (v := 4) (by decide) ?_
                          refine r_iload_n E (i := 1) (j := 3) dX7_inRow_147 rfl rfl ?_
                          refine cl_X7_88 E (m_X7_fail hc165) dX7_inRow_148 ⟨Nat.le_of_ble_eq_true rfl, Nat.le_of_ble_eq_true rfl⟩ ⟨by first | decide | omega | (dsimp only; omega), by first | decide | omega | (dsimp only; omega)⟩ (by decide) rfl g1 ?_
                          exact r_iret E dX7_inRow_151
              · have h := ift c123 h
                refine r_iconst E dX7_inRow_96 (v := 1) (by decide) ?_
                refine r_goto E (tgt := 101) dX7_inRow_97 (by decide) ?_
                refine r_istore E (lv' := [(6, .int ((1 : Int32))), (5, .int ((Int64.toInt32 (aj σ a13 (Int32.toNatClampNeg p2))) + p3)), (0, va_rf (some h0)), (1, .int (p1)), (2, .int (p2)), (3, .int (p3)), (4, .int (p4))]) dX7_inRow_101 (by decide) (by first | rfl | (simp only [List.filter_cons, List.filter_nil, va_rf_cat]; rfl)) ?_
                refine r_iload E (j := 6) dX7_inRow_103 rfl ?_
                refine r_iconst E dX7_inRow_105 (v := -1) (by decide) ?_
                refine r_icmp_eq E (tgt := 152) dX7_inRow_106 (by decide) (fun c168 => ?_) (fun c168 => ?_)
                · have h := ift c168 h
                  obtain ⟨a169, e170, h⟩ := nn h
                  obtain ⟨g171, h⟩ := ck h
                  obtain ⟨g172, h⟩ := ck h
                  obtain ⟨rfl, rfl⟩ := lf2 h
                  refine r_aload_n E (x := some h0) (i := 0) (j := 2) dX7_inRow_152 rfl rfl ?_
                  refine gf_X7_36 E (x := gp σ 810 h0) dX7_inRow_153 rfl g1 rfl ?_
                  refine r_iload E (j := 1) dX7_inRow_156 rfl ?_
                  refine r_iload E (j := 6) dX7_inRow_158 rfl ?_
                  refine r_iast E dX7_inRow_160 e170 g171 g172 ?_
                  refine r_iload E (j := 6) dX7_inRow_161 rfl ?_
                  exact r_iret E dX7_inRow_163
                · have h := iff' c168 h
                  obtain ⟨a173, e174, h⟩ := nn h
                  obtain ⟨g175, h⟩ := ck h
                  obtain ⟨g176, h⟩ := ck h
                  refine r_aload_n E (x := some h0) (i := 0) (j := 2) dX7_inRow_109 rfl rfl ?_
                  refine gf_X7_30 E (x := gp σ 807 h0) dX7_inRow_110 rfl g1 rfl ?_
                  refine r_iload_n E (i := 2) (j := 4) dX7_inRow_113 rfl rfl ?_
                  refine r_iald E dX7_inRow_114 e174 g175 g176 ?_
                  refine r_iconst E dX7_inRow_115 (v := 1) (by decide) ?_
                  refine r_icmp_ne E (tgt := 124) dX7_inRow_116 (by decide) (fun c177 => ?_) (fun c177 => ?_)
                  · have h := iff' c177 h
                    obtain ⟨g178, h⟩ := ck h
                    refine r_aload_n E (x := some h0) (i := 0) (j := 2) dX7_inRow_124 rfl rfl ?_
                    refine gf_X7_30 E (x := gp σ 807 h0) dX7_inRow_125 rfl g1 rfl ?_
                    refine r_iload_n E (i := 2) (j := 4) dX7_inRow_128 rfl rfl ?_
                    refine r_iald E dX7_inRow_129 e174 g175 g178 ?_
                    refine r_iconst E dX7_inRow_130 (v := 2) (by decide) ?_
                    refine r_icmp_ne E (tgt := 152) dX7_inRow_131 (by decide) (fun c179 => ?_) (fun c179 => ?_)
                    · have h := iff' c179 h
                      obtain ⟨a180, e181, h⟩ := nn h
                      obtain ⟨g182, h⟩ := ck h
                      obtain ⟨g183, h⟩ := ck h
                      obtain ⟨rfl, rfl⟩ := lf2 h
                      refine r_aload_n E (x := some h0) (i := 0) (j := 2) dX7_inRow_152 rfl rfl ?_
                      refine gf_X7_36 E (x := gp σ 810 h0) dX7_inRow_153 rfl g1 rfl ?_
                      refine r_iload E (j := 1) dX7_inRow_156 rfl ?_
                      refine r_iload E (j := 6) dX7_inRow_158 rfl ?_
                      refine r_iast E dX7_inRow_160 e181 g182 g183 ?_
                      refine r_iload E (j := 6) dX7_inRow_161 rfl ?_
                      exact r_iret E dX7_inRow_163
                    · have h := ift c179 h
                      obtain ⟨g184, h⟩ := ck h
                      refine r_aload_n E (x := some h0) (i := 0) (j := 2) dX7_inRow_134 rfl rfl ?_
                      refine gf_X7_24 E (x := gp σ 805 h0) dX7_inRow_135 rfl g1 rfl ?_
                      refine r_iload E (j := 6) dX7_inRow_138 rfl ?_
                      refine r_iald E dX7_inRow_140 e74 g75 g184 ?_
                      refine r_iconst E dX7_inRow_141 (v := 3) (by decide) ?_
                      refine r_icmp_eq E (tgt := 152) dX7_inRow_142 (by decide) (fun c185 => ?_) (fun c185 => ?_)
                      · have h := ift c185 h
                        obtain ⟨a186, e187, h⟩ := nn h
                        obtain ⟨g188, h⟩ := ck h
                        obtain ⟨g189, h⟩ := ck h
                        obtain ⟨rfl, rfl⟩ := lf2 h
                        refine r_aload_n E (x := some h0) (i := 0) (j := 2) dX7_inRow_152 rfl rfl ?_
                        refine gf_X7_36 E (x := gp σ 810 h0) dX7_inRow_153 rfl g1 rfl ?_
                        refine r_iload E (j := 1) dX7_inRow_156 rfl ?_
                        refine r_iload E (j := 6) dX7_inRow_158 rfl ?_
                        refine r_iast E dX7_inRow_160 e187 g188 g189 ?_
                        refine r_iload E (j := 6) dX7_inRow_161 rfl ?_
                        exact r_iret E dX7_inRow_163
                      · have h := iff' c185 h
                        obtain ⟨r192, s191, hc190, h⟩ := nb2 h
                        obtain ⟨rfl, rfl⟩ := lf2 h
                        refine r_aload_n E (x := some h0) (i := 0) (j := 2) dX7_inRow_145 rfl rfl ?_
                        refine r_iconst E dX7_inRow_146 (v := 4) (by decide) ?_
                        refine r_iload_n E (i := 1) (j := 3) dX7_inRow_147 rfl rfl ?_
                        refine cl_X7_88 E (m_X7_fail hc190) dX7_inRow_148 ⟨Nat.le_of_ble_eq_true rfl, Nat.le_of_ble_eq_true rfl⟩ ⟨by first | decide | omega | (dsimp only; omega), by first | decide | omega | (dsimp only; omega)⟩ (by decide) rfl g1 ?_
                        exact r_iret E dX7_inRow_151
                  · have h := ift c177 h
                    refine r_iload E (j := 0) dX7_inRow_119 rfl ?_
                    refine r_if_eq E (tgt := 145) dX7_inRow_121 (by decide) (fun c193 => ?_) (fun c193 => ?_)
                    · have h := ift c193 h
                      obtain ⟨r196, s195, hc194, h⟩ := nb2 h
                      obtain ⟨rfl, rfl⟩ := lf2 h
                      refine r_aload_n E (x := some h0) (i := 0) (j := 2) dX7_inRow_145 rfl rfl ?_
                      refine r_iconst E dX7_inRow_146 (v := 4) (by decide) ?_
                      refine r_iload_n E (i := 1) (j := 3) dX7_inRow_147 rfl rfl ?_
                      refine cl_X7_88 E (m_X7_fail hc194) dX7_inRow_148 ⟨Nat.le_of_ble_eq_true rfl, Nat.le_of_ble_eq_true rfl⟩ ⟨by first | decide | omega | (dsimp only; omega), by first | decide | omega | (dsimp only; omega)⟩ (by decide) rfl g1 ?_
                      exact r_iret E dX7_inRow_151
                    · have h := iff' c193 h
                      obtain ⟨g197, h⟩ := ck h
                      refine r_aload_n E (x := some h0) (i := 0) (j := 2) dX7_inRow_124 rfl rfl ?_
                      refine gf_X7_30 E (x := gp σ 807 h0) dX7_inRow_125 rfl g1 rfl ?_
                      refine r_iload_n E (i := 2) (j := 4) dX7_inRow_128 rfl rfl ?_
                      refine r_iald E dX7_inRow_129 e174 g175 g197 ?_
                      refine r_iconst E dX7_inRow_130 (v := 2) (by decide) ?_
                      refine r_icmp_ne E (tgt := 152) dX7_inRow_131 (by decide) (fun c198 => ?_) (fun c198 => ?_)
                      · have h := iff' c198 h
                        obtain ⟨a199, e200, h⟩ := nn h
                        obtain ⟨g201, h⟩ := ck h
                        obtain ⟨g202, h⟩ := ck h
                        obtain ⟨rfl, rfl⟩ := lf2 h
                        refine r_aload_n E (x := some h0) (i := 0) (j := 2) dX7_inRow_152 rfl rfl ?_
                        refine gf_X7_36 E (x := gp σ 810 h0) dX7_inRow_153 rfl g1 rfl ?_
                        refine r_iload E (j := 1) dX7_inRow_156 rfl ?_
                        refine r_iload E (j := 6) dX7_inRow_158 rfl ?_
                        refine r_iast E dX7_inRow_160 e200 g201 g202 ?_
                        refine r_iload E (j := 6) dX7_inRow_161 rfl ?_
                        exact r_iret E dX7_inRow_163
                      · have h := ift c198 h
                        obtain ⟨g203, h⟩ := ck h
                        refine r_aload_n E (x := some h0) (i := 0) (j := 2) dX7_inRow_134 rfl rfl ?_
                        refine gf_X7_24 E (x := gp σ 805 h0) dX7_inRow_135 rfl g1 rfl ?_
                        refine r_iload E (j := 6) dX7_inRow_138 rfl ?_
                        refine r_iald E dX7_inRow_140 e74 g75 g203 ?_
                        refine r_iconst E dX7_inRow_141 (v := 3) (by decide) ?_
                        refine r_icmp_eq E (tgt := 152) dX7_inRow_142 (by decide) (fun c204 => ?_) (fun c204 => ?_)
                        · have h := ift c204 h
                          obtain ⟨a205, e206, h⟩ := nn h
                          obtain ⟨g207, h⟩ := ck h
                          obtain ⟨g208, h⟩ := ck h
                          obtain ⟨rfl, rfl⟩ := lf2 h
                          refine r_aload_n E (x := some h0) (i := 0) (j := 2) dX7_inRow_152 rfl rfl ?_
                          refine gf_X7_36 E (x := gp σ 810 h0) dX7_inRow_153 rfl g1 rfl ?_
                          refine r_iload E (j := 1) dX7_inRow_156 rfl ?_
                          refine r_iload E (j := 6) dX7_inRow_158 rfl ?_
                          refine r_iast E dX7_inRow_160 e206 g207 g208 ?_
                          refine r_iload E (j := 6) dX7_inRow_161 rfl ?_
                          exact r_iret E dX7_inRow_163
                        · have h := iff' c204 h
                          obtain ⟨r211, s210, hc209, h⟩ := nb2 h
                          obtain ⟨rfl, rfl⟩ := lf2 h
                          refine r_aload_n E (x := some h0) (i := 0) (j := 2) dX7_inRow_145 rfl rfl ?_
                          refine r_iconst E dX7_inRow_146 (v := 4) (by decide) ?_
                          refine r_iload_n E (i := 1) (j := 3) dX7_inRow_147 rfl rfl ?_
                          refine cl_X7_88 E (m_X7_fail hc209) dX7_inRow_148 ⟨Nat.le_of_ble_eq_true rfl, Nat.le_of_ble_eq_true rfl⟩ ⟨by first | decide | omega | (dsimp only; omega), by first | decide | omega | (dsimp only; omega)⟩ (by decide) rfl g1 ?_
                          exact r_iret E dX7_inRow_151
        · have h := ift c21 h
          obtain ⟨a212, e213, h⟩ := nn h
          obtain ⟨g214, h⟩ := ck h
          obtain ⟨g215, h⟩ := ck h
          obtain ⟨rfl, rfl⟩ := lf2 h
          refine r_aload_n E (x := some h0) (i := 0) (j := 1) dX7_inRow_60 rfl rfl ?_
          refine gf_X7_36 E (x := gp σ 810 h0) dX7_inRow_61 rfl g1 rfl ?_
          refine r_iload E (j := 0) dX7_inRow_64 rfl ?_
          refine r_iald E dX7_inRow_66 e213 g214 g215 ?_
          exact r_iret E dX7_inRow_67
      · have h := iff' c12 h
        obtain ⟨r218, s217, hc216, h⟩ := nb2 h
        obtain ⟨rfl, rfl⟩ := lf2 h
        refine r_aload_n E (x := some h0) (i := 0) (j := 0) dX7_inRow_31 rfl rfl ?_
        refine r_iconst E dX7_inRow_32 (v := 2) (by decide) ?_
        refine r_iload_n E (i := 1) (j := 1) dX7_inRow_33 rfl rfl ?_
        refine cl_X7_88 E (m_X7_fail hc216) dX7_inRow_34 ⟨Nat.le_of_ble_eq_true rfl, Nat.le_of_ble_eq_true rfl⟩ ⟨by first | decide | omega | (dsimp only; omega), by first | decide | omega | (dsimp only; omega)⟩ (by decide) rfl g1 ?_
        exact r_iret E dX7_inRow_37
  · have h := ift c6 h
    obtain ⟨r221, s220, hc219, h⟩ := nb2 h
    obtain ⟨rfl, rfl⟩ := lf2 h
    refine r_aload_n E (x := some h0) (i := 0) (j := 0) dX7_inRow_10 rfl rfl ?_
    refine r_iconst E dX7_inRow_11 (v := 1) (by decide) ?_
    refine r_iload_n E (i := 1) (j := 1) dX7_inRow_12 rfl rfl ?_
    refine cl_X7_88 E (m_X7_fail hc219) dX7_inRow_13 ⟨Nat.le_of_ble_eq_true rfl, Nat.le_of_ble_eq_true rfl⟩ ⟨by first | decide | omega | (dsimp only; omega), by first | decide | omega | (dsimp only; omega)⟩ (by decide) rfl g1 ?_
    exact r_iret E dX7_inRow_16
