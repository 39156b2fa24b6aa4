section TURN5
variable {d : Dp} {σ τ : Sg} {μ ν : Mu} {x pg mc mk sa ls es : Nat} {Fr Fr' : Nat → Nat} {F N Tn Tm Pn Pm D E f j n o p L K S0 P P' : Nat}
theorem turn_ok (G : GM d σ μ x pg mc mk sa ls es Fr F N Tn Pn (D + 1) L K S0) (ht : Tn + sc μ (D + 1) ≤ S0 + K) (a : FA σ μ N es (Fr (D + 1)) (D + 1) n o p) (st : (p = 0 ∧ FW σ μ Tn (Fr (D + 1)) (D + 1) o) ∨ (1 ≤ p ∧ FP σ μ Tn (Fr (D + 1)) (D + 1) o p)) : PC d x pg mc mk sa ls es F N Tn Pn S0 (ph μ (D + 1) L) (ex_X1_takeTurn d σ mc) (mx_X7_forward μ (nI n)) := by
  by_cases e1 : o = 15
  · subst e1; exact turn_try G ht a st
  · by_cases e2 : o = 19
    · subst e2; exact turn_if G ht a st
    · by_cases e3 : o = 20
      · subst e3; exact turn_times G ht a st
      · exact turn_eager G ht a ⟨e1, e2, e3⟩ st
/-- a fault on its way -/
def FS (σ : Sg) (μ : Mu) (mc e : Nat) : Prop := 1 ≤ e ∧ e ≤ 8 ∧ mS μ 820 = nI e ∧ gi σ 209 mc = 0 ∧ gi σ 211 mc = nI e ∧ gi σ 212 mc = mS μ 821
theorem fault_out (hC : CR d σ μ x pg mc mk sa ls es Fr F N Tn Pn) (hDF : D + 1 ≤ F) (hm : MN σ μ mc Fr (D + 1) L K S0) (hb : BL σ μ N es Tn Fr (D + 1)) (ht : Tn + sc μ (D + 1) ≤ S0 + K) {e : Nat} (hf : FS σ μ mc e) : PC d x pg mc mk sa ls es F N Tn Pn S0 (ph μ (D + 1) L) (some ((), sp σ 204 mc (some (Fr D)), 0, 0)) (some ((), uS μ 818 (nI D))) := by
  obtain ⟨m1, m2, m3, m4, m5, m6, m7, m8, m9, m10, m11⟩ := hm
  obtain ⟨f1, f2, f3, f4, f5, f6⟩ := hf
  have lo : LO σ (sp σ 204 mc (some (Fr D))) := LO.rf.sp (by decide)
  have s : ∀ j, FSm σ (sp σ 204 mc (some (Fr D))) j := fun j => ⟨by rw [q_gp_sp, if_neg (by omega)], rfl, by rw [q_gp_sp, if_neg (by omega)], by rw [q_gp_sp, if_neg (by omega)], by rw [q_gp_sp, if_neg (by omega)], by rw [q_gp_sp, if_neg (by omega)], rfl⟩
  have scq : ∀ D', sc (uS μ 818 (nI D)) D' = sc μ D' := fun D' => scq_eq (μ := μ) (ν := uS μ 818 (nI D)) (fun _ => rfl) D' (fun _ _ _ => ⟨rfl, rfl⟩)
  have hsm : sc μ (D + 1) = sc μ D + cr μ (D + 1) := rfl
  have bl : BL (sp σ 204 mc (some (Fr D))) (uS μ 818 (nI D)) N es Tn Fr (D + 1) := hb.mo (fun _ _ => rfl) (fun j _ _ => s _) (fun j _ _ => ⟨rfl, rfl, rfl, fun _ _ => rfl⟩) (fun _ => rfl) (fun _ => rfl) (Nat.le_refl _) lo.hg
  refine ⟨_, _, 0, 0, Fr, F, Tn, Pn, D, L, K, rfl, rfl, ⟨hC.lo lo (LM.rf.uS (by omega)), by omega, ⟨by rw [q_gp_sp, if_pos ⟨rfl, rfl⟩], by rw [q_mS_uS, if_pos rfl], m3, m4, m5, m6, m7, m8, m9, m10, m11⟩, fun j q1 q2 => bl j q1 (by omega), by rw [scq]; omega, Or.inr (Or.inl ⟨⟨e, f1, f2, f3, f4, f5, f6⟩, fun hD => ?_⟩)⟩, by omega, by omega, by omega, by omega, by omega, Or.inr ?_⟩
  · obtain ⟨n, o, p, z, -, -⟩ := bl D hD (by omega)
    exact ⟨n, o, p, z⟩
  · have ne0 : ¬ nI e = 0 := nI_ne0 (by omega) (by omega)
    unfold ph
    rw [scq, show mS (uS μ 818 (nI D)) 820 = nI e from f3, if_neg ne0, f3, if_neg ne0]
    omega
theorem turn_fault (hC : CR d σ μ x pg mc mk sa ls es Fr F N Tn Pn) (hDF : D + 1 ≤ F) (hm : MN σ μ mc Fr (D + 1) L K S0) (hb : BL σ μ N es Tn Fr (D + 1)) (ht : Tn + sc μ (D + 1) ≤ S0 + K) {e : Nat} (hf : FS σ μ mc e) (a : FA σ μ N es (Fr (D + 1)) (D + 1) n o p) : PC d x pg mc mk sa ls es F N Tn Pn S0 (ph μ (D + 1) L) (ex_X1_takeTurn d σ mc) (mx_X7_outward μ (nI n)) := by
  obtain ⟨b, hn, h5, h4, hop, hNk, hpt⟩ := a.nd hC
  obtain ⟨a1, a2, a3, a4, a5, a6, a7, a8⟩ := id a
  obtain ⟨m1, m2, m3, m4, m5, m6, m7, m8, m9, m10, m11⟩ := id hm
  obtain ⟨f1, f2, f3, f4, f5, f6⟩ := id hf
  have h3 : gc σ mc = 3 := hC.1.2.1
  have hfa := (mc_fr hC hDF).1
  have f200 := hC.2.2.1.1
  have hN5 := hC.2.2.2.1.1
  have hcl : (nI n).toNatClampNeg = n := nI_clamp (by omega)
  have hbd : ¬ (nI n < 0 ∨ 4000 ≤ (nI n).toNatClampNeg) := nI_bd (by omega) (by omega)
  have dcl : (nI (D + 1)).toNatClampNeg = D + 1 := nI_clamp (by omega)
  have dbd : ¬ (nI (D + 1) < 0 ∨ 201 ≤ (nI (D + 1)).toNatClampNeg) := nI_bd (by omega) (by omega)
  have dm1 : nI (D + 1) - 1 = nI D := nI_pred D
  have ne0 : ¬ nI e = 0 := nI_ne0 (by omega) (by omega)
  have n211 : ¬ gi σ 211 mc = 0 := by rw [f5]; exact ne0
  have hout : gp σ 100 (Fr (D + 1)) = some (Fr D) := hC.2.2.1.2.2 D (by omega)
  have TT : ex_X1_takeTurn d σ mc = ex_X1_passFault d σ mc (some (Fr (D + 1))) := by
    unfold ex_X1_takeTurn
    rw [if_pos h3, if_neg n211, m1, b4_u]
  rw [TT]
  have NO : ex_X1_takesFault d σ mc (some (Fr (D + 1))) = some (0, σ) → ex_X1_passFault d σ mc (some (Fr (D + 1))) = some ((), sp σ 204 mc (some (Fr D)), 0, 0) := fun q => by
    unfold ex_X1_passFault
    rw [if_pos h3, q]
    simp only [b2_some, Option.bind_some]
    rw [if_pos trivial, if_pos hfa, if_pos h3, hout]
  by_cases e1 : o = 15
  · subst e1
    have hge : ex_X3_get d σ b 1 = some (mI μ 2 (3 * n + 1), σ) := by rw [← (hpt (by omega)).2.1]; exact ce_get (w := 1) h5 (by omega)
    have hnu : mx_X7_number μ (nI n) 1 = some (mI μ 2 (3 * n + 1), μ) := mx_number_ev μ (w := 1) (by omega) (by omega)
    by_cases e2 : p = 1
    · subst e2
      have w0 : gi σ 104 (Fr (D + 1)) = 0 := by
        rcases a8 with k | k | k | k | k
        · omega
        · rcases k.2 with k | k
          · exact k.2
          · omega
        · omega
        · omega
        · exact absurd rfl k.1.1
      by_cases e3 : mI μ 2 (3 * n + 1) = 0 ∨ mI μ 2 (3 * n + 1) = nI e
      · -- it is taken
        have hcr : cr μ (D + 1) = 1 := cr_1 (by rw [a7]; decide)
        have hs1 := sc_1 μ D hcr
        have hT : Tn < 50000 := by omega
        have hmk : gp σ 201 mc = some mk := hC.1.2.2.2.2.2.2.2.2.2.2.1
        have hm4 : gc σ mk = 4 := hC.1.2.2.2.1
        have hsa : gp σ 202 mc = some sa := hC.1.2.2.2.2.2.2.2.2.2.2.2.1
        have h12 : gc σ sa = 12 := hC.1.2.2.2.2.2.1
        have h256 : gl σ sa = 256 := hC.1.2.2.2.2.2.2.1
        have hZ := hC.2.1
        have hmn : mk ≠ hs σ := hZ.ne (by omega)
        have ncn : mc ≠ hs σ := hZ.ne (by omega)
        have nsa : sa ≠ hs σ := hZ.ne (by omega)
        have h30 : gi σ 300 mk = nI Tn := hC.2.2.2.2.2.1
        have h9 : mS μ 809 = nI Tn := hC.2.2.2.2.1.2.2.1
        have TF : ex_X1_takesFault d σ mc (some (Fr (D + 1))) = some (1, σ) := by
          unfold ex_X1_takesFault
          simp only [Option.bind_some]
          rw [if_pos hfa, hn]
          simp only [Option.bind_some]
          rw [if_pos h5, hop, if_pos (by decide), if_pos w0, hge]
          simp only [b2_some]
          by_cases z : mI μ 2 (3 * n + 1) = 0
          · rw [if_pos z]
          · rw [if_neg z, if_pos h3, if_pos (by rw [f5]; rcases e3 with q | q; exact absurd q z; exact q)]
        -- both sides ahead of the PART
        have C1 := hC.mkV hT (k := 1) (nI e).toInt64 (-1) (-1) (Or.inl rfl)
        have pn : pr (sj (nT σ mk Tn 1) 602 (hs σ) (nI e).toInt64) (Tn + 1) (some (hs σ)) (nI Tn) := Or.inr ⟨hs σ, Tn, rfl, rfl, by omega, by rw [q_gc_sj, nT_gc, if_pos rfl], by rw [q_gi_sj]; exact (nT_at (σ := σ) (Tn := Tn) (k := 1) hmn).1⟩
        have C2 := C1.slot (i := 0) pn
        have g12 : gc (sj (nT σ mk Tn 1) 602 (hs σ) (nI e).toInt64) sa = 12 := C1.1.2.2.2.2.2.1
        have gl12 : gl (sj (nT σ mk Tn 1) 602 (hs σ) (nI e).toInt64) sa = 256 := C1.1.2.2.2.2.2.2.1
        have gm3 : gc (sj (nT σ mk Tn 1) 602 (hs σ) (nI e).toInt64) mc = 3 := C1.1.2.1
        generalize hσ1 : sj (nT σ mk Tn 1) 602 (hs σ) (nI e).toInt64 = σ1 at C1 C2 pn g12 gl12 gm3
        have d1 : AgD σ σ1 mc := by
          rw [← hσ1]
          exact (nT_d hZ h3 hm4).tr ⟨fun _ _ => ⟨by rw [q_gp_sj], by rw [q_gi_sj], by rw [q_gp_sj], by rw [q_gp_sj], by rw [q_gp_sj], by rw [q_gp_sj], by rw [q_gj_sj, if_neg (by omega)]⟩, by rw [q_gp_sj], by rw [q_gi_sj], by rw [q_gi_sj], by rw [q_gi_sj], by rw [q_gi_sj]⟩ (fun a ha => by rw [nT_gc, if_neg (hZ.ne (by omega))]; exact ha)
        have o1 : AgO σ σ1 := by
          rw [← hσ1]
          exact (nT_o hZ).tr (AgO.sj (nT_z hZ) (by decide))
        have g600 : ∀ a, gc σ a = 7 → gi σ1 600 a = gi σ 600 a := fun a ha => by
          rw [← hσ1, q_gi_sj]
          exact (nT_old hm4 ha (hZ.ne (by omega))).1
        have l2 : LO (wp σ1 sa 0 (some (hs σ))) (si (si (wp σ1 sa 0 (some (hs σ))) 211 mc 0) 212 mc (-1)) := (LO.rf.si (by decide)).si (by decide)
        have lm2 : LM (uI (mkμ μ Tn 1 (nI e).toInt64 (-1) (-1)) 9 0 (nI Tn)) (uI (uS (uI (mkμ μ Tn 1 (nI e).toInt64 (-1) (-1)) 9 0 (nI Tn)) 820 0) 11 (D + 1) (nI 2)) := (LM.rf.uS (by omega)).uI (by omega)
        have C3 := C2.lo l2 lm2
        generalize hμ3 : uI (uS (uI (mkμ μ Tn 1 (nI e).toInt64 (-1) (-1)) 9 0 (nI Tn)) 820 0) 11 (D + 1) (nI 2) = μ3 at C3
        generalize hσ3 : si (si (wp σ1 sa 0 (some (hs σ))) 211 mc 0) 212 mc (-1) = σ3 at C3
        have mI3 : ∀ k i, (k = 10 ∨ k = 12 ∨ k = 1 ∨ (k = 11 ∧ i ≠ D + 1)) → mI μ3 k i = mI μ k i := fun k i hk => by
          rw [← hμ3, q_mI_uI, if_neg (by omega), q_mI_uS, q_mI_uI, if_neg (by omega), mk_I, if_neg (by omega), if_neg (by omega), if_neg (by omega)]
        have mJ3 : ∀ i, mJ μ3 13 i = mJ μ 13 i := fun i => by
          rw [← hμ3, q_mJ_uI, q_mJ_uS, q_mJ_uI, mk_J, if_neg (by omega)]
        have mS3 : ∀ f, f ≠ 809 → f ≠ 820 → mS μ3 f = mS μ f := fun f y1 y2 => by
          rw [← hμ3, q_mS_uI, q_mS_uS, if_neg y2, q_mS_uI, mk_S, if_neg y1]
        have m20 : mS μ3 820 = 0 := by rw [← hμ3, q_mS_uI, q_mS_uS, if_pos rfl]
        have fs3 : ∀ j, j ≤ F → FSm σ σ3 (Fr j) := fun j hj => by
          have z := d1.1 (Fr j) (mc_fr hC hj).1
          rw [← hσ3]
          refine FSm.tr z ⟨?_, ?_, ?_, ?_, ?_, ?_, ?_⟩
          · rw [q_gp_si, q_gp_si, q_gp_wp]
          · rw [q_gi_si, if_neg (by omega), q_gi_si, if_neg (by omega), q_gi_wp]
          · rw [q_gp_si, q_gp_si, q_gp_wp]
          · rw [q_gp_si, q_gp_si, q_gp_wp]
          · rw [q_gp_si, q_gp_si, q_gp_wp]
          · rw [q_gp_si, q_gp_si, q_gp_wp]
          · rw [q_gj_si, q_gj_si, q_gj_wp]
        have gi3 : ∀ g, g = 207 ∨ g = 208 ∨ g = 209 ∨ g = 210 → gi σ3 g mc = gi σ g mc := fun g hg => by
          rw [← hσ3, q_gi_si, if_neg (by omega), q_gi_si, if_neg (by omega), q_gi_wp, d1.I g hg]
        have t3 : gp σ3 204 mc = gp σ 204 mc := by rw [← hσ3, q_gp_si, q_gp_si, q_gp_wp, d1.2.1]
        have ap3 : ∀ i, ap σ3 es i = ap σ es i := fun i => by
          have h13 : gc σ es = 13 := by rcases hC.2.2.2.1.2.2.2.2.1 with k | k <;> omega
          rw [← hσ3, q_ap_si, q_ap_si, q_ap_wp, if_neg (fun q => by rw [q.1, h12] at h13; omega)]
          exact o1.2.2.2.2.2 es i h13
        have hg3 : ∀ a, gc σ a = 7 → gc σ3 a = 7 ∧ gi σ3 600 a = gi σ 600 a := fun a ha => by
          rw [← hσ3, q_gc_si, q_gc_si, q_gc_wp, q_gi_si, if_neg (by omega), q_gi_si, if_neg (by omega), q_gi_wp]
          exact ⟨by rw [(o1.2.1 a (by omega)).1]; exact ha, g600 a ha⟩
        have us3 : ∀ j, 1 ≤ j → j ≤ D → USm μ μ3 j := fun j _ hj => ⟨mI3 _ _ (by omega), mI3 _ _ (by omega), mJ3 _, fun i _ => mI3 _ _ (by omega)⟩
        have G3 : GM d σ3 μ3 x pg mc mk sa ls es Fr F N (Tn + 1) Pn (D + 1) L K S0 := ⟨C3, hDF, by omega, hm.up t3 (fun g hg => gi3 g (by omega)) (fun f hf => mS3 f (by omega) (by omega)), hb.mo (fun _ _ => rfl) (fun j _ hj => fs3 j (by omega)) (fun j q1 q2 => us3 j q1 (by omega)) ap3 (fun i => mI3 1 i (by omega)) (by omega) hg3, ⟨m20, by rw [gi3 209 (by omega)]; exact f4, by rw [← hσ3, q_gi_si, if_neg (by omega), q_gi_si, if_pos ⟨rfl, rfl⟩], by rw [← hσ3, q_gi_si, if_pos ⟨rfl, rfl⟩]⟩⟩
        have hsc3 : sc μ3 D = sc μ D := scq_eq (fun i => mI3 1 i (by omega)) D (fun j q1 q2 => ⟨(us3 j q1 q2).1, (us3 j q1 q2).2.1⟩)
        have hcr3 : cr μ3 (D + 1) = 0 := by
          unfold cr
          rw [mI3 10 _ (by omega), a2, nI_clamp (by omega), mI3 1 _ (by omega), a5, if_pos ⟨rfl, by rw [← hμ3, q_mI_uI, if_pos ⟨rfl, rfl⟩]; rfl⟩]
        have hs3 : sc μ3 (D + 1) = sc μ D := by rw [sc, hsc3, hcr3, Nat.add_zero]
        have R := L_begin (wh := 2) (o := 15) (p := 2) (n := n) G3.1 G3.2.1 G3.2.2.1 G3.2.2.2.1 G3.2.2.2.2.1 (by omega) G3.2.2.2.2.2 a1 (by rw [mI3 10 _ (by omega)]; exact a2) (by rw [(fs3 _ hDF).1, ap3]; exact a3) (by omega) (by rw [mI3 1 _ (by omega)]; exact a5) (by omega) (by rw [← hμ3, q_mI_uI, if_pos ⟨rfl, rfl⟩]) (by omega) (Or.inr (Or.inl ⟨rfl, Or.inr ⟨rfl, by rw [q_gi_si, if_pos ⟨rfl, rfl⟩]; rfl⟩⟩)) (fun ee => absurd rfl ee.1) (by omega) (by decide)
        obtain ⟨τ, ν, k, n', Fr', F', Tm, Pm, D', L', K', r1, r2, r3, r4, r5, r6, r7, r8, r9⟩ := R
        refine ⟨τ, ν, 0 + (0 + 1) + k, 0 + (0 + 7) + n', Fr', F', Tm, Pm, D', L', K', ?_, ?_, r3, r4, by omega, r6, by omega, by omega, ?_⟩
        · unfold ex_X1_passFault
          rw [if_pos h3, TF]
          simp only [b2_some, hmk, hsa, Option.bind_some]
          rw [if_neg (by decide), if_pos h3, if_pos hm4, f5, ce_withValue hm4 hmn h30]
          simp only [b4_some]
          rw [hσ1, if_pos g12, gl12, if_pos (by decide), if_pos (show some (hs σ) = none ∨ gc σ1 ((some (hs σ)).getD 0) = 7 from Or.inr (by rw [← hσ1, q_gc_sj]; exact nT_gc σ mk Tn 1 (hs σ) ▸ if_pos rfl)), if_pos gm3]
          unfold ex_X1_clearFault
          rw [if_pos (by rw [q_gc_wp]; exact gm3)]
          simp only [b2_some]
          rw [show (Int32.toNatClampNeg (0 : Int32)) = 0 from by decide, hσ3, if_pos C3.1.2.1, show (2 : Int32) = nI 2 from rfl, r1]
          rfl
        · have fin : ∀ (y : Mu), y = mkμ μ Tn 1 (nI e).toInt64 (-1) (-1) → (if ¬ ((0 : Int32) < 0 ∨ 256 ≤ Int32.toNatClampNeg (0 : Int32)) then (bm (uI y 9 (Int32.toNatClampNeg (0 : Int32)) (nI Tn)) fun m28 => (bm (uS m28 820 (0 : Int32)) fun m31 => (if ¬ ((mS m31 818) < 0 ∨ 201 ≤ Int32.toNatClampNeg (mS m31 818)) then (bm (uI m31 11 (Int32.toNatClampNeg (mS m31 818)) (2 : Int32)) fun m38 => (b2 (mx_X7_begin m38 (nI n) (2 : Int32)) fun r43 m42 => some ((), m42))) else none))) else none) = some ((), ν) := fun y hy => by
            subst hy
            have e18 : mS (uS (uI (mkμ μ Tn 1 (nI e).toInt64 (-1) (-1)) 9 0 (nI Tn)) 820 0) 818 = nI (D + 1) := by rw [q_mS_uS, if_neg (by omega), q_mS_uI, mk_S, if_neg (by omega)]; exact m2
            rw [if_pos (by decide), show (Int32.toNatClampNeg (0 : Int32)) = 0 from by decide, bm_eq, bm_eq, e18, if_pos dbd, dcl, bm_eq, show (2 : Int32) = nI 2 from rfl, hμ3, b2_u]
            exact r2
          unfold mx_X7_outward
          rw [if_pos hbd, hcl, a5, if_pos (by decide), m2, if_pos dbd, dcl, a7, if_pos (by decide), hnu]
          simp only [b2_some]
          by_cases z : mI μ 2 (3 * n + 1) = 0
          · rw [if_pos z, f3, mx_num_ev μ h9 hT]
            simp only [b2_some]
            exact fin _ rfl
          · rw [if_neg z, hnu]
            simp only [b2_some]
            rw [if_pos (by rw [f3]; rcases e3 with q | q; exact absurd q z; exact q), f3, mx_num_ev μ h9 hT]
            simp only [b2_some]
            exact fin _ rfl
        · rcases r9 with q | q
          · exact Or.inl q
          · right
            unfold ph at q ⊢
            rw [f3, if_neg ne0]
            rw [hs3, m20, if_pos rfl] at q
            omega
      · have z1 : ¬ mI μ 2 (3 * n + 1) = 0 := fun q => e3 (Or.inl q)
        have z2 : ¬ mI μ 2 (3 * n + 1) = nI e := fun q => e3 (Or.inr q)
        rw [NO]
        · have hMO : mx_X7_outward μ (nI n) = some ((), uS μ 818 (nI D)) := by
            unfold mx_X7_outward
            rw [if_pos hbd, hcl, a5, if_pos (by decide), m2, if_pos dbd, dcl, a7, if_pos (by decide), hnu]
            simp only [b2_some]
            rw [if_neg z1, hnu]
            simp only [b2_some]
            rw [f3, if_neg z2, m2, bm_eq, dm1]
          rw [hMO]
          exact fault_out hC hDF hm hb ht hf
        · unfold ex_X1_takesFault
          simp only [Option.bind_some]
          rw [if_pos hfa, hn]
          simp only [Option.bind_some]
          rw [if_pos h5, hop, if_pos (by decide), if_pos w0, hge]
          simp only [b2_some]
          rw [if_neg z1, if_pos h3, f5, if_neg z2]
    · have w0 : ¬ gi σ 104 (Fr (D + 1)) = 0 := by
        rcases a8 with k | k | k | k | k
        · rw [k.2]; decide
        · rcases k.2 with k | k
          · omega
          · rw [k.2]; decide
        · omega
        · omega
        · exact absurd rfl k.1.1
      rw [NO]
      · have hMO : mx_X7_outward μ (nI n) = some ((), uS μ 818 (nI D)) := by
          unfold mx_X7_outward
          rw [if_pos hbd, hcl, a5, if_pos (by decide), m2, if_pos dbd, dcl, a7, if_neg (by rw [show (1 : Int32) = nI 1 from rfl, nI_eq (by omega) (by omega)]; exact e2), bm_eq, dm1]
        rw [hMO]
        exact fault_out hC hDF hm hb ht hf
      · unfold ex_X1_takesFault
        simp only [Option.bind_some]
        rw [if_pos hfa, hn]
        simp only [Option.bind_some]
        rw [if_pos h5, hop, if_pos (by decide), if_neg w0]
  · have n15 : ¬ nI o = 15 := by rw [show (15 : Int32) = nI 15 from rfl, nI_eq (by omega) (by omega)]; exact e1
    rw [NO]
    · have hMO : mx_X7_outward μ (nI n) = some ((), uS μ 818 (nI D)) := by
        unfold mx_X7_outward
        rw [if_pos hbd, hcl, a5, if_neg n15, m2, bm_eq, dm1]
      rw [hMO]
      exact fault_out hC hDF hm hb ht hf
    · unfold ex_X1_takesFault
      simp only [Option.bind_some]
      rw [if_pos hfa, hn]
      simp only [Option.bind_some]
      rw [if_pos h5, hop, if_neg n15]
end TURN5
