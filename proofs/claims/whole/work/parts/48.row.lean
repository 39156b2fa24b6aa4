theorem nI_64 {n : Nat} (h : n < 2 ^ 31) : (nI n).toInt64 = lN n := by
  rw [← Int64.toInt_inj, Int32.toInt_toInt64, nI_toInt h, lN_toInt h]
/-- PLACES b + i .. made blank -/
def fill (μ : Mu) (b : Nat) : Nat → Nat → Mu
  | _, 0 => μ
  | i, n + 1 => fill (uI μ 8 (b + i) (-1)) b (i + 1) n
theorem fill_S (b : Nat) : ∀ (n i : Nat) (μ : Mu) (f : Nat), mS (fill μ b i n) f = mS μ f := by
  intro n
  induction n with
  | zero => intro i μ f; rfl
  | succ n ih => intro i μ f; rw [fill, ih, q_mS_uI]
theorem fill_J (b : Nat) : ∀ (n i : Nat) (μ : Mu) (c f : Nat), mJ (fill μ b i n) c f = mJ μ c f := by
  intro n
  induction n with
  | zero => intro i μ c f; rfl
  | succ n ih => intro i μ c f; rw [fill, ih, q_mJ_uI]
theorem fill_I (b : Nat) : ∀ (n i : Nat) (μ : Mu) (c k : Nat), mI (fill μ b i n) c k = if c = 8 ∧ b + i ≤ k ∧ k < b + i + n then -1 else mI μ c k := by
  intro n
  induction n with
  | zero => intro i μ c k; rw [fill, if_neg (by omega)]
  | succ n ih =>
    intro i μ c k
    rw [fill, ih, q_mI_uI]
    by_cases h : c = 8 ∧ b + (i + 1) ≤ k ∧ k < b + (i + 1) + n
    · rw [if_pos h, if_pos (by omega)]
    · rw [if_neg h]
      by_cases h2 : c = 8 ∧ k = b + i
      · rw [if_pos h2, if_pos (by omega)]
      · rw [if_neg h2, if_neg (by omega)]
theorem lq_row_ev {Pn z : Nat} (hz : Pn + z ≤ 20000) (p1 v3 v4 : Int32) : ∀ (n i f : Nat) (μ : Mu), i + n = z → n < f → mS μ 811 = nI Pn → lq_X7_newRow f μ p1 (nI z) v3 v4 (nI i) = some (v4, uS (fill μ Pn i n) 811 (nI (Pn + z))) := by
  intro n
  induction n with
  | zero =>
    intro i f μ h1 h2 h3
    obtain ⟨f, rfl⟩ : ∃ g, f = g + 1 := ⟨f - 1, by omega⟩
    rw [lq_X7_newRow, if_pos ((nI_leI (by omega) (by omega)).mpr (by omega)), bm_eq, h3, nI_add]
    rfl
  | succ n ih =>
    intro i f μ h1 h2 h3
    obtain ⟨f, rfl⟩ : ∃ g, f = g + 1 := ⟨f - 1, by omega⟩
    rw [lq_X7_newRow, if_neg (fun q => by have := (nI_leI (by omega) (by omega)).mp q; omega), h3, nI_add, if_pos (nI_bd (by omega) (by omega)), bm_eq, nI_clamp (by omega), nI_1, ih (i + 1) f _ (by omega) (by omega) (by rw [q_mS_uI]; exact h3)]
    rfl
/-- a ROW with PLACES, both sides -/
def rwσ (σ : Sg) (mk Tn Pn z : Nat) (u : Int32) : Sg := sp (na (si (si (nT σ mk Tn 5) 301 mk (nI (Pn + z))) 605 (hs σ) u) 12 z) 606 (hs σ) (some (hs σ + 1))
def rwμ (μ : Mu) (Tn Pn z : Nat) (u : Int32) : Mu := uS (fill (mkμ μ Tn 5 (lN Pn) (nI z) u) Pn 0 z) 811 (nI (Pn + z))
theorem rwμ_S (μ : Mu) (Tn Pn z : Nat) (u : Int32) (f : Nat) : mS (rwμ μ Tn Pn z u) f = if f = 811 then nI (Pn + z) else if f = 809 then nI (Tn + 1) else mS μ f := by
  unfold rwμ
  rw [q_mS_uS, fill_S, mk_S]
theorem rwμ_I (μ : Mu) (Tn Pn z : Nat) (u : Int32) (c i : Nat) : mI (rwμ μ Tn Pn z u) c i = if c = 8 ∧ Pn ≤ i ∧ i < Pn + z then -1 else if c = 6 ∧ i = Tn then u else if c = 5 ∧ i = Tn then nI z else if c = 4 ∧ i = Tn then 5 else mI μ c i := by
  unfold rwμ
  rw [q_mI_uS, fill_I, mk_I]
  rfl
theorem rwμ_J (μ : Mu) (Tn Pn z : Nat) (u : Int32) (c i : Nat) : mJ (rwμ μ Tn Pn z u) c i = if c = 7 ∧ i = Tn then lN Pn else mJ μ c i := by
  unfold rwμ
  rw [q_mJ_uS, fill_J, mk_J]
theorem nT_hs (σ : Sg) (mk Tn : Nat) (k : Int32) : hs (nT σ mk Tn k) = hs σ + 1 := by
  unfold nT
  rw [q_hs_si, q_hs_si, q_hs_si, q_hs_nw]
section ROW
variable {d : Dp} {σ : Sg} {μ : Mu} {x pg mc mk sa ls es : Nat} {Fr : Nat → Nat} {F N Tn Pn w fa nb : Nat} {va vb vc : Int32}
theorem ce_row (hZ : GZ σ) (hm : gc σ mk = 4) (h : gi σ 300 mk = nI Tn) (h1 : gi σ 301 mk = nI Pn) {z : Nat} (hz : Pn + z ≤ 20000) (u : Int32) : ex_X2_row d σ mk u (nI z) = some (some (hs σ), rwσ σ mk Tn Pn z u, 0 + (0 + 1) + 1, 0 + (0 + 7) + z) := by
  have hn : mk ≠ hs σ := hZ.ne (by omega)
  have hm' : gc (nT σ mk Tn 5) mk = 4 := by rw [nT_gc, if_neg hn]; exact hm
  have h1' : gi (nT σ mk Tn 5) 301 mk = nI Pn := by rw [(nT_at hn).2.2.2.2.2.2]; exact h1
  unfold ex_X2_row
  rw [if_pos hm, ce_rowWithout hm hn h]
  simp only [b4_some]
  rw [if_pos hm']
  unfold ex_X2_hasRoomFor
  rw [if_neg (nI_nl (by omega)), if_pos hm', h1', if_neg (by rw [show (20000 : Int32) = nI 20000 from rfl, pk_sub (by omega), nI_ltI (by omega) (by omega)]; omega)]
  simp only [b2_some]
  rw [if_neg (by decide), if_pos hm']
  simp only [Option.bind_some]
  rw [if_pos (by rw [nT_gc, if_pos rfl]), if_pos (nI_nl (by omega)), nI_clamp (by omega), if_pos (by omega), if_pos (by rw [q_gc_na, if_neg (by rw [nT_hs]; omega), nT_gc, if_pos rfl]), h1', nI_add, nT_hs]
  rfl
theorem rw_o (h : GZ σ) {z : Nat} {u : Int32} : AgO σ (rwσ σ mk Tn Pn z u) := by
  have a1 := nT_o (mk := mk) (Tn := Tn) (k := 5) h
  have a2 := a1.tr (AgO.si (f := 301) (a := mk) (v := nI (Pn + z)) a1.z (by decide))
  have a3 := a2.tr (AgO.si (f := 605) (a := hs σ) (v := u) a2.z (by decide))
  have a4 := a3.tr (AgO.na (c := 12) (N := z) a3.z)
  exact a4.tr (AgO.sp a4.z (by decide))
theorem rw_gc (σ : Sg) (mk Tn Pn z : Nat) (u : Int32) (a : Nat) : gc (rwσ σ mk Tn Pn z u) a = if a = hs σ + 1 then 12 else if a = hs σ then 7 else gc σ a := by
  unfold rwσ
  rw [q_gc_sp, q_gc_na, q_hs_si, q_hs_si, nT_hs, q_gc_si, q_gc_si, nT_gc]
theorem rw_old {z : Nat} {u : Int32} {a : Nat} (hm : gc σ mk = 4) (h7 : gc σ a = 7) (hn : a ≠ hs σ) : gi (rwσ σ mk Tn Pn z u) 600 a = gi σ 600 a ∧ gi (rwσ σ mk Tn Pn z u) 601 a = gi σ 601 a ∧ gj (rwσ σ mk Tn Pn z u) 602 a = gj σ 602 a ∧ gp (rwσ σ mk Tn Pn z u) 603 a = gp σ 603 a ∧ gp (rwσ σ mk Tn Pn z u) 604 a = gp σ 604 a ∧ gi (rwσ σ mk Tn Pn z u) 605 a = gi σ 605 a ∧ gp (rwσ σ mk Tn Pn z u) 606 a = gp σ 606 a := by
  obtain ⟨b0, b1, b2, b3, b4, b5, b6⟩ := nT_old (Tn := Tn) (k := 5) hm h7 hn
  unfold rwσ
  refine ⟨?_, ?_, ?_, ?_, ?_, ?_, ?_⟩
  · rw [q_gi_sp, q_gi_na, q_gi_si, if_neg (by omega), q_gi_si, if_neg (by omega)]; exact b0
  · rw [q_gi_sp, q_gi_na, q_gi_si, if_neg (by omega), q_gi_si, if_neg (by omega)]; exact b1
  · rw [q_gj_sp, q_gj_na, q_gj_si, q_gj_si]; exact b2
  · rw [q_gp_sp, if_neg (by omega), q_gp_na, q_gp_si, q_gp_si]; exact b3
  · rw [q_gp_sp, if_neg (by omega), q_gp_na, q_gp_si, q_gp_si]; exact b4
  · rw [q_gi_sp, q_gi_na, q_gi_si, if_neg (by omega), q_gi_si, if_neg (by omega)]; exact b5
  · rw [q_gp_sp, if_neg (by omega), q_gp_na, q_gp_si, q_gp_si]; exact b6
theorem rw_ap (h : GZ σ) {z : Nat} {u : Int32} (a i : Nat) (ha : gc σ a ≠ 0) : ap (rwσ σ mk Tn Pn z u) a i = ap σ a i := by
  have hl := h a ha
  unfold rwσ
  rw [q_ap_sp, q_ap_na, q_hs_si, q_hs_si, nT_hs, if_neg (by omega), q_ap_si, q_ap_si]
  rfl
theorem rw_d (h : GZ σ) {z : Nat} {u : Int32} (hm : gc σ mc = 3) (hk : gc σ mk = 4) : AgD σ (rwσ σ mk Tn Pn z u) mc := by
  have a1 := nT_d (Tn := Tn) (k := 5) h hm hk
  have nmc : mc ≠ hs σ := h.ne (by omega)
  refine a1.tr ⟨fun a ha => ?_, ?_⟩ (fun a ha => by rw [nT_gc, if_neg (h.ne (by omega))]; exact ha)
  · unfold rwσ
    refine ⟨?_, ?_, ?_, ?_, ?_, ?_, ?_⟩
    · rw [q_gp_sp, if_neg (by omega), q_gp_na, q_gp_si, q_gp_si]
    · rw [q_gi_sp, q_gi_na, q_gi_si, if_neg (by omega), q_gi_si, if_neg (by omega)]
    · rw [q_gp_sp, if_neg (by omega), q_gp_na, q_gp_si, q_gp_si]
    · rw [q_gp_sp, if_neg (by omega), q_gp_na, q_gp_si, q_gp_si]
    · rw [q_gp_sp, if_neg (by omega), q_gp_na, q_gp_si, q_gp_si]
    · rw [q_gp_sp, if_neg (by omega), q_gp_na, q_gp_si, q_gp_si]
    · rw [q_gj_sp, q_gj_na, q_gj_si, q_gj_si]
  · unfold rwσ
    refine ⟨?_, ?_, ?_, ?_, ?_⟩
    · rw [q_gp_sp, if_neg (by omega), q_gp_na, q_gp_si, q_gp_si]
    all_goals rw [q_gi_sp, q_gi_na, q_gi_si, if_neg (by omega), q_gi_si, if_neg (by omega)]
theorem rw_at {z : Nat} {u : Int32} (hn : mk ≠ hs σ) : gi (rwσ σ mk Tn Pn z u) 600 (hs σ) = nI Tn ∧ gi (rwσ σ mk Tn Pn z u) 601 (hs σ) = 5 ∧ gi (rwσ σ mk Tn Pn z u) 605 (hs σ) = u ∧ gp (rwσ σ mk Tn Pn z u) 606 (hs σ) = some (hs σ + 1) ∧ gi (rwσ σ mk Tn Pn z u) 300 mk = nI (Tn + 1) ∧ gi (rwσ σ mk Tn Pn z u) 301 mk = nI (Pn + z) ∧ gl (rwσ σ mk Tn Pn z u) (hs σ + 1) = z ∧ (∀ i, ap (rwσ σ mk Tn Pn z u) (hs σ + 1) i = none) := by
  obtain ⟨a1, a2, a3, a4, a5, a6, a7⟩ := nT_at (σ := σ) (Tn := Tn) (k := 5) hn
  unfold rwσ
  refine ⟨?_, ?_, ?_, ?_, ?_, ?_, ?_, fun i => ?_⟩
  · rw [q_gi_sp, q_gi_na, q_gi_si, if_neg (by omega), q_gi_si, if_neg (by omega)]; exact a1
  · rw [q_gi_sp, q_gi_na, q_gi_si, if_neg (by omega), q_gi_si, if_neg (by omega)]; exact a2
  · rw [q_gi_sp, q_gi_na, q_gi_si, if_pos ⟨rfl, rfl⟩]
  · rw [q_gp_sp, if_pos ⟨rfl, rfl⟩]
  · rw [q_gi_sp, q_gi_na, q_gi_si, if_neg (by omega), q_gi_si, if_neg (by omega)]; exact a6
  · rw [q_gi_sp, q_gi_na, q_gi_si, if_neg (by omega), q_gi_si, if_pos ⟨rfl, rfl⟩]
  · rw [q_gl_sp, q_gl_na, q_hs_si, q_hs_si, nT_hs, if_pos rfl]
  · rw [q_ap_sp, q_ap_na, q_hs_si, q_hs_si, nT_hs, if_pos rfl]
theorem CR.row (h : CR d σ μ x pg mc mk sa ls es Fr F N Tn Pn) (hT : Tn < 50000) {z : Nat} (hz : Pn + z ≤ 20000) {u : Int32} (hu : u = 0 ∨ u = 1 ∨ u = 2) : CR d (rwσ σ mk Tn Pn z u) (rwμ μ Tn Pn z u) x pg mc mk sa ls es Fr F N (Tn + 1) (Pn + z) := by
  obtain ⟨hC, hZ, hF, hN, hG, hS⟩ := id h
  have hmk : gc σ mk = 4 := hC.2.2.2.1
  have hmc : gc σ mc = 3 := hC.2.1
  have hsa : gc σ sa = 12 := hC.2.2.2.2.2.1
  have nmk : mk ≠ hs σ := hZ.ne (by omega)
  have nmc : mc ≠ hs σ := hZ.ne (by omega)
  have h0 := hZ.hs0
  have h01 : gc σ (hs σ + 1) = 0 := by
    by_cases q : gc σ (hs σ + 1) = 0
    · exact q
    · have := hZ _ q; omega
  have old : ∀ c, gc σ c ≠ 0 → c ≠ hs σ ∧ c ≠ hs σ + 1 := fun c e => by have := hZ c e; omega
  have hg : ∀ c, gc σ c = 7 → gc (rwσ σ mk Tn Pn z u) c = 7 ∧ gi (rwσ σ mk Tn Pn z u) 600 c = gi σ 600 c := fun c e => ⟨by rw [rw_gc, if_neg (old c (by omega)).2, if_neg (old c (by omega)).1]; exact e, (rw_old hmk e (old c (by omega)).1).1⟩
  obtain ⟨a1, a2, a3, a4, a5, a6, a7, a8⟩ := rw_at (σ := σ) (Tn := Tn) (Pn := Pn) (z := z) (u := u) nmk
  have e4 : mI (rwμ μ Tn Pn z u) 4 Tn = 5 := by rw [rwμ_I]; simp
  have e5 : mI (rwμ μ Tn Pn z u) 5 Tn = nI z := by rw [rwμ_I]; simp
  have e6 : mI (rwμ μ Tn Pn z u) 6 Tn = u := by rw [rwμ_I]; simp
  have e7 : mJ (rwμ μ Tn Pn z u) 7 Tn = lN Pn := by rw [rwμ_J]; simp
  refine h.mk (rw_o hZ) ⟨by rw [rwμ_S]; simp, fun i => by simp [rwμ_I, rwμ_J]⟩ ?_ ?_
  · refine hG.new (a0 := hs σ) hT (by omega) hz (by omega) (fun c => ?_) (fun c e => rw_old hmk e (old c (by omega)).1) (fun q e => ?_) a1 (fun q e => ?_) (by rw [rwμ_S]; simp) (by rw [rwμ_S]; simp) (fun i hi => ?_) (fun j hj => ?_) ?_ (fun _ _ => ?_)
    · rw [rw_gc]
      by_cases e1 : c = hs σ + 1
      · rw [if_pos e1]
        constructor
        · intro q; omega
        · intro q
          rcases q with q | q
          · rw [e1] at q; omega
          · omega
      · rw [if_neg e1]
        by_cases e2 : c = hs σ
        · rw [if_pos e2]; exact ⟨fun _ => Or.inr e2, fun _ => rfl⟩
        · rw [if_neg e2]; exact ⟨fun q => Or.inl q, fun q => by rcases q with q | q; exact q; exact absurd q e2⟩
    · exact ⟨by rw [rw_gc, if_neg (old q (by omega)).2, if_neg (old q (by omega)).1], ((rw_o hZ).2.1 q (by omega)).2, fun j => rw_ap hZ q j (by omega)⟩
    · rw [a4] at e
      cases e
      exact ⟨by omega, fun q => (old sa (by omega)).2 q.symm, by rw [rw_gc, if_pos rfl]⟩
    · have hne : i ≠ Tn := by omega
      simp [rwμ_I, rwμ_J, hne]
    · rw [rwμ_I, if_neg (by omega), if_neg (by omega), if_neg (by omega), if_neg (by omega)]
    · refine ⟨by rw [a2, e4], Or.inr (Or.inr (Or.inr (Or.inr ⟨e4, z, Pn, hs σ + 1, e5, e7, by omega, a4, by rw [rw_gc, if_pos rfl], a7, by rw [a3, e6], by rw [e6]; exact hu, fun j hj => ?_⟩)))⟩
      rw [a8, rwμ_I, if_pos (by omega)]
      exact pr.nl
    · have r1 : rb (rwμ μ Tn Pn z u) Tn = Pn := by unfold rb; rw [e7, lN_i, nI_clamp (by omega)]
      have r2 : rz (rwμ μ Tn Pn z u) Tn = z := by unfold rz; rw [e5, nI_clamp (by omega)]
      omega
  · have hd := rw_o (mk := mk) (Tn := Tn) (Pn := Pn) (z := z) (u := u) hZ
    refine hS.new a5 a6 (fun i => rw_ap hZ sa i (by omega)) ?_ ?_ ⟨fun i => by simp [rwμ_I], by rw [rwμ_S]; simp, by rw [rwμ_S]; simp⟩ hg
    · unfold rwσ
      rw [q_gp_sp, if_neg (by omega), q_gp_na, q_gp_si, q_gp_si]
      simp [nT, q_hs_si, q_gc_si, q_gi_si, q_gj_si, q_gp_si, q_gl_si, q_ai_si, q_aj_si, q_ap_si, q_hs_sj, q_gc_sj, q_gi_sj, q_gj_sj, q_gp_sj, q_gl_sj, q_ai_sj, q_aj_sj, q_ap_sj, q_hs_sp, q_gc_sp, q_gi_sp, q_gj_sp, q_gp_sp, q_gl_sp, q_ai_sp, q_aj_sp, q_ap_sp, q_hs_wi, q_gc_wi, q_gi_wi, q_gj_wi, q_gp_wi, q_gl_wi, q_ai_wi, q_aj_wi, q_ap_wi, q_hs_wj, q_gc_wj, q_gi_wj, q_gj_wj, q_gp_wj, q_gl_wj, q_ai_wj, q_aj_wj, q_ap_wj, q_hs_wp, q_gc_wp, q_gi_wp, q_gj_wp, q_gp_wp, q_gl_wp, q_ai_wp, q_aj_wp, q_ap_wp, q_hs_wr, q_gc_wr, q_gi_wr, q_gj_wr, q_gp_wr, q_gl_wr, q_ai_wr, q_aj_wr, q_ap_wr, q_hs_nw, q_gc_nw, q_gi_nw, q_gj_nw, q_gp_nw, q_gl_nw, q_ai_nw, q_aj_nw, q_ap_nw, q_hs_na, q_gc_na, q_gi_na, q_gj_na, q_gp_na, q_gl_na, q_ai_na, q_aj_na, q_ap_na, nmc]
    · unfold rwσ
      rw [q_gp_sp, if_neg (by omega), q_gp_na, q_gp_si, q_gp_si]
      simp [nT, q_hs_si, q_gc_si, q_gi_si, q_gj_si, q_gp_si, q_gl_si, q_ai_si, q_aj_si, q_ap_si, q_hs_sj, q_gc_sj, q_gi_sj, q_gj_sj, q_gp_sj, q_gl_sj, q_ai_sj, q_aj_sj, q_ap_sj, q_hs_sp, q_gc_sp, q_gi_sp, q_gj_sp, q_gp_sp, q_gl_sp, q_ai_sp, q_aj_sp, q_ap_sp, q_hs_wi, q_gc_wi, q_gi_wi, q_gj_wi, q_gp_wi, q_gl_wi, q_ai_wi, q_aj_wi, q_ap_wi, q_hs_wj, q_gc_wj, q_gi_wj, q_gj_wj, q_gp_wj, q_gl_wj, q_ai_wj, q_aj_wj, q_ap_wj, q_hs_wp, q_gc_wp, q_gi_wp, q_gj_wp, q_gp_wp, q_gl_wp, q_ai_wp, q_aj_wp, q_ap_wp, q_hs_wr, q_gc_wr, q_gi_wr, q_gj_wr, q_gp_wr, q_gl_wr, q_ai_wr, q_aj_wr, q_ap_wr, q_hs_nw, q_gc_nw, q_gi_nw, q_gj_nw, q_gp_nw, q_gl_nw, q_ai_nw, q_aj_nw, q_ap_nw, q_hs_na, q_gc_na, q_gi_na, q_gj_na, q_gp_na, q_gl_na, q_ai_na, q_aj_na, q_ap_na, nmc]
end ROW
