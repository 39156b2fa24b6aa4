/-- what is the reference's stands as it was -/
def KM (σ τ : Sg) : Prop := hs σ ≤ hs τ ∧ ∀ a, a < hs σ → gc τ a = gc σ a ∧ gl τ a = gl σ a ∧ (∀ i, ai τ a i = ai σ a i) ∧ (∀ i, aj τ a i = aj σ a i) ∧ ∀ f, 800 ≤ f → gi τ f a = gi σ f a ∧ gp τ f a = gp σ f a
theorem KM.rf {σ : Sg} : KM σ σ := ⟨Nat.le_refl _, fun _ _ => ⟨rfl, rfl, fun _ => rfl, fun _ => rfl, fun _ _ => ⟨rfl, rfl⟩⟩⟩
theorem KM.tr {σ τ ρ : Sg} (h : KM σ τ) (k : KM τ ρ) : KM σ ρ := ⟨Nat.le_trans h.1 k.1, fun a ha => by
  obtain ⟨h1, h2, h3, h4, h5⟩ := h.2 a ha
  obtain ⟨k1, k2, k3, k4, k5⟩ := k.2 a (Nat.lt_of_lt_of_le ha h.1)
  exact ⟨k1.trans h1, k2.trans h2, fun i => (k3 i).trans (h3 i), fun i => (k4 i).trans (h4 i), fun f hf => ⟨(k5 f hf).1.trans (h5 f hf).1, (k5 f hf).2.trans (h5 f hf).2⟩⟩⟩
theorem KM.si {σ τ : Sg} (h : KM σ τ) {f a : Nat} {v : Int32} (hf : f < 800) : KM σ (si τ f a v) := h.tr ⟨Nat.le_refl _, fun b hb => ⟨rfl, rfl, fun _ => rfl, fun _ => rfl, fun g hg => ⟨by rw [q_gi_si, if_neg (by omega)], rfl⟩⟩⟩
theorem KM.sj {σ τ : Sg} (h : KM σ τ) {f a : Nat} {v : Int64} : KM σ (sj τ f a v) := h.tr ⟨Nat.le_refl _, fun b hb => ⟨rfl, rfl, fun _ => rfl, fun _ => rfl, fun g hg => ⟨rfl, rfl⟩⟩⟩
theorem KM.sp {σ τ : Sg} (h : KM σ τ) {f a : Nat} {v : Option Nat} (hf : f < 800) : KM σ (sp τ f a v) := h.tr ⟨Nat.le_refl _, fun b hb => ⟨rfl, rfl, fun _ => rfl, fun _ => rfl, fun g hg => ⟨rfl, by rw [q_gp_sp, if_neg (by omega)]⟩⟩⟩
theorem KM.wp {σ τ : Sg} (h : KM σ τ) {f a : Nat} {v : Option Nat} : KM σ (wp τ f a v) := h.tr ⟨Nat.le_refl _, fun b hb => ⟨rfl, rfl, fun _ => rfl, fun _ => rfl, fun g hg => ⟨rfl, rfl⟩⟩⟩
theorem KM.wr {σ τ : Sg} (h : KM σ τ) {a : Nat} {v : Nat → Option Nat} : KM σ (wr τ a v) := h.tr ⟨Nat.le_refl _, fun b hb => ⟨rfl, rfl, fun _ => rfl, fun _ => rfl, fun g hg => ⟨rfl, rfl⟩⟩⟩
theorem KM.nw {σ τ : Sg} (h : KM σ τ) {c : Nat} : KM σ (nw τ c) := h.tr ⟨by rw [q_hs_nw]; omega, fun b hb => ⟨by rw [q_gc_nw, if_neg (by omega)], rfl, fun _ => rfl, fun _ => rfl, fun g hg => ⟨by rw [q_gi_nw, if_neg (by omega)], by rw [q_gp_nw, if_neg (by omega)]⟩⟩⟩
theorem KM.na {σ τ : Sg} (h : KM σ τ) {c N : Nat} : KM σ (na τ c N) := h.tr ⟨by rw [q_hs_na]; omega, fun b hb => ⟨by rw [q_gc_na, if_neg (by omega)], by rw [q_gl_na, if_neg (by omega)], fun _ => by rw [q_ai_na, if_neg (by omega)], fun _ => by rw [q_aj_na, if_neg (by omega)], fun g hg => ⟨rfl, rfl⟩⟩⟩
def K2 {α : Type} (σ : Sg) (o : Option (α × Sg)) : Prop := ∀ r τ, o = some (r, τ) → KM σ τ
def K4 {α : Type} (σ : Sg) (o : Option (α × Sg × Nat × Nat)) : Prop := ∀ r τ k n, o = some (r, τ, k, n) → KM σ τ
section KM1
variable {α β : Type} {σ s : Sg}
theorem K2_none : K2 (α := α) σ none := fun _ _ h => by cases h
theorem K4_none : K4 (α := α) σ none := fun _ _ _ _ h => by cases h
theorem K2_some {τ : Sg} {r : α} (h : KM σ τ) : K2 σ (some (r, τ)) := fun _ _ e => by cases e; exact h
theorem K4_some {τ : Sg} {r : α} {k n : Nat} (h : KM σ τ) : K4 σ (some (r, τ, k, n)) := fun _ _ _ _ e => by cases e; exact h
theorem K2_tr {o : Option (α × Sg)} (h : K2 s o) (k : KM σ s) : K2 σ o := fun r τ e => k.tr (h r τ e)
theorem K4_tr {o : Option (α × Sg × Nat × Nat)} (h : K4 s o) (k : KM σ s) : K4 σ o := fun r τ a b e => k.tr (h r τ a b e)
theorem K2_bind {q : Option Nat} {f : Nat → Option (α × Sg)} (h : ∀ a, K2 σ (f a)) : K2 σ (Option.bind q f) := by
  cases q with
  | none => exact K2_none
  | some a => exact h a
theorem K4_bind {q : Option Nat} {f : Nat → Option (α × Sg × Nat × Nat)} (h : ∀ a, K4 σ (f a)) : K4 σ (Option.bind q f) := by
  cases q with
  | none => exact K4_none
  | some a => exact h a
theorem K22 {q : Option (β × Sg)} {f : β → Sg → Option (α × Sg)} (h : K2 s q) (k : KM σ s) (g : ∀ r t, KM σ t → K2 σ (f r t)) : K2 σ (b2 q f) := by
  cases q with
  | none => exact K2_none
  | some a => exact g a.1 a.2 (k.tr (h a.1 a.2 rfl))
theorem K24 {q : Option (β × Sg)} {f : β → Sg → Option (α × Sg × Nat × Nat)} (h : K2 s q) (k : KM σ s) (g : ∀ r t, KM σ t → K4 σ (f r t)) : K4 σ (b2 q f) := by
  cases q with
  | none => exact K4_none
  | some a => exact g a.1 a.2 (k.tr (h a.1 a.2 rfl))
theorem K44 {q : Option (β × Sg × Nat × Nat)} {f : β → Sg → Nat → Nat → Option (α × Sg × Nat × Nat)} (h : K4 s q) (k : KM σ s) (g : ∀ r t a b, KM σ t → K4 σ (f r t a b)) : K4 σ (b4 q f) := by
  cases q with
  | none => exact K4_none
  | some a => exact g a.1 a.2.1 a.2.2.1 a.2.2.2 (k.tr (h a.1 a.2.1 a.2.2.1 a.2.2.2 rfl))
end KM1
section KM2
variable {α : Type} {σ : Sg} {c : Prop}
theorem K2_ite (i : Decidable c) {a b : Option (α × Sg)} (h : K2 σ a) (k : K2 σ b) : K2 σ (@ite _ c i a b) := by
  by_cases e : c
  · rw [if_pos e]; exact h
  · rw [if_neg e]; exact k
theorem K4_ite (i : Decidable c) {a b : Option (α × Sg × Nat × Nat)} (h : K4 σ a) (k : K4 σ b) : K4 σ (@ite _ c i a b) := by
  by_cases e : c
  · rw [if_pos e]; exact h
  · rw [if_neg e]; exact k
end KM2
theorem km_ex_X0_init (d : Dp) (σ : Sg) (h0 : Nat) (q1 : Option Nat) (p2 : Int32) : K2 σ (ex_X0_init d σ h0 q1 p2) := by
  unfold ex_X0_init
  exact (K2_ite _ (K2_some (KM.si (KM.sp KM.rf (by omega)) (by omega))) K2_none)
theorem km_ex_X0_within (d : Dp) (σ : Sg) (h0 : Nat) : K4 σ (ex_X0_within d σ h0) := by
  unfold ex_X0_within
  exact (K4_ite _ (K4_ite _ (K4_ite _ (K24 (km_ex_X0_init _ _ _ _ _) (KM.nw KM.rf) (fun _ _ q1 => (K4_ite _ (K4_some (KM.sp q1 (by omega))) K4_none))) K4_none) (K4_some KM.rf)) K4_none)
theorem km_ex_X0_begin (d : Dp) (σ : Sg) (h0 : Nat) (q1 : Option Nat) : K2 σ (ex_X0_begin d σ h0 q1) := by
  unfold ex_X0_begin
  exact (K2_ite _ (K2_some (KM.sj (KM.sp (KM.sp (KM.sp (KM.sp (KM.si (KM.sp KM.rf (by omega)) (by omega)) (by omega)) (by omega)) (by omega)) (by omega)))) K2_none)
theorem km_ex_X0_receive (d : Dp) (σ : Sg) (h0 : Nat) (q1 : Option Nat) : K2 σ (ex_X0_receive d σ h0 q1) := by
  unfold ex_X0_receive
  exact (K2_ite _ (K2_ite _ (K2_some (KM.sp (KM.sp KM.rf (by omega)) (by omega))) (K2_ite _ (K2_some (KM.sp (KM.sp KM.rf (by omega)) (by omega))) (K2_some (KM.sp (KM.sp KM.rf (by omega)) (by omega))))) K2_none)
theorem km_ex_Jxa1e45_init_da8c8 (d : Dp) (σ : Sg) (h0 : Nat) : K2 σ (ex_Jxa1e45_init_da8c8 d σ h0) := by
  unfold ex_Jxa1e45_init_da8c8
  exact (K2_some KM.rf)
theorem km_ex_Jxc12de_init_da8c8 (d : Dp) (σ : Sg) (h0 : Nat) : K2 σ (ex_Jxc12de_init_da8c8 d σ h0) := by
  unfold ex_Jxc12de_init_da8c8
  exact (K22 (km_ex_Jxa1e45_init_da8c8 _ _ _) KM.rf (fun _ _ q2 => (K2_ite _ (K2_some (KM.si q2 (by omega))) K2_none)))
theorem km_ex_Jx4a65c_init_da8c8 (d : Dp) (σ : Sg) (h0 : Nat) : K2 σ (ex_Jx4a65c_init_da8c8 d σ h0) := by
  unfold ex_Jx4a65c_init_da8c8
  exact (K22 (km_ex_Jxc12de_init_da8c8 _ _ _) KM.rf (fun _ _ q3 => (K2_ite _ (K2_some (KM.sp q3 (by omega))) K2_none)))
theorem km_ex_X2_init (d : Dp) (σ : Sg) (h0 : Nat) : K2 σ (ex_X2_init d σ h0) := by
  unfold ex_X2_init
  exact (K2_some KM.rf)
theorem km_ex_X1_isSlot (d : Dp) (σ : Sg) (h0 : Nat) (p1 : Int32) : K2 σ (ex_X1_isSlot d σ h0 p1) := by
  unfold ex_X1_isSlot
  exact (K2_ite _ (K2_some KM.rf) (K2_ite _ (K2_some KM.rf) (K2_some KM.rf)))
theorem km_ex_X1_canSee (d : Dp) (σ : Sg) (h0 : Nat) (p1 : Int32) : K2 σ (ex_X1_canSee d σ h0 p1) := by
  unfold ex_X1_canSee
  exact (K2_ite _ (K2_some KM.rf) (K2_ite _ (K22 (km_ex_X1_isSlot _ _ _ _) KM.rf (fun _ _ q4 => (K2_ite _ (K2_some q4) (K2_some q4)))) K2_none))
theorem km_ex_X1_seenAt (d : Dp) (σ : Sg) (h0 : Nat) (p1 : Int32) : K2 σ (ex_X1_seenAt d σ h0 p1) := by
  unfold ex_X1_seenAt
  exact (K2_ite _ (K2_ite _ (K2_some KM.rf) K2_none) (K2_ite _ (K22 (km_ex_X1_isSlot _ _ _ _) KM.rf (fun _ _ q5 => (K2_ite _ (K2_some q5) (K2_ite _ (K2_bind (fun _ => (K2_ite _ (K2_ite _ (K2_some q5) K2_none) K2_none))) K2_none)))) K2_none))
theorem km_lp_X1_forget : ∀ (f : Nat) (d : Dp) (σ : Sg) (h0 : Nat) (v1 : Int32), K2 σ (lp_X1_forget f d σ h0 v1) := by
  intro f
  induction f with
  | zero => intro d σ h0 v1; rw [lp_X1_forget]; exact K2_none
  | succ f ih =>
    intro d σ h0 v1
    rw [lp_X1_forget]
    exact (K2_ite _ (K2_ite _ (K2_some (KM.sp (KM.sp KM.rf (by omega)) (by omega))) K2_none) (K2_ite _ (K2_bind (fun _ => (K2_ite _ (K2_ite _ (K2_tr (ih _ _ _ _) (KM.wp KM.rf)) K2_none) K2_none))) K2_none))
theorem km_ex_X1_forget (d : Dp) (σ : Sg) (h0 : Nat) : K2 σ (ex_X1_forget d σ h0) := by
  unfold ex_X1_forget
  exact (K2_tr (km_lp_X1_forget _ _ _ _ _) KM.rf)
theorem km_ex_X1_clearFault (d : Dp) (σ : Sg) (h0 : Nat) : K2 σ (ex_X1_clearFault d σ h0) := by
  unfold ex_X1_clearFault
  exact (K2_ite _ (K2_some (KM.si (KM.si KM.rf (by omega)) (by omega))) K2_none)
theorem km_ex_X1_failAt (d : Dp) (σ : Sg) (h0 : Nat) (p1 : Int32) (p2 : Int32) : K2 σ (ex_X1_failAt d σ h0 p1 p2) := by
  unfold ex_X1_failAt
  exact (K2_ite _ (K2_some (KM.si (KM.si KM.rf (by omega)) (by omega))) K2_none)
theorem km_ex_X1_open (d : Dp) (σ : Sg) (h0 : Nat) (q1 : Option Nat) : K4 σ (ex_X1_open d σ h0 q1) := by
  unfold ex_X1_open
  exact (K4_ite _ (K4_ite _ (K4_bind (fun _ => (K4_ite _ (K4_ite _ (K44 (km_ex_X0_within _ _ _) (KM.si KM.rf (by omega)) (fun _ _ _ _ q6 => (K4_ite _ (K4_bind (fun _ => (K4_ite _ (K24 (km_ex_X0_begin _ _ _ _) (KM.sp q6 (by omega)) (fun _ _ q7 => (K4_some q7))) K4_none))) K4_none))) (K4_bind (fun _ => (K4_ite _ (K24 (km_ex_X1_failAt _ _ _ _ _) (KM.si KM.rf (by omega)) (fun _ _ q8 => (K4_some q8))) K4_none)))) K4_none))) (K4_some (KM.si KM.rf (by omega)))) K4_none)
theorem km_ex_X1_begin (d : Dp) (σ : Sg) (h0 : Nat) (q1 : Option Nat) (p2 : Int32) : K4 σ (ex_X1_begin d σ h0 q1 p2) := by
  unfold ex_X1_begin
  exact (K4_ite _ (K24 (km_ex_X1_clearFault _ _ _) (KM.si (KM.si (KM.si KM.rf (by omega)) (by omega)) (by omega)) (fun _ _ q9 => (K4_ite _ (K4_bind (fun _ => (K4_ite _ (K24 (km_ex_X0_begin _ _ _ _) (KM.sp q9 (by omega)) (fun _ _ q10 => (K4_ite _ (K4_ite _ (K24 (km_ex_X1_failAt _ _ _ _ _) (KM.sp q10 (by omega)) (fun _ _ q11 => (K4_some q11))) (K44 (km_ex_X1_open _ _ _ _) (KM.sp q10 (by omega)) (fun _ _ _ _ q12 => (K4_some q12)))) K4_none))) K4_none))) K4_none))) K4_none)
theorem km_ex_X1_isAtWork (d : Dp) (σ : Sg) (h0 : Nat) : K2 σ (ex_X1_isAtWork d σ h0) := by
  unfold ex_X1_isAtWork
  exact (K2_ite _ (K2_bind (fun _ => (K2_ite _ (K2_ite _ (K2_some KM.rf) (K2_ite _ (K2_some KM.rf) (K2_some KM.rf))) K2_none))) K2_none)
theorem km_ex_X3_get (d : Dp) (σ : Sg) (h0 : Nat) (p1 : Int32) : K2 σ (ex_X3_get d σ h0 p1) := by
  unfold ex_X3_get
  exact (K2_ite _ (K2_ite _ (K2_some KM.rf) K2_none) (K2_ite _ (K2_ite _ (K2_some KM.rf) K2_none) (K2_ite _ (K2_some KM.rf) K2_none)))
theorem km_ex_X1_takesFault (d : Dp) (σ : Sg) (h0 : Nat) (q1 : Option Nat) : K2 σ (ex_X1_takesFault d σ h0 q1) := by
  unfold ex_X1_takesFault
  exact (K2_bind (fun _ => (K2_ite _ (K2_bind (fun _ => (K2_ite _ (K2_ite _ (K2_ite _ (K22 (km_ex_X3_get _ _ _ _) KM.rf (fun _ _ q13 => (K2_ite _ (K2_some q13) (K2_ite _ (K2_ite _ (K2_some q13) (K2_some q13)) K2_none)))) (K2_some KM.rf)) (K2_some KM.rf)) K2_none))) K2_none)))
theorem km_ex_X5_init (d : Dp) (σ : Sg) (h0 : Nat) (p1 : Int32) (p2 : Int32) : K2 σ (ex_X5_init d σ h0 p1 p2) := by
  unfold ex_X5_init
  exact (K2_ite _ (K2_some (KM.si (KM.si KM.rf (by omega)) (by omega))) K2_none)
theorem km_ex_X2_withValue (d : Dp) (σ : Sg) (h0 : Nat) (p1 : Int32) (p2 : Int64) : K4 σ (ex_X2_withValue d σ h0 p1 p2) := by
  unfold ex_X2_withValue
  exact (K4_ite _ (K24 (km_ex_X5_init _ _ _ _ _) (KM.si (KM.nw KM.rf) (by omega)) (fun _ _ q14 => (K4_ite _ (K4_some (KM.sj q14)) K4_none))) K4_none)
theorem km_ex_Jx4a65c_size_8abf5 (d : Dp) (σ : Sg) (h0 : Nat) : K2 σ (ex_Jx4a65c_size_8abf5 d σ h0) := by
  unfold ex_Jx4a65c_size_8abf5
  exact (K2_ite _ (K2_some KM.rf) K2_none)
theorem km_ex_J3_checkIndex_8e157 (d : Dp) (σ : Sg) (p1 : Int32) (p2 : Int32) (q3 : Option Nat) : K2 σ (ex_J3_checkIndex_8e157 d σ p1 p2 q3) := by
  unfold ex_J3_checkIndex_8e157
  exact (K2_ite _ K2_none (K2_ite _ (K2_some KM.rf) K2_none))
theorem km_ex_J15_checkIndex_7cf53 (d : Dp) (σ : Sg) (p1 : Int32) (p2 : Int32) : K2 σ (ex_J15_checkIndex_7cf53 d σ p1 p2) := by
  unfold ex_J15_checkIndex_7cf53
  exact (K22 (km_ex_J3_checkIndex_8e157 _ _ _ _ _) KM.rf (fun _ _ q15 => (K2_some q15)))
theorem km_ex_Jx4a65c_elementData_915e3 (d : Dp) (σ : Sg) (h0 : Nat) (p1 : Int32) : K2 σ (ex_Jx4a65c_elementData_915e3 d σ h0 p1) := by
  unfold ex_Jx4a65c_elementData_915e3
  exact (K2_ite _ (K2_bind (fun _ => (K2_ite _ (K2_ite _ (K2_some KM.rf) K2_none) K2_none))) K2_none)
theorem km_ex_Jx4a65c_get_915e3 (d : Dp) (σ : Sg) (h0 : Nat) (p1 : Int32) : K2 σ (ex_Jx4a65c_get_915e3 d σ h0 p1) := by
  unfold ex_Jx4a65c_get_915e3
  exact (K2_ite _ (K22 (km_ex_J15_checkIndex_7cf53 _ _ _ _) KM.rf (fun _ _ q16 => (K2_ite _ (K22 (km_ex_Jx4a65c_elementData_915e3 _ _ _ _) q16 (fun _ _ q17 => (K2_some q17))) K2_none))) K2_none)
theorem km_ex_X4_at (d : Dp) (σ : Sg) (h0 : Nat) (p1 : Int32) : K2 σ (ex_X4_at d σ h0 p1) := by
  unfold ex_X4_at
  exact (K2_ite _ (K2_some KM.rf) (K2_ite _ (K2_bind (fun _ => (K2_ite _ (K22 (km_ex_Jx4a65c_size_8abf5 _ _ _) KM.rf (fun _ _ q18 => (K2_ite _ (K2_some q18) (K2_ite _ (K2_bind (fun _ => (K2_ite _ (K22 (km_ex_Jx4a65c_get_915e3 _ _ _ _) q18 (fun _ _ q19 => (K2_ite _ (K2_some q19) K2_none))) K2_none))) K2_none)))) K2_none))) K2_none))
theorem km_ex_X1_workPart (d : Dp) (σ : Sg) (h0 : Nat) (q1 : Option Nat) (p2 : Int32) : K4 σ (ex_X1_workPart d σ h0 q1 p2) := by
  unfold ex_X1_workPart
  exact (K4_bind (fun _ => (K4_ite _ (K4_ite _ (K4_bind (fun _ => (K4_ite _ (K24 (km_ex_X3_get _ _ _ _) (KM.si KM.rf (by omega)) (fun _ _ q20 => (K4_bind (fun _ => (K4_ite _ (K24 (km_ex_X4_at _ _ _ _) q20 (fun _ _ q21 => (K4_ite _ (K4_ite _ (K4_bind (fun _ => (K4_ite _ (K4_ite _ (K24 (km_ex_X1_failAt _ _ _ _ _) q21 (fun _ _ q22 => (K4_some q22))) K4_none) K4_none))) K4_none) (K4_ite _ (K44 (km_ex_X1_open _ _ _ _) q21 (fun _ _ _ _ q23 => (K4_some q23))) K4_none)))) K4_none))))) K4_none))) K4_none) K4_none)))
theorem km_ex_X1_passFault (d : Dp) (σ : Sg) (h0 : Nat) (q1 : Option Nat) : K4 σ (ex_X1_passFault d σ h0 q1) := by
  unfold ex_X1_passFault
  exact (K4_ite _ (K24 (km_ex_X1_takesFault _ _ _ _) KM.rf (fun _ _ q24 => (K4_ite _ (K4_bind (fun _ => (K4_ite _ (K4_ite _ (K4_some (KM.sp q24 (by omega))) K4_none) K4_none))) (K4_ite _ (K4_bind (fun _ => (K4_ite _ (K44 (km_ex_X2_withValue _ _ _ _ _) q24 (fun _ _ _ _ q25 => (K4_bind (fun _ => (K4_ite _ (K4_ite _ (K4_ite _ (K4_ite _ (K24 (km_ex_X1_clearFault _ _ _) (KM.wp q25) (fun _ _ q26 => (K4_ite _ (K44 (km_ex_X1_workPart _ _ _ _ _) q26 (fun _ _ _ _ q27 => (K4_some q27))) K4_none))) K4_none) K4_none) K4_none) K4_none))))) K4_none))) K4_none)))) K4_none)
theorem km_ex_X5_isA (d : Dp) (σ : Sg) (h0 : Nat) (p1 : Int32) : K2 σ (ex_X5_isA d σ h0 p1) := by
  unfold ex_X5_isA
  exact (K2_ite _ (K2_ite _ (K2_some KM.rf) (K2_ite _ (K2_ite _ (K2_some KM.rf) (K2_some KM.rf)) (K2_some KM.rf))) K2_none)
theorem km_ex_X1_lacks (d : Dp) (σ : Sg) (h0 : Nat) (q1 : Option Nat) (q2 : Option Nat) (p3 : Int32) : K2 σ (ex_X1_lacks d σ h0 q1 q2 p3) := by
  unfold ex_X1_lacks
  exact (K2_ite _ (K2_bind (fun _ => (K2_ite _ (K2_bind (fun _ => (K2_ite _ (K2_ite _ (K22 (km_ex_X1_failAt _ _ _ _ _) KM.rf (fun _ _ q28 => (K2_some q28))) K2_none) K2_none))) K2_none))) (K2_bind (fun _ => (K2_ite _ (K22 (km_ex_X5_isA _ _ _ _) KM.rf (fun _ _ q29 => (K2_ite _ (K2_bind (fun _ => (K2_ite _ (K2_bind (fun _ => (K2_ite _ (K2_ite _ (K22 (km_ex_X1_failAt _ _ _ _ _) q29 (fun _ _ q30 => (K2_some q30))) K2_none) K2_none))) K2_none))) (K2_some q29)))) K2_none))))
theorem km_ex_X1_nextOfIf (d : Dp) (σ : Sg) (h0 : Nat) (q1 : Option Nat) : K2 σ (ex_X1_nextOfIf d σ h0 q1) := by
  unfold ex_X1_nextOfIf
  exact (K2_bind (fun _ => (K2_ite _ (K2_ite _ (K2_some KM.rf) (K2_ite _ (K2_ite _ (K22 (km_ex_X1_lacks _ _ _ _ _ _) KM.rf (fun _ _ q31 => (K2_ite _ (K2_ite _ (K2_bind (fun _ => (K2_ite _ (K2_ite _ (K2_some q31) (K2_some q31)) K2_none))) K2_none) (K2_some q31)))) K2_none) (K2_some KM.rf))) K2_none)))
theorem km_ex_X1_nextOfTimes (d : Dp) (σ : Sg) (h0 : Nat) (q1 : Option Nat) : K2 σ (ex_X1_nextOfTimes d σ h0 q1) := by
  unfold ex_X1_nextOfTimes
  exact (K2_bind (fun _ => (K2_ite _ (K2_ite _ (K2_some KM.rf) (K2_ite _ (K2_ite _ (K22 (km_ex_X1_lacks _ _ _ _ _ _) KM.rf (fun _ _ q32 => (K2_ite _ (K2_ite _ (K2_bind (fun _ => (K2_ite _ (K2_ite _ (K2_some (KM.sj (KM.sp (KM.sj q32) (by omega)))) (K2_some (KM.sp (KM.sj q32) (by omega)))) K2_none))) K2_none) (K2_some q32)))) K2_none) (K2_ite _ (K2_some (KM.sj KM.rf)) (K2_some KM.rf)))) K2_none)))
theorem km_ex_X3_works (d : Dp) (σ : Sg) (h0 : Nat) (p1 : Int32) : K2 σ (ex_X3_works d σ h0 p1) := by
  unfold ex_X3_works
  exact (K2_ite _ (K2_ite _ (K2_ite _ (K2_some KM.rf) (K2_some KM.rf)) (K2_ite _ (K2_ite _ (K2_some KM.rf) (K2_ite _ (K2_some KM.rf) (K2_some KM.rf))) (K2_ite _ (K2_ite _ (K2_some KM.rf) (K2_some KM.rf)) (K2_ite _ (K2_ite _ (K2_some KM.rf) (K2_ite _ (K2_some KM.rf) (K2_some KM.rf))) (K2_ite _ (K2_some KM.rf) (K2_some KM.rf)))))) K2_none)
theorem km_lp_X1_nextInOrder : ∀ (f : Nat) (d : Dp) (σ : Sg) (h0 : Nat) (v1 : Option Nat) (v2 : Int32), K2 σ (lp_X1_nextInOrder f d σ h0 v1 v2) := by
  intro f
  induction f with
  | zero => intro d σ h0 v1 v2; rw [lp_X1_nextInOrder]; exact K2_none
  | succ f ih =>
    intro d σ h0 v1 v2
    rw [lp_X1_nextInOrder]
    exact (K2_ite _ (K2_some KM.rf) (K2_bind (fun _ => (K2_ite _ (K2_bind (fun _ => (K2_ite _ (K22 (km_ex_X3_works _ _ _ _) KM.rf (fun _ _ q33 => (K2_ite _ (K2_tr (ih _ _ _ _ _) q33) (K2_some q33)))) K2_none))) K2_none))))
theorem km_ex_X1_nextInOrder (d : Dp) (σ : Sg) (h0 : Nat) (q1 : Option Nat) : K2 σ (ex_X1_nextInOrder d σ h0 q1) := by
  unfold ex_X1_nextInOrder
  exact (K2_bind (fun _ => (K2_ite _ (K2_tr (km_lp_X1_nextInOrder _ _ _ _ _ _) KM.rf) K2_none)))
theorem km_ex_X1_nextPart (d : Dp) (σ : Sg) (h0 : Nat) (q1 : Option Nat) : K2 σ (ex_X1_nextPart d σ h0 q1) := by
  unfold ex_X1_nextPart
  exact (K2_bind (fun _ => (K2_ite _ (K2_bind (fun _ => (K2_ite _ (K2_ite _ (K2_ite _ (K2_some KM.rf) (K2_some KM.rf)) (K2_ite _ (K2_ite _ (K22 (km_ex_X1_nextOfIf _ _ _ _) KM.rf (fun _ _ q34 => (K2_some q34))) K2_none) (K2_ite _ (K2_ite _ (K22 (km_ex_X1_nextOfTimes _ _ _ _) KM.rf (fun _ _ q35 => (K2_some q35))) K2_none) (K2_ite _ (K22 (km_ex_X1_nextInOrder _ _ _ _) KM.rf (fun _ _ q36 => (K2_some q36))) K2_none)))) K2_none))) K2_none)))
theorem km_ex_X1_useSlot (d : Dp) (σ : Sg) (h0 : Nat) (q1 : Option Nat) : K2 σ (ex_X1_useSlot d σ h0 q1) := by
  unfold ex_X1_useSlot
  exact (K2_bind (fun _ => (K2_ite _ (K2_bind (fun _ => (K2_ite _ (K22 (km_ex_X3_get _ _ _ _) KM.rf (fun _ _ q37 => (K2_ite _ (K22 (km_ex_X1_isSlot _ _ _ _) q37 (fun _ _ q38 => (K2_ite _ (K2_ite _ (K2_bind (fun _ => (K2_ite _ (K2_ite _ (K22 (km_ex_X1_failAt _ _ _ _ _) q38 (fun _ _ q39 => (K2_some q39))) K2_none) K2_none))) K2_none) (K2_ite _ (K2_bind (fun _ => (K2_ite _ (K2_ite _ (K2_ite _ (K2_bind (fun _ => (K2_ite _ (K2_ite _ (K2_ite _ (K2_ite _ (K2_some (KM.wp q38)) K2_none) K2_none) K2_none) K2_none))) K2_none) (K2_ite _ (K2_bind (fun _ => (K2_ite _ (K2_ite _ (K2_some q38) K2_none) K2_none))) K2_none)) K2_none))) K2_none)))) K2_none))) K2_none))) K2_none)))
theorem km_ex_X2_withFields (d : Dp) (σ : Sg) (h0 : Nat) (p1 : Int32) (q2 : Option Nat) (q3 : Option Nat) : K4 σ (ex_X2_withFields d σ h0 p1 q2 q3) := by
  unfold ex_X2_withFields
  exact (K4_ite _ (K24 (km_ex_X5_init _ _ _ _ _) (KM.si (KM.nw KM.rf) (by omega)) (fun _ _ q40 => (K4_ite _ (K4_some (KM.sp (KM.sp q40 (by omega)) (by omega))) K4_none))) K4_none)
theorem km_ex_X1_field (d : Dp) (σ : Sg) (h0 : Nat) (q1 : Option Nat) : K2 σ (ex_X1_field d σ h0 q1) := by
  unfold ex_X1_field
  exact (K2_bind (fun _ => (K2_ite _ (K2_ite _ (K22 (km_ex_X1_lacks _ _ _ _ _ _) KM.rf (fun _ _ q41 => (K2_ite _ (K2_ite _ (K2_bind (fun _ => (K2_ite _ (K22 (km_ex_X3_get _ _ _ _) q41 (fun _ _ q42 => (K2_ite _ (K2_ite _ (K2_bind (fun _ => (K2_ite _ (K2_some q42) K2_none))) K2_none) (K2_ite _ (K2_bind (fun _ => (K2_ite _ (K2_some q42) K2_none))) K2_none)))) K2_none))) K2_none) (K2_some q41)))) K2_none) K2_none)))
theorem km_ex_X1_store (d : Dp) (σ : Sg) (h0 : Nat) (q1 : Option Nat) : K2 σ (ex_X1_store d σ h0 q1) := by
  unfold ex_X1_store
  exact (K2_bind (fun _ => (K2_ite _ (K2_ite _ (K22 (km_ex_X1_lacks _ _ _ _ _ _) KM.rf (fun _ _ q43 => (K2_ite _ (K2_ite _ (K2_bind (fun _ => (K2_ite _ (K22 (km_ex_X3_get _ _ _ _) q43 (fun _ _ q44 => (K2_ite _ (K2_ite _ (K2_bind (fun _ => (K2_ite _ (K2_some (KM.sp q44 (by omega))) K2_none))) K2_none) (K2_ite _ (K2_bind (fun _ => (K2_ite _ (K2_some (KM.sp q44 (by omega))) K2_none))) K2_none)))) K2_none))) K2_none) (K2_some q43)))) K2_none) K2_none)))
theorem km_ex_X1_side (d : Dp) (σ : Sg) (h0 : Nat) (q1 : Option Nat) : K2 σ (ex_X1_side d σ h0 q1) := by
  unfold ex_X1_side
  exact (K2_bind (fun _ => (K2_ite _ (K2_ite _ (K22 (km_ex_X1_lacks _ _ _ _ _ _) KM.rf (fun _ _ q45 => (K2_ite _ (K2_ite _ (K2_bind (fun _ => (K2_ite _ (K2_ite _ (K2_bind (fun _ => (K2_ite _ (K2_some q45) K2_none))) (K2_bind (fun _ => (K2_ite _ (K2_some q45) K2_none)))) K2_none))) K2_none) (K2_some q45)))) K2_none) K2_none)))
theorem km_ex_X1_reckon (d : Dp) (σ : Sg) (h0 : Nat) (q1 : Option Nat) (p2 : Int32) (q3 : Option Nat) : K4 σ (ex_X1_reckon d σ h0 q1 p2 q3) := by
  unfold ex_X1_reckon
  exact (K4_ite _ (K24 (km_ex_X1_lacks _ _ _ _ _ _) KM.rf (fun _ _ q46 => (K4_ite _ (K4_bind (fun _ => (K4_ite _ (K4_ite _ (K24 (km_ex_X1_lacks _ _ _ _ _ _) q46 (fun _ _ q47 => (K4_ite _ (K4_bind (fun _ => (K4_ite _ (K4_ite _ (K4_bind (fun _ => (K4_ite _ (K4_ite _ (K4_ite _ (K4_bind (fun _ => (K4_ite _ (K44 (km_ex_X2_withValue _ _ _ _ _) q47 (fun _ _ _ _ q48 => (K4_some q48))) K4_none))) K4_none) (K4_ite _ (K4_ite _ (K4_bind (fun _ => (K4_ite _ (K44 (km_ex_X2_withValue _ _ _ _ _) q47 (fun _ _ _ _ q49 => (K4_some q49))) K4_none))) K4_none) (K4_ite _ (K4_ite _ (K4_bind (fun _ => (K4_ite _ (K44 (km_ex_X2_withValue _ _ _ _ _) q47 (fun _ _ _ _ q50 => (K4_some q50))) K4_none))) K4_none) (K4_ite _ (K4_bind (fun _ => (K4_ite _ (K4_ite _ (K24 (km_ex_X1_failAt _ _ _ _ _) q47 (fun _ _ q51 => (K4_some q51))) K4_none) K4_none))) (K4_ite _ (K4_ite _ (K4_ite _ (K4_bind (fun _ => (K4_ite _ (K44 (km_ex_X2_withValue _ _ _ _ _) q47 (fun _ _ _ _ q52 => (K4_some q52))) K4_none))) K4_none) (K4_ite _ (K4_bind (fun _ => (K4_ite _ (K44 (km_ex_X2_withValue _ _ _ _ _) q47 (fun _ _ _ _ q53 => (K4_some q53))) K4_none))) K4_none)) K4_none))))) K4_none))) K4_none) K4_none))) (K4_some q47)))) K4_none) K4_none))) (K4_some q46)))) K4_none)
theorem km_ex_X1_send (d : Dp) (σ : Sg) (h0 : Nat) (q1 : Option Nat) : K4 σ (ex_X1_send d σ h0 q1) := by
  unfold ex_X1_send
  exact (K4_bind (fun _ => (K4_ite _ (K4_ite _ (K24 (km_ex_X1_lacks _ _ _ _ _ _) KM.rf (fun _ _ q54 => (K4_ite _ (K4_ite _ (K4_bind (fun _ => (K4_ite _ (K4_bind (fun _ => (K4_ite _ (K24 (km_ex_X3_get _ _ _ _) q54 (fun _ _ q55 => (K4_ite _ (K4_some q55) (K4_ite _ (K4_ite _ (K4_bind (fun _ => (K4_ite _ (K4_some (KM.sp q55 (by omega))) K4_none))) K4_none) (K4_ite _ (K4_ite _ (K44 (km_ex_X1_reckon _ _ _ _ _ _) q55 (fun _ _ _ _ q56 => (K4_some q56))) K4_none) (K4_ite _ (K4_ite _ (K4_ite _ (K4_ite _ (K4_bind (fun _ => (K4_ite _ (K44 (km_ex_X2_withValue _ _ _ _ _) q55 (fun _ _ _ _ q57 => (K4_some q57))) K4_none))) (K4_bind (fun _ => (K4_ite _ (K44 (km_ex_X2_withValue _ _ _ _ _) q55 (fun _ _ _ _ q58 => (K4_some q58))) K4_none)))) K4_none) K4_none) (K4_ite _ (K4_bind (fun _ => (K4_ite _ (K44 (km_ex_X2_withValue _ _ _ _ _) q55 (fun _ _ _ _ q59 => (K4_some q59))) K4_none))) K4_none))))))) K4_none))) K4_none))) K4_none) (K4_some q54)))) K4_none) K4_none)))
theorem km_ex_X2_rowWithoutPlaces (d : Dp) (σ : Sg) (h0 : Nat) : K4 σ (ex_X2_rowWithoutPlaces d σ h0) := by
  unfold ex_X2_rowWithoutPlaces
  exact (K4_ite _ (K24 (km_ex_X5_init _ _ _ _ _) (KM.si (KM.nw KM.rf) (by omega)) (fun _ _ q60 => (K4_some q60))) K4_none)
theorem km_ex_X2_hasRoomFor (d : Dp) (σ : Sg) (h0 : Nat) (p1 : Int32) : K2 σ (ex_X2_hasRoomFor d σ h0 p1) := by
  unfold ex_X2_hasRoomFor
  exact (K2_ite _ (K2_some KM.rf) (K2_ite _ (K2_ite _ (K2_some KM.rf) (K2_some KM.rf)) K2_none))
theorem km_ex_X2_row (d : Dp) (σ : Sg) (h0 : Nat) (p1 : Int32) (p2 : Int32) : K4 σ (ex_X2_row d σ h0 p1 p2) := by
  unfold ex_X2_row
  exact (K4_ite _ (K44 (km_ex_X2_rowWithoutPlaces _ _ _) KM.rf (fun _ _ _ _ q61 => (K4_ite _ (K24 (km_ex_X2_hasRoomFor _ _ _ _) q61 (fun _ _ q62 => (K4_ite _ (K4_some q62) (K4_ite _ (K4_bind (fun _ => (K4_ite _ (K4_ite _ (K4_ite _ (K4_ite _ (K4_some (KM.sp (KM.na (KM.si (KM.si q62 (by omega)) (by omega))) (by omega))) K4_none) K4_none) K4_none) K4_none))) K4_none)))) K4_none))) K4_none)
theorem km_ex_X1_row (d : Dp) (σ : Sg) (h0 : Nat) (q1 : Option Nat) : K4 σ (ex_X1_row d σ h0 q1) := by
  unfold ex_X1_row
  exact (K4_bind (fun _ => (K4_ite _ (K4_ite _ (K24 (km_ex_X1_lacks _ _ _ _ _ _) KM.rf (fun _ _ q63 => (K4_ite _ (K4_ite _ (K4_bind (fun _ => (K4_ite _ (K24 (km_ex_X3_get _ _ _ _) q63 (fun _ _ q64 => (K4_ite _ (K4_ite _ (K4_bind (fun _ => (K4_ite _ (K44 (km_ex_X2_rowWithoutPlaces _ _ _) q64 (fun _ _ _ _ q65 => (K4_some q65))) K4_none))) K4_none) (K4_ite _ (K4_ite _ (K4_bind (fun _ => (K4_ite _ (K4_ite _ (K4_ite _ (K4_bind (fun _ => (K4_ite _ (K24 (km_ex_X2_hasRoomFor _ _ _ _) q64 (fun _ _ q66 => (K4_ite _ (K4_ite _ (K4_bind (fun _ => (K4_ite _ (K4_ite _ (K24 (km_ex_X1_failAt _ _ _ _ _) q66 (fun _ _ q67 => (K4_some q67))) K4_none) K4_none))) K4_none) (K4_ite _ (K4_bind (fun _ => (K4_ite _ (K44 (km_ex_X2_row _ _ _ _ _) q66 (fun _ _ _ _ q68 => (K4_some q68))) K4_none))) K4_none)))) K4_none))) K4_none) (K4_bind (fun _ => (K4_ite _ (K4_ite _ (K24 (km_ex_X1_failAt _ _ _ _ _) q64 (fun _ _ q69 => (K4_some q69))) K4_none) K4_none)))) K4_none))) K4_none) (K4_ite _ (K4_bind (fun _ => (K4_ite _ (K44 (km_ex_X2_rowWithoutPlaces _ _ _) q64 (fun _ _ _ _ q70 => (K4_some q70))) K4_none))) K4_none))))) K4_none))) K4_none) (K4_some q63)))) K4_none) K4_none)))
theorem km_ex_X5_hasPlace (d : Dp) (σ : Sg) (h0 : Nat) (p1 : Int32) : K2 σ (ex_X5_hasPlace d σ h0 p1) := by
  unfold ex_X5_hasPlace
  exact (K2_ite _ (K2_ite _ (K2_some KM.rf) (K2_ite _ (K2_some KM.rf) (K2_bind (fun _ => (K2_ite _ (K2_ite _ (K2_some KM.rf) (K2_some KM.rf)) K2_none))))) K2_none)
theorem km_ex_X1_lacksPlace (d : Dp) (σ : Sg) (h0 : Nat) (q1 : Option Nat) : K2 σ (ex_X1_lacksPlace d σ h0 q1) := by
  unfold ex_X1_lacksPlace
  exact (K2_bind (fun _ => (K2_ite _ (K2_ite _ (K22 (km_ex_X1_lacks _ _ _ _ _ _) KM.rf (fun _ _ q71 => (K2_ite _ (K2_ite _ (K2_ite _ (K22 (km_ex_X1_lacks _ _ _ _ _ _) q71 (fun _ _ q72 => (K2_ite _ (K2_ite _ (K2_bind (fun _ => (K2_ite _ (K2_bind (fun _ => (K2_ite _ (K22 (km_ex_X5_hasPlace _ _ _ _) q72 (fun _ _ q73 => (K2_ite _ (K2_ite _ (K2_bind (fun _ => (K2_ite _ (K2_bind (fun _ => (K2_ite _ (K2_ite _ (K2_ite _ (K22 (km_ex_X1_failAt _ _ _ _ _) q73 (fun _ _ q74 => (K2_some q74))) K2_none) (K2_ite _ (K22 (km_ex_X1_failAt _ _ _ _ _) q73 (fun _ _ q75 => (K2_some q75))) K2_none)) K2_none))) K2_none))) K2_none) (K2_some q73)))) K2_none))) K2_none))) K2_none) (K2_some q72)))) K2_none) K2_none) (K2_some q71)))) K2_none) K2_none)))
theorem km_ex_X5_isRowFor (d : Dp) (σ : Sg) (h0 : Nat) (q1 : Option Nat) : K2 σ (ex_X5_isRowFor d σ h0 q1) := by
  unfold ex_X5_isRowFor
  exact (K2_ite _ (K2_ite _ (K2_ite _ (K2_some KM.rf) (K2_bind (fun _ => (K2_ite _ (K22 (km_ex_X5_isA _ _ _ _) KM.rf (fun _ _ q76 => (K2_ite _ (K2_some q76) (K2_some q76)))) K2_none)))) (K2_ite _ (K2_ite _ (K2_some KM.rf) (K2_bind (fun _ => (K2_ite _ (K22 (km_ex_X5_isA _ _ _ _) KM.rf (fun _ _ q77 => (K2_ite _ (K2_some q77) (K2_some q77)))) K2_none)))) (K2_some KM.rf))) K2_none)
theorem km_ex_X1_put (d : Dp) (σ : Sg) (h0 : Nat) (q1 : Option Nat) : K2 σ (ex_X1_put d σ h0 q1) := by
  unfold ex_X1_put
  exact (K2_ite _ (K22 (km_ex_X1_lacksPlace _ _ _ _) KM.rf (fun _ _ q78 => (K2_ite _ (K2_bind (fun _ => (K2_ite _ (K2_bind (fun _ => (K2_ite _ (K22 (km_ex_X5_isRowFor _ _ _ _) q78 (fun _ _ q79 => (K2_ite _ (K2_ite _ (K2_bind (fun _ => (K2_ite _ (K2_ite _ (K22 (km_ex_X1_failAt _ _ _ _ _) q79 (fun _ _ q80 => (K2_some q80))) K2_none) K2_none))) K2_none) (K2_ite _ (K2_bind (fun _ => (K2_ite _ (K2_bind (fun _ => (K2_ite _ (K2_bind (fun _ => (K2_ite _ (K2_ite _ (K2_ite _ (K2_some (KM.wp q79)) K2_none) K2_none) K2_none))) K2_none))) K2_none))) K2_none)))) K2_none))) K2_none))) (K2_some q78)))) K2_none)
theorem km_ex_X1_at (d : Dp) (σ : Sg) (h0 : Nat) (q1 : Option Nat) : K2 σ (ex_X1_at d σ h0 q1) := by
  unfold ex_X1_at
  exact (K2_ite _ (K22 (km_ex_X1_lacksPlace _ _ _ _) KM.rf (fun _ _ q81 => (K2_ite _ (K2_bind (fun _ => (K2_ite _ (K2_bind (fun _ => (K2_ite _ (K2_bind (fun _ => (K2_ite _ (K2_bind (fun _ => (K2_ite _ (K2_ite _ (K2_some q81) K2_none) K2_none))) K2_none))) K2_none))) K2_none))) (K2_some q81)))) K2_none)
theorem km_ex_X1_size (d : Dp) (σ : Sg) (h0 : Nat) (q1 : Option Nat) : K4 σ (ex_X1_size d σ h0 q1) := by
  unfold ex_X1_size
  exact (K4_bind (fun _ => (K4_ite _ (K4_ite _ (K24 (km_ex_X1_lacks _ _ _ _ _ _) KM.rf (fun _ _ q82 => (K4_ite _ (K4_ite _ (K4_bind (fun _ => (K4_ite _ (K4_ite _ (K4_bind (fun _ => (K4_ite _ (K4_ite _ (K24 (km_ex_X1_failAt _ _ _ _ _) q82 (fun _ _ q83 => (K4_some q83))) K4_none) K4_none))) (K4_ite _ (K4_bind (fun _ => (K4_ite _ (K4_bind (fun _ => (K4_ite _ (K44 (km_ex_X2_withValue _ _ _ _ _) q82 (fun _ _ _ _ q84 => (K4_some q84))) K4_none))) K4_none))) K4_none)) K4_none))) K4_none) (K4_some q82)))) K4_none) K4_none)))
theorem km_ex_X1_hold (d : Dp) (σ : Sg) (h0 : Nat) (q1 : Option Nat) : K4 σ (ex_X1_hold d σ h0 q1) := by
  unfold ex_X1_hold
  exact (K4_bind (fun _ => (K4_ite _ (K4_ite _ (K24 (km_ex_X1_lacks _ _ _ _ _ _) KM.rf (fun _ _ q85 => (K4_ite _ (K4_ite _ (K4_ite _ (K4_bind (fun _ => (K4_ite _ (K4_bind (fun _ => (K4_ite _ (K44 (km_ex_X2_withValue _ _ _ _ _) q85 (fun _ _ _ _ q86 => (K4_ite _ (K4_some (KM.sp q86 (by omega))) K4_none))) K4_none))) K4_none))) K4_none) K4_none) (K4_some q85)))) K4_none) K4_none)))
theorem km_ex_X1_finish (d : Dp) (σ : Sg) (h0 : Nat) (q1 : Option Nat) : K4 σ (ex_X1_finish d σ h0 q1) := by
  unfold ex_X1_finish
  exact (K4_bind (fun _ => (K4_ite _ (K4_bind (fun _ => (K4_ite _ (K4_ite _ (K4_ite _ (K4_bind (fun _ => (K4_ite _ (K44 (km_ex_X2_withValue _ _ _ _ _) KM.rf (fun _ _ _ _ q87 => (K4_some q87))) K4_none))) K4_none) (K4_ite _ (K4_ite _ (K24 (km_ex_X1_useSlot _ _ _ _) KM.rf (fun _ _ q88 => (K4_some q88))) K4_none) (K4_ite _ (K4_ite _ (K4_bind (fun _ => (K4_ite _ (K44 (km_ex_X2_withFields _ _ _ _ _ _) KM.rf (fun _ _ _ _ q89 => (K4_some q89))) K4_none))) K4_none) (K4_ite _ (K4_ite _ (K4_bind (fun _ => (K4_ite _ (K44 (km_ex_X2_withFields _ _ _ _ _ _) KM.rf (fun _ _ _ _ q90 => (K4_some q90))) K4_none))) K4_none) (K4_ite _ (K4_ite _ (K4_bind (fun _ => (K4_ite _ (K44 (km_ex_X2_withFields _ _ _ _ _ _) KM.rf (fun _ _ _ _ q91 => (K4_some q91))) K4_none))) K4_none) (K4_ite _ (K4_ite _ (K24 (km_ex_X1_field _ _ _ _) KM.rf (fun _ _ q92 => (K4_some q92))) K4_none) (K4_ite _ (K4_ite _ (K24 (km_ex_X1_store _ _ _ _) KM.rf (fun _ _ q93 => (K4_some q93))) K4_none) (K4_ite _ (K4_ite _ (K24 (km_ex_X1_side _ _ _ _) KM.rf (fun _ _ q94 => (K4_some q94))) K4_none) (K4_ite _ (K4_ite _ (K44 (km_ex_X1_send _ _ _ _) KM.rf (fun _ _ _ _ q95 => (K4_some q95))) K4_none) (K4_ite _ (K4_ite _ (K44 (km_ex_X1_row _ _ _ _) KM.rf (fun _ _ _ _ q96 => (K4_some q96))) K4_none) (K4_ite _ (K4_ite _ (K24 (km_ex_X1_put _ _ _ _) KM.rf (fun _ _ q97 => (K4_some q97))) K4_none) (K4_ite _ (K4_ite _ (K24 (km_ex_X1_at _ _ _ _) KM.rf (fun _ _ q98 => (K4_some q98))) K4_none) (K4_ite _ (K4_ite _ (K44 (km_ex_X1_size _ _ _ _) KM.rf (fun _ _ _ _ q99 => (K4_some q99))) K4_none) (K4_ite _ (K4_ite _ (K4_ite _ (K24 (km_ex_X1_failAt _ _ _ _ _) KM.rf (fun _ _ q100 => (K4_some q100))) (K24 (km_ex_X1_failAt _ _ _ _ _) KM.rf (fun _ _ q101 => (K4_some q101)))) K4_none) (K4_ite _ (K4_ite _ (K44 (km_ex_X1_hold _ _ _ _) KM.rf (fun _ _ _ _ q102 => (K4_some q102))) K4_none) (K4_some KM.rf)))))))))))))))) K4_none))) K4_none)))
theorem km_ex_X1_close (d : Dp) (σ : Sg) (h0 : Nat) (q1 : Option Nat) (q2 : Option Nat) : K2 σ (ex_X1_close d σ h0 q1 q2) := by
  unfold ex_X1_close
  exact (K2_ite _ (K2_ite _ (K2_bind (fun _ => (K2_ite _ (K2_bind (fun _ => (K2_ite _ (K22 (km_ex_X0_receive _ _ _ _) (KM.sp KM.rf (by omega)) (fun _ _ q103 => (K2_some q103))) K2_none))) K2_none))) (K2_some KM.rf)) K2_none)
theorem km_ex_X1_takeTurn (d : Dp) (σ : Sg) (h0 : Nat) : K4 σ (ex_X1_takeTurn d σ h0) := by
  unfold ex_X1_takeTurn
  exact (K4_ite _ (K4_ite _ (K24 (km_ex_X1_nextPart _ _ _ _) KM.rf (fun _ _ q104 => (K4_ite _ (K4_ite _ (K4_ite _ (K44 (km_ex_X1_finish _ _ _ _) q104 (fun _ _ _ _ q105 => (K4_ite _ (K24 (km_ex_X1_close _ _ _ _ _) q105 (fun _ _ q106 => (K4_some q106))) K4_none))) (K44 (km_ex_X1_workPart _ _ _ _ _) q104 (fun _ _ _ _ q107 => (K4_some q107)))) (K4_some q104)) K4_none))) (K44 (km_ex_X1_passFault _ _ _ _) KM.rf (fun _ _ _ _ q108 => (K4_some q108)))) K4_none)
theorem km_ex_X1_end (d : Dp) (σ : Sg) (h0 : Nat) : K2 σ (ex_X1_end d σ h0) := by
  unfold ex_X1_end
  exact (K2_ite _ (K2_ite _ (K2_ite _ (K2_bind (fun _ => (K2_ite _ (K2_some (KM.sp (KM.si KM.rf (by omega)) (by omega))) K2_none))) (K2_some (KM.si KM.rf (by omega)))) (K2_some (KM.si KM.rf (by omega)))) K2_none)
theorem km_ex_X3_init (d : Dp) (σ : Sg) (h0 : Nat) (p1 : Int32) (p2 : Int32) (p3 : Int64) : K2 σ (ex_X3_init d σ h0 p1 p2 p3) := by
  unfold ex_X3_init
  exact (K2_ite _ (K2_some (KM.sj (KM.si (KM.si (KM.si (KM.si (KM.si KM.rf (by omega)) (by omega)) (by omega)) (by omega)) (by omega)))) K2_none)
theorem km_ex_X3_set (d : Dp) (σ : Sg) (h0 : Nat) (p1 : Int32) (p2 : Int32) : K2 σ (ex_X3_set d σ h0 p1 p2) := by
  unfold ex_X3_set
  exact (K2_ite _ (K2_ite _ (K2_some (KM.si KM.rf (by omega))) K2_none) (K2_ite _ (K2_ite _ (K2_some (KM.si KM.rf (by omega))) K2_none) (K2_ite _ (K2_some (KM.si KM.rf (by omega))) K2_none)))
theorem km_ex_J8_newLength_cabcc (d : Dp) (σ : Sg) (p1 : Int32) (p2 : Int32) (p3 : Int32) : K4 σ (ex_J8_newLength_cabcc d σ p1 p2 p3) := by
  unfold ex_J8_newLength_cabcc
  exact (K4_ite _ K4_none (K4_ite _ K4_none (K4_some KM.rf)))
theorem km_ex_J7_copyOf_6403c (d : Dp) (σ : Sg) (q1 : Option Nat) (p2 : Int32) (q3 : Option Nat) : K4 σ (ex_J7_copyOf_6403c d σ q1 p2 q3) := by
  unfold ex_J7_copyOf_6403c
  exact (K4_ite _ (K4_ite _ (K4_ite _ (K4_bind (fun _ => (K4_ite _ (K4_ite _ (K4_ite _ (K4_ite _ (K4_ite _ (K4_some (KM.wr (KM.na KM.rf))) K4_none) K4_none) K4_none) K4_none) K4_none))) K4_none) K4_none) K4_none)
theorem km_ex_J7_copyOf_1904c (d : Dp) (σ : Sg) (q1 : Option Nat) (p2 : Int32) : K4 σ (ex_J7_copyOf_1904c d σ q1 p2) := by
  unfold ex_J7_copyOf_1904c
  exact (K4_bind (fun _ => (K4_ite _ (K44 (km_ex_J7_copyOf_6403c _ _ _ _ _) KM.rf (fun _ _ _ _ q109 => (K4_some q109))) K4_none)))
theorem km_ex_Jx4a65c_grow_92f84 (d : Dp) (σ : Sg) (h0 : Nat) (p1 : Int32) : K4 σ (ex_Jx4a65c_grow_92f84 d σ h0 p1) := by
  unfold ex_Jx4a65c_grow_92f84
  exact (K4_ite _ (K4_bind (fun _ => (K4_ite _ (K4_ite _ (K44 (km_ex_J8_newLength_cabcc _ _ _ _ _) KM.rf (fun _ _ _ _ q110 => (K4_ite _ (K44 (km_ex_J7_copyOf_1904c _ _ _ _) q110 (fun _ _ _ _ q111 => (K4_ite _ (K4_some (KM.sp q111 (by omega))) K4_none))) K4_none))) (K4_ite _ (K4_ite _ (K4_ite _ (K4_ite _ (K4_some (KM.sp (KM.na KM.rf) (by omega))) K4_none) K4_none) K4_none) (K44 (km_ex_J8_newLength_cabcc _ _ _ _ _) KM.rf (fun _ _ _ _ q112 => (K4_ite _ (K44 (km_ex_J7_copyOf_1904c _ _ _ _) q112 (fun _ _ _ _ q113 => (K4_ite _ (K4_some (KM.sp q113 (by omega))) K4_none))) K4_none))))) K4_none))) K4_none)
theorem km_ex_Jx4a65c_grow_d5877 (d : Dp) (σ : Sg) (h0 : Nat) : K4 σ (ex_Jx4a65c_grow_d5877 d σ h0) := by
  unfold ex_Jx4a65c_grow_d5877
  exact (K4_ite _ (K44 (km_ex_Jx4a65c_grow_92f84 _ _ _ _) KM.rf (fun _ _ _ _ q114 => (K4_some q114))) K4_none)
theorem km_ex_Jx4a65c_add_72be8 (d : Dp) (σ : Sg) (h0 : Nat) (q1 : Option Nat) (q2 : Option Nat) (p3 : Int32) : K4 σ (ex_Jx4a65c_add_72be8 d σ h0 q1 q2 p3) := by
  unfold ex_Jx4a65c_add_72be8
  exact (K4_bind (fun _ => (K4_ite _ (K4_ite _ (K4_ite _ (K44 (km_ex_Jx4a65c_grow_d5877 _ _ _) KM.rf (fun _ _ _ _ q115 => (K4_bind (fun _ => (K4_ite _ (K4_ite _ (K4_bind (fun _ => (K4_ite _ (K4_ite _ (K4_some (KM.si (KM.wp q115) (by omega))) K4_none) K4_none))) K4_none) K4_none))))) K4_none) (K4_ite _ (K4_ite _ (K4_bind (fun _ => (K4_ite _ (K4_ite _ (K4_some (KM.si (KM.wp KM.rf) (by omega))) K4_none) K4_none))) K4_none) K4_none)) K4_none)))
theorem km_ex_Jx4a65c_add_9ea2d (d : Dp) (σ : Sg) (h0 : Nat) (q1 : Option Nat) : K4 σ (ex_Jx4a65c_add_9ea2d d σ h0 q1) := by
  unfold ex_Jx4a65c_add_9ea2d
  exact (K4_ite _ (K44 (km_ex_Jx4a65c_add_72be8 _ _ _ _ _ _) (KM.si KM.rf (by omega)) (fun _ _ _ _ q116 => (K4_some q116))) K4_none)
theorem km_ex_X4_append (d : Dp) (σ : Sg) (h0 : Nat) (q1 : Option Nat) : K4 σ (ex_X4_append d σ h0 q1) := by
  unfold ex_X4_append
  exact (K4_ite _ (K4_bind (fun _ => (K4_ite _ (K44 (km_ex_Jx4a65c_add_9ea2d _ _ _ _) KM.rf (fun _ _ _ _ q117 => (K4_bind (fun _ => (K4_ite _ (K4_some q117) K4_none))))) K4_none))) K4_none)
theorem km_ex_X4_addLiteral (d : Dp) (σ : Sg) (h0 : Nat) (p1 : Int64) : K4 σ (ex_X4_addLiteral d σ h0 p1) := by
  unfold ex_X4_addLiteral
  exact (K4_ite _ (K4_bind (fun _ => (K4_ite _ (K24 (km_ex_Jx4a65c_size_8abf5 _ _ _) KM.rf (fun _ _ q118 => (K4_ite _ (K4_ite _ (K4_bind (fun _ => (K4_ite _ (K24 (km_ex_Jx4a65c_size_8abf5 _ _ _) (KM.nw q118) (fun _ _ q119 => (K24 (km_ex_X3_init _ _ _ _ _ _) q119 (fun _ _ q120 => (K4_ite _ (K44 (km_ex_X4_append _ _ _ _) q120 (fun _ _ _ _ q121 => (K4_some q121))) K4_none))))) K4_none))) K4_none) (K4_some q118)))) K4_none))) K4_none)
theorem km_ex_X4_setPart (d : Dp) (σ : Sg) (h0 : Nat) (q1 : Option Nat) (p2 : Int32) (p3 : Int32) : K2 σ (ex_X4_setPart d σ h0 q1 p2 p3) := by
  unfold ex_X4_setPart
  exact (K2_bind (fun _ => (K2_ite _ (K22 (km_ex_X3_works _ _ _ _) KM.rf (fun _ _ q122 => (K2_ite _ (K2_ite _ (K2_ite _ (K22 (km_ex_X3_set _ _ _ _ _) q122 (fun _ _ q123 => (K2_some q123))) K2_none) (K2_ite _ (K22 (km_ex_X3_set _ _ _ _ _) q122 (fun _ _ q124 => (K2_some q124))) K2_none)) (K2_ite _ (K22 (km_ex_X4_at _ _ _ _) q122 (fun _ _ q125 => (K2_ite _ (K2_ite _ (K2_ite _ (K22 (km_ex_X3_set _ _ _ _ _) q125 (fun _ _ q126 => (K2_some q126))) K2_none) (K2_ite _ (K22 (km_ex_X3_set _ _ _ _ _) q125 (fun _ _ q127 => (K2_some q127))) K2_none)) (K2_ite _ (K2_ite _ (K22 (km_ex_X3_set _ _ _ _ _) q125 (fun _ _ q128 => (K2_some q128))) K2_none) (K2_ite _ (K22 (km_ex_X3_set _ _ _ _ _) q125 (fun _ _ q129 => (K2_some q129))) K2_none))))) K2_none)))) K2_none)))
theorem km_ex_X4_add (d : Dp) (σ : Sg) (h0 : Nat) (p1 : Int32) (p2 : Int32) (p3 : Int32) (p4 : Int32) : K4 σ (ex_X4_add d σ h0 p1 p2 p3 p4) := by
  unfold ex_X4_add
  exact (K4_ite _ (K4_bind (fun _ => (K4_ite _ (K24 (km_ex_Jx4a65c_size_8abf5 _ _ _) KM.rf (fun _ _ q130 => (K4_ite _ (K4_ite _ (K4_bind (fun _ => (K4_ite _ (K24 (km_ex_Jx4a65c_size_8abf5 _ _ _) (KM.nw q130) (fun _ _ q131 => (K24 (km_ex_X3_init _ _ _ _ _ _) q131 (fun _ _ q132 => (K4_ite _ (K24 (km_ex_X4_setPart _ _ _ _ _ _) q132 (fun _ _ q133 => (K4_ite _ (K24 (km_ex_X4_setPart _ _ _ _ _ _) q133 (fun _ _ q134 => (K4_ite _ (K24 (km_ex_X4_setPart _ _ _ _ _ _) q134 (fun _ _ q135 => (K4_ite _ (K44 (km_ex_X4_append _ _ _ _) q135 (fun _ _ _ _ q136 => (K4_some q136))) K4_none))) K4_none))) K4_none))) K4_none))))) K4_none))) K4_none) (K4_some q130)))) K4_none))) K4_none)
theorem km_lp_Jx4a65c_clear_da8c8 : ∀ (f : Nat) (d : Dp) (σ : Sg) (h0 : Nat) (v1 : Option Nat) (v2 : Int32) (v3 : Int32), K2 σ (lp_Jx4a65c_clear_da8c8 f d σ h0 v1 v2 v3) := by
  intro f
  induction f with
  | zero => intro d σ h0 v1 v2 v3; rw [lp_Jx4a65c_clear_da8c8]; exact K2_none
  | succ f ih =>
    intro d σ h0 v1 v2 v3
    rw [lp_Jx4a65c_clear_da8c8]
    exact (K2_ite _ (K2_some KM.rf) (K2_bind (fun _ => (K2_ite _ (K2_ite _ (K2_tr (ih _ _ _ _ _ _) (KM.wp KM.rf)) K2_none) K2_none))))
theorem km_ex_Jx4a65c_clear_da8c8 (d : Dp) (σ : Sg) (h0 : Nat) : K2 σ (ex_Jx4a65c_clear_da8c8 d σ h0) := by
  unfold ex_Jx4a65c_clear_da8c8
  exact (K2_ite _ (K2_tr (km_lp_Jx4a65c_clear_da8c8 _ _ _ _ _ _ _) (KM.si (KM.si KM.rf (by omega)) (by omega))) K2_none)
theorem km_ex_X4_clear (d : Dp) (σ : Sg) (h0 : Nat) : K2 σ (ex_X4_clear d σ h0) := by
  unfold ex_X4_clear
  exact (K2_ite _ (K2_bind (fun _ => (K2_ite _ (K22 (km_ex_Jx4a65c_clear_da8c8 _ _ _) KM.rf (fun _ _ q137 => (K2_some q137))) K2_none))) K2_none)
theorem km_ex_X5_hasValue (d : Dp) (σ : Sg) (h0 : Nat) : K2 σ (ex_X5_hasValue d σ h0) := by
  unfold ex_X5_hasValue
  exact (K2_ite _ (K2_ite _ (K2_some KM.rf) (K2_ite _ (K2_some KM.rf) (K2_some KM.rf))) K2_none)
theorem km_ex_X5_placesOrNone (d : Dp) (σ : Sg) (h0 : Nat) : K2 σ (ex_X5_placesOrNone d σ h0) := by
  unfold ex_X5_placesOrNone
  exact (K2_ite _ (K2_ite _ (K2_some KM.rf) (K2_bind (fun _ => (K2_ite _ (K2_some KM.rf) K2_none)))) K2_none)
theorem km_ex_X5_numberOf (d : Dp) (σ : Sg) (q1 : Option Nat) : K2 σ (ex_X5_numberOf d σ q1) := by
  unfold ex_X5_numberOf
  exact (K2_ite _ (K2_some KM.rf) (K2_bind (fun _ => (K2_ite _ (K2_some KM.rf) K2_none))))
theorem km_ex_X5_useOrNone (d : Dp) (σ : Sg) (h0 : Nat) : K2 σ (ex_X5_useOrNone d σ h0) := by
  unfold ex_X5_useOrNone
  exact (K2_ite _ (K2_ite _ (K2_some KM.rf) (K2_some KM.rf)) K2_none)
theorem km_ex_X5_tell (d : Dp) (σ : Sg) (h0 : Nat) (p1 : Int32) : K2 σ (ex_X5_tell d σ h0 p1) := by
  unfold ex_X5_tell
  exact (K2_ite _ (K2_ite _ (K2_some KM.rf) K2_none) (K2_ite _ (K2_ite _ (K2_ite _ (K22 (km_ex_X5_placesOrNone _ _ _) KM.rf (fun _ _ q138 => (K2_some q138))) (K22 (km_ex_X5_numberOf _ _ _) KM.rf (fun _ _ q139 => (K2_some q139)))) K2_none) (K2_ite _ (K2_ite _ (K2_ite _ (K22 (km_ex_X5_useOrNone _ _ _) KM.rf (fun _ _ q140 => (K2_some q140))) (K22 (km_ex_X5_numberOf _ _ _) KM.rf (fun _ _ q141 => (K2_some q141)))) K2_none) (K2_some KM.rf))))
theorem km_ex_X6_lit (d : Dp) (σ : Sg) (h0 : Nat) (p1 : Int64) : K4 σ (ex_X6_lit d σ h0 p1) := by
  unfold ex_X6_lit
  exact (K4_ite _ (K4_bind (fun _ => (K4_ite _ (K44 (km_ex_X4_addLiteral _ _ _ _) KM.rf (fun _ _ _ _ q142 => (K4_some q142))) K4_none))) K4_none)
theorem km_ex_X6_node (d : Dp) (σ : Sg) (h0 : Nat) (p1 : Int32) (p2 : Int32) (p3 : Int32) (p4 : Int32) : K4 σ (ex_X6_node d σ h0 p1 p2 p3 p4) := by
  unfold ex_X6_node
  exact (K4_ite _ (K4_some KM.rf) (K4_ite _ (K4_ite _ (K4_bind (fun _ => (K4_ite _ (K44 (km_ex_X4_add _ _ _ _ _ _ _) KM.rf (fun _ _ _ _ q143 => (K4_some q143))) K4_none))) K4_none) (K4_some KM.rf)))
theorem km_ex_X6_part (d : Dp) (σ : Sg) (h0 : Nat) (p1 : Int32) (p2 : Int32) (p3 : Int32) : K2 σ (ex_X6_part d σ h0 p1 p2 p3) := by
  unfold ex_X6_part
  exact (K2_ite _ (K2_bind (fun _ => (K2_ite _ (K22 (km_ex_X4_at _ _ _ _) KM.rf (fun _ _ q144 => (K2_ite _ (K2_some q144) (K2_ite _ (K2_some q144) (K2_ite _ (K2_ite _ (K2_bind (fun _ => (K2_ite _ (K22 (km_ex_X4_setPart _ _ _ _ _ _) q144 (fun _ _ q145 => (K2_some q145))) K2_none))) K2_none) (K2_some q144)))))) K2_none))) K2_none)
theorem km_lp_X6_run : ∀ (f : Nat) (d : Dp) (σ : Sg) (h0 : Nat) (v1 : Int32) (v2 : Int32) (v3 : Int32) (kc : Nat) (nc : Nat), K4 σ (lp_X6_run f d σ h0 v1 v2 v3 kc nc) := by
  intro f
  induction f with
  | zero => intro d σ h0 v1 v2 v3 kc nc; rw [lp_X6_run]; exact K4_none
  | succ f ih =>
    intro d σ h0 v1 v2 v3 kc nc
    rw [lp_X6_run]
    exact (K4_ite _ (K4_ite _ (K4_bind (fun _ => (K4_ite _ (K24 (km_ex_X1_end _ _ _) KM.rf (fun _ _ q146 => (K4_some q146))) K4_none))) K4_none) (K4_ite _ (K4_bind (fun _ => (K4_ite _ (K24 (km_ex_X1_isAtWork _ _ _) KM.rf (fun _ _ q147 => (K4_ite _ (K4_ite _ (K4_bind (fun _ => (K4_ite _ (K24 (km_ex_X1_end _ _ _) q147 (fun _ _ q148 => (K4_some q148))) K4_none))) K4_none) (K4_ite _ (K4_bind (fun _ => (K4_ite _ (K44 (km_ex_X1_takeTurn _ _ _) q147 (fun _ _ _ _ q149 => (K4_tr (ih _ _ _ _ _ _ _ _) q149))) K4_none))) K4_none)))) K4_none))) K4_none))
theorem km_ex_X6_run (d : Dp) (σ : Sg) (h0 : Nat) (p1 : Int32) (p2 : Int32) : K4 σ (ex_X6_run d σ h0 p1 p2) := by
  unfold ex_X6_run
  exact (K4_ite _ (K4_some KM.rf) (K4_ite _ (K4_ite _ (K4_bind (fun _ => (K4_ite _ (K24 (km_ex_X4_at _ _ _ _) KM.rf (fun _ _ q150 => (K4_bind (fun _ => (K4_ite _ (K44 (km_ex_X1_begin _ _ _ _ _) q150 (fun _ _ _ _ q151 => (K4_tr (km_lp_X6_run _ _ _ _ _ _ _ _ _) q151))) K4_none))))) K4_none))) K4_none) (K4_some KM.rf)))
theorem km_ex_X6_value (d : Dp) (σ : Sg) (h0 : Nat) (p1 : Int32) : K2 σ (ex_X6_value d σ h0 p1) := by
  unfold ex_X6_value
  exact (K2_ite _ (K2_bind (fun _ => (K2_ite _ (K22 (km_ex_X1_seenAt _ _ _ _) KM.rf (fun _ _ q152 => (K2_ite _ (K2_some q152) (K2_bind (fun _ => (K2_ite _ (K22 (km_ex_X5_hasValue _ _ _) q152 (fun _ _ q153 => (K2_ite _ (K2_some q153) (K2_ite _ (K2_some q153) K2_none)))) K2_none)))))) K2_none))) K2_none)
theorem km_ex_X6_thing (d : Dp) (σ : Sg) (h0 : Nat) (p1 : Int32) (p2 : Int32) : K2 σ (ex_X6_thing d σ h0 p1 p2) := by
  unfold ex_X6_thing
  exact (K2_ite _ (K2_bind (fun _ => (K2_ite _ (K22 (km_ex_X1_canSee _ _ _ _) KM.rf (fun _ _ q154 => (K2_ite _ (K2_some q154) (K2_ite _ (K2_bind (fun _ => (K2_ite _ (K22 (km_ex_X1_seenAt _ _ _ _) q154 (fun _ _ q155 => (K2_ite _ (K2_ite _ (K2_some q155) (K2_bind (fun _ => (K2_ite _ (K2_some q155) K2_none)))) (K2_ite _ (K2_some q155) (K2_bind (fun _ => (K2_ite _ (K22 (km_ex_X5_tell _ _ _ _) q155 (fun _ _ q156 => (K2_some q156))) K2_none))))))) K2_none))) K2_none)))) K2_none))) K2_none)
theorem km_ex_X6_fault (d : Dp) (σ : Sg) (h0 : Nat) : K2 σ (ex_X6_fault d σ h0) := by
  unfold ex_X6_fault
  exact (K2_ite _ (K2_bind (fun _ => (K2_ite _ (K2_some KM.rf) K2_none))) K2_none)
theorem km_ex_X6_faultNode (d : Dp) (σ : Sg) (h0 : Nat) : K2 σ (ex_X6_faultNode d σ h0) := by
  unfold ex_X6_faultNode
  exact (K2_ite _ (K2_bind (fun _ => (K2_ite _ (K2_some KM.rf) K2_none))) K2_none)
theorem km_ex_X6_steps (d : Dp) (σ : Sg) (h0 : Nat) : K2 σ (ex_X6_steps d σ h0) := by
  unfold ex_X6_steps
  exact (K2_ite _ (K2_bind (fun _ => (K2_ite _ (K2_some KM.rf) K2_none))) K2_none)
theorem km_ex_X6_wipe (d : Dp) (σ : Sg) (h0 : Nat) : K2 σ (ex_X6_wipe d σ h0) := by
  unfold ex_X6_wipe
  exact (K2_ite _ (K2_bind (fun _ => (K2_ite _ (K22 (km_ex_X4_clear _ _ _) KM.rf (fun _ _ q157 => (K2_ite _ (K2_bind (fun _ => (K2_ite _ (K22 (km_ex_X1_forget _ _ _) q157 (fun _ _ q158 => (K2_some q158))) K2_none))) K2_none))) K2_none))) K2_none)
