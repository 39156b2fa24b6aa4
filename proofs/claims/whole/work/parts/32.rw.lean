theorem q_hs_si (σ : Sg) (f a : Nat) (v : Int32)  : hs (si σ f a v)  = hs σ  := rfl
theorem q_gc_si (σ : Sg) (f a : Nat) (v : Int32) (x : Nat) : gc (si σ f a v) x = gc σ x := rfl
theorem q_gi_si (σ : Sg) (f a : Nat) (v : Int32) (x y : Nat) : gi (si σ f a v) x y = if x = f ∧ y = a then v else gi σ x y := rfl
theorem q_gj_si (σ : Sg) (f a : Nat) (v : Int32) (x y : Nat) : gj (si σ f a v) x y = gj σ x y := rfl
theorem q_gp_si (σ : Sg) (f a : Nat) (v : Int32) (x y : Nat) : gp (si σ f a v) x y = gp σ x y := rfl
theorem q_gl_si (σ : Sg) (f a : Nat) (v : Int32) (x : Nat) : gl (si σ f a v) x = gl σ x := rfl
theorem q_ai_si (σ : Sg) (f a : Nat) (v : Int32) (x y : Nat) : ai (si σ f a v) x y = ai σ x y := rfl
theorem q_aj_si (σ : Sg) (f a : Nat) (v : Int32) (x y : Nat) : aj (si σ f a v) x y = aj σ x y := rfl
theorem q_ap_si (σ : Sg) (f a : Nat) (v : Int32) (x y : Nat) : ap (si σ f a v) x y = ap σ x y := rfl
theorem q_hs_sj (σ : Sg) (f a : Nat) (v : Int64)  : hs (sj σ f a v)  = hs σ  := rfl
theorem q_gc_sj (σ : Sg) (f a : Nat) (v : Int64) (x : Nat) : gc (sj σ f a v) x = gc σ x := rfl
theorem q_gi_sj (σ : Sg) (f a : Nat) (v : Int64) (x y : Nat) : gi (sj σ f a v) x y = gi σ x y := rfl
theorem q_gj_sj (σ : Sg) (f a : Nat) (v : Int64) (x y : Nat) : gj (sj σ f a v) x y = if x = f ∧ y = a then v else gj σ x y := rfl
theorem q_gp_sj (σ : Sg) (f a : Nat) (v : Int64) (x y : Nat) : gp (sj σ f a v) x y = gp σ x y := rfl
theorem q_gl_sj (σ : Sg) (f a : Nat) (v : Int64) (x : Nat) : gl (sj σ f a v) x = gl σ x := rfl
theorem q_ai_sj (σ : Sg) (f a : Nat) (v : Int64) (x y : Nat) : ai (sj σ f a v) x y = ai σ x y := rfl
theorem q_aj_sj (σ : Sg) (f a : Nat) (v : Int64) (x y : Nat) : aj (sj σ f a v) x y = aj σ x y := rfl
theorem q_ap_sj (σ : Sg) (f a : Nat) (v : Int64) (x y : Nat) : ap (sj σ f a v) x y = ap σ x y := rfl
theorem q_hs_sp (σ : Sg) (f a : Nat) (v : Option Nat)  : hs (sp σ f a v)  = hs σ  := rfl
theorem q_gc_sp (σ : Sg) (f a : Nat) (v : Option Nat) (x : Nat) : gc (sp σ f a v) x = gc σ x := rfl
theorem q_gi_sp (σ : Sg) (f a : Nat) (v : Option Nat) (x y : Nat) : gi (sp σ f a v) x y = gi σ x y := rfl
theorem q_gj_sp (σ : Sg) (f a : Nat) (v : Option Nat) (x y : Nat) : gj (sp σ f a v) x y = gj σ x y := rfl
theorem q_gp_sp (σ : Sg) (f a : Nat) (v : Option Nat) (x y : Nat) : gp (sp σ f a v) x y = if x = f ∧ y = a then v else gp σ x y := rfl
theorem q_gl_sp (σ : Sg) (f a : Nat) (v : Option Nat) (x : Nat) : gl (sp σ f a v) x = gl σ x := rfl
theorem q_ai_sp (σ : Sg) (f a : Nat) (v : Option Nat) (x y : Nat) : ai (sp σ f a v) x y = ai σ x y := rfl
theorem q_aj_sp (σ : Sg) (f a : Nat) (v : Option Nat) (x y : Nat) : aj (sp σ f a v) x y = aj σ x y := rfl
theorem q_ap_sp (σ : Sg) (f a : Nat) (v : Option Nat) (x y : Nat) : ap (sp σ f a v) x y = ap σ x y := rfl
theorem q_hs_wi (σ : Sg) (f a : Nat) (v : Int32)  : hs (wi σ f a v)  = hs σ  := rfl
theorem q_gc_wi (σ : Sg) (f a : Nat) (v : Int32) (x : Nat) : gc (wi σ f a v) x = gc σ x := rfl
theorem q_gi_wi (σ : Sg) (f a : Nat) (v : Int32) (x y : Nat) : gi (wi σ f a v) x y = gi σ x y := rfl
theorem q_gj_wi (σ : Sg) (f a : Nat) (v : Int32) (x y : Nat) : gj (wi σ f a v) x y = gj σ x y := rfl
theorem q_gp_wi (σ : Sg) (f a : Nat) (v : Int32) (x y : Nat) : gp (wi σ f a v) x y = gp σ x y := rfl
theorem q_gl_wi (σ : Sg) (f a : Nat) (v : Int32) (x : Nat) : gl (wi σ f a v) x = gl σ x := rfl
theorem q_ai_wi (σ : Sg) (f a : Nat) (v : Int32) (x y : Nat) : ai (wi σ f a v) x y = if x = f ∧ y = a then v else ai σ x y := rfl
theorem q_aj_wi (σ : Sg) (f a : Nat) (v : Int32) (x y : Nat) : aj (wi σ f a v) x y = aj σ x y := rfl
theorem q_ap_wi (σ : Sg) (f a : Nat) (v : Int32) (x y : Nat) : ap (wi σ f a v) x y = ap σ x y := rfl
theorem q_hs_wj (σ : Sg) (f a : Nat) (v : Int64)  : hs (wj σ f a v)  = hs σ  := rfl
theorem q_gc_wj (σ : Sg) (f a : Nat) (v : Int64) (x : Nat) : gc (wj σ f a v) x = gc σ x := rfl
theorem q_gi_wj (σ : Sg) (f a : Nat) (v : Int64) (x y : Nat) : gi (wj σ f a v) x y = gi σ x y := rfl
theorem q_gj_wj (σ : Sg) (f a : Nat) (v : Int64) (x y : Nat) : gj (wj σ f a v) x y = gj σ x y := rfl
theorem q_gp_wj (σ : Sg) (f a : Nat) (v : Int64) (x y : Nat) : gp (wj σ f a v) x y = gp σ x y := rfl
theorem q_gl_wj (σ : Sg) (f a : Nat) (v : Int64) (x : Nat) : gl (wj σ f a v) x = gl σ x := rfl
theorem q_ai_wj (σ : Sg) (f a : Nat) (v : Int64) (x y : Nat) : ai (wj σ f a v) x y = ai σ x y := rfl
theorem q_aj_wj (σ : Sg) (f a : Nat) (v : Int64) (x y : Nat) : aj (wj σ f a v) x y = if x = f ∧ y = a then v else aj σ x y := rfl
theorem q_ap_wj (σ : Sg) (f a : Nat) (v : Int64) (x y : Nat) : ap (wj σ f a v) x y = ap σ x y := rfl
theorem q_hs_wp (σ : Sg) (f a : Nat) (v : Option Nat)  : hs (wp σ f a v)  = hs σ  := rfl
theorem q_gc_wp (σ : Sg) (f a : Nat) (v : Option Nat) (x : Nat) : gc (wp σ f a v) x = gc σ x := rfl
theorem q_gi_wp (σ : Sg) (f a : Nat) (v : Option Nat) (x y : Nat) : gi (wp σ f a v) x y = gi σ x y := rfl
theorem q_gj_wp (σ : Sg) (f a : Nat) (v : Option Nat) (x y : Nat) : gj (wp σ f a v) x y = gj σ x y := rfl
theorem q_gp_wp (σ : Sg) (f a : Nat) (v : Option Nat) (x y : Nat) : gp (wp σ f a v) x y = gp σ x y := rfl
theorem q_gl_wp (σ : Sg) (f a : Nat) (v : Option Nat) (x : Nat) : gl (wp σ f a v) x = gl σ x := rfl
theorem q_ai_wp (σ : Sg) (f a : Nat) (v : Option Nat) (x y : Nat) : ai (wp σ f a v) x y = ai σ x y := rfl
theorem q_aj_wp (σ : Sg) (f a : Nat) (v : Option Nat) (x y : Nat) : aj (wp σ f a v) x y = aj σ x y := rfl
theorem q_ap_wp (σ : Sg) (f a : Nat) (v : Option Nat) (x y : Nat) : ap (wp σ f a v) x y = if x = f ∧ y = a then v else ap σ x y := rfl
theorem q_hs_wr (σ : Sg) (a : Nat) (v : Nat → Option Nat)  : hs (wr σ a v)  = hs σ  := rfl
theorem q_gc_wr (σ : Sg) (a : Nat) (v : Nat → Option Nat) (x : Nat) : gc (wr σ a v) x = gc σ x := rfl
theorem q_gi_wr (σ : Sg) (a : Nat) (v : Nat → Option Nat) (x y : Nat) : gi (wr σ a v) x y = gi σ x y := rfl
theorem q_gj_wr (σ : Sg) (a : Nat) (v : Nat → Option Nat) (x y : Nat) : gj (wr σ a v) x y = gj σ x y := rfl
theorem q_gp_wr (σ : Sg) (a : Nat) (v : Nat → Option Nat) (x y : Nat) : gp (wr σ a v) x y = gp σ x y := rfl
theorem q_gl_wr (σ : Sg) (a : Nat) (v : Nat → Option Nat) (x : Nat) : gl (wr σ a v) x = gl σ x := rfl
theorem q_ai_wr (σ : Sg) (a : Nat) (v : Nat → Option Nat) (x y : Nat) : ai (wr σ a v) x y = ai σ x y := rfl
theorem q_aj_wr (σ : Sg) (a : Nat) (v : Nat → Option Nat) (x y : Nat) : aj (wr σ a v) x y = aj σ x y := rfl
theorem q_ap_wr (σ : Sg) (a : Nat) (v : Nat → Option Nat) (x y : Nat) : ap (wr σ a v) x y = if x = a then v y else ap σ x y := by show (u1 (ap σ) a v x) y = _; unfold u1; split <;> rfl
theorem q_hs_nw (σ : Sg) (cls : Nat)  : hs (nw σ cls)  = hs σ + 1 := rfl
theorem q_gc_nw (σ : Sg) (cls : Nat) (x : Nat) : gc (nw σ cls) x = if x = hs σ then cls else gc σ x := rfl
theorem q_gi_nw (σ : Sg) (cls : Nat) (x y : Nat) : gi (nw σ cls) x y = if y = hs σ then 0 else gi σ x y := rfl
theorem q_gj_nw (σ : Sg) (cls : Nat) (x y : Nat) : gj (nw σ cls) x y = if y = hs σ then 0 else gj σ x y := rfl
theorem q_gp_nw (σ : Sg) (cls : Nat) (x y : Nat) : gp (nw σ cls) x y = if y = hs σ then none else gp σ x y := rfl
theorem q_gl_nw (σ : Sg) (cls : Nat) (x : Nat) : gl (nw σ cls) x = gl σ x := rfl
theorem q_ai_nw (σ : Sg) (cls : Nat) (x y : Nat) : ai (nw σ cls) x y = ai σ x y := rfl
theorem q_aj_nw (σ : Sg) (cls : Nat) (x y : Nat) : aj (nw σ cls) x y = aj σ x y := rfl
theorem q_ap_nw (σ : Sg) (cls : Nat) (x y : Nat) : ap (nw σ cls) x y = ap σ x y := rfl
theorem q_hs_na (σ : Sg) (cls N : Nat)  : hs (na σ cls N)  = hs σ + 1 := rfl
theorem q_gc_na (σ : Sg) (cls N : Nat) (x : Nat) : gc (na σ cls N) x = if x = hs σ then cls else gc σ x := rfl
theorem q_gi_na (σ : Sg) (cls N : Nat) (x y : Nat) : gi (na σ cls N) x y = gi σ x y := rfl
theorem q_gj_na (σ : Sg) (cls N : Nat) (x y : Nat) : gj (na σ cls N) x y = gj σ x y := rfl
theorem q_gp_na (σ : Sg) (cls N : Nat) (x y : Nat) : gp (na σ cls N) x y = gp σ x y := rfl
theorem q_gl_na (σ : Sg) (cls N : Nat) (x : Nat) : gl (na σ cls N) x = if x = hs σ then N else gl σ x := rfl
theorem q_ai_na (σ : Sg) (cls N : Nat) (x y : Nat) : ai (na σ cls N) x y = if x = hs σ then 0 else ai σ x y := by show (u1 (ai σ) (hs σ) (fun _ => 0) x) y = _; unfold u1; split <;> rfl
theorem q_aj_na (σ : Sg) (cls N : Nat) (x y : Nat) : aj (na σ cls N) x y = if x = hs σ then 0 else aj σ x y := by show (u1 (aj σ) (hs σ) (fun _ => 0) x) y = _; unfold u1; split <;> rfl
theorem q_ap_na (σ : Sg) (cls N : Nat) (x y : Nat) : ap (na σ cls N) x y = if x = hs σ then none else ap σ x y := by show (u1 (ap σ) (hs σ) (fun _ => none) x) y = _; unfold u1; split <;> rfl
theorem q_mI_uI (μ : Mu) (f a : Nat) (v : Int32) (x y : Nat) : mI (uI μ f a v) x y = if x = f ∧ y = a then v else mI μ x y := rfl
theorem q_mI_uJ (μ : Mu) (f a : Nat) (v : Int64) (x y : Nat) : mI (uJ μ f a v) x y = mI μ x y := rfl
theorem q_mI_uS (μ : Mu) (f : Nat) (v : Int32) (x y : Nat) : mI (uS μ f v) x y = mI μ x y := rfl
theorem q_mJ_uI (μ : Mu) (f a : Nat) (v : Int32) (x y : Nat) : mJ (uI μ f a v) x y = mJ μ x y := rfl
theorem q_mJ_uJ (μ : Mu) (f a : Nat) (v : Int64) (x y : Nat) : mJ (uJ μ f a v) x y = if x = f ∧ y = a then v else mJ μ x y := rfl
theorem q_mJ_uS (μ : Mu) (f : Nat) (v : Int32) (x y : Nat) : mJ (uS μ f v) x y = mJ μ x y := rfl
theorem q_mS_uI (μ : Mu) (f a : Nat) (v : Int32) (x : Nat) : mS (uI μ f a v) x = mS μ x := rfl
theorem q_mS_uJ (μ : Mu) (f a : Nat) (v : Int64) (x : Nat) : mS (uJ μ f a v) x = mS μ x := rfl
theorem q_mS_uS (μ : Mu) (f : Nat) (v : Int32) (x : Nat) : mS (uS μ f v) x = if x = f then v else mS μ x := rfl
theorem b2_some {α β γ : Type} (a : α) (b : β) (f : α → β → Option γ) : b2 (some (a, b)) f = f a b := rfl
theorem b4_some {α β γ δ ε : Type} (a : α) (b : β) (c : γ) (d : δ) (f : α → β → γ → δ → Option ε) : b4 (some (a, b, c, d)) f = f a b c d := rfl
theorem bn_eq {γ : Type} (x : Sg) (f : Sg → Option γ) : bn x f = f x := rfl
theorem bm_eq {γ : Type} (x : Mu) (f : Mu → Option γ) : bm x f = f x := rfl
