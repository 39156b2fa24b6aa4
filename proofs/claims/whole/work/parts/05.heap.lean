theorem p1 {D : va_G} {cl : List vw_C} {q : Nat × va_E} {H : Heap} (h : va_at D cl q H) : va_P D cl [q] H := fun k x hk => by
  have hz : k < 1 := (List.getElem?_eq_some_iff.mp hk).1
  rw [show k = 0 by omega] at hk
  cases hk
  exact h
theorem HW.up {d : Dp} {σ σ' : Sg} {a : Nat} {H H1 : Heap} (h : HW d σ H) (h1 : hs σ' = hs σ) (h2 : gc σ' = gc σ) (hz : H1.size = H.size) (oq : ∀ q : Nat, q ≠ a → H1[q]? = H[q]?) (hf : ∀ b, b ≠ a → ∀ c, fl c σ' b = fl c σ b) (hac : ∀ b, b ≠ a → ∀ c, ac c σ' b = ac c σ b) (he : ce d σ' a H1) : HW d σ' H1 := by
  refine ⟨by rw [hz, h1]; exact h.1, fun b hb => ?_⟩
  rw [h2] at hb
  obtain ⟨hlt, hce⟩ := h.2 b hb
  refine ⟨by rw [h1]; exact hlt, ?_⟩
  by_cases hba : b = a
  · subst hba
    exact he
  · refine ⟨fun ci hc hci => ?_, fun hc => ?_⟩
    · rw [h2] at hc
      rw [hf b hba]
      exact (hce.1 ci hc hci).kept (oq b hba)
    · rw [h2] at hc
      obtain ⟨cell, q1, q2, q3⟩ := hce.2 hc
      exact ⟨cell, (oq b hba).trans q1, fun z => by rw [h2] at z ⊢; rw [hac b hba]; exact q2 z, fun z => by rw [h2] at z; rw [hac b hba]; exact q3 z⟩
theorem HW.grow {d : Dp} {σ σ' : Sg} {cls : Nat} {H H1 : Heap} (h : HW d σ H) (h1 : hs σ' = hs σ + 1) (h2 : gc σ' = u1 (gc σ) (hs σ) cls) (hz : H1.size = H.size + 1) (oq : ∀ q : Nat, q < H.size → H1[q]? = H[q]?) (hf : ∀ b, b ≠ hs σ → ∀ c, fl c σ' b = fl c σ b) (hac : ∀ b, b ≠ hs σ → ∀ c, ac c σ' b = ac c σ b) (he : ce d σ' (hs σ) H1) : HW d σ' H1 := by
  refine ⟨by rw [hz, h1, h.1], fun b hb => ?_⟩
  rw [h2] at hb
  by_cases hba : b = hs σ
  · subst hba
    exact ⟨by rw [h1]; omega, he⟩
  · simp only [u1, hba, if_false] at hb
    obtain ⟨hlt, hce⟩ := h.2 b hb
    have hq := oq b (by rw [h.1]; exact hlt)
    have hgb : gc σ' b = gc σ b := by rw [h2]; simp [u1, hba]
    refine ⟨by rw [h1]; omega, fun ci hc hci => ?_, fun hc => ?_⟩
    · rw [hgb] at hc
      rw [hf b hba]
      exact (hce.1 ci hc hci).kept hq
    · rw [hgb] at hc
      obtain ⟨cell, q1, q2, q3⟩ := hce.2 hc
      exact ⟨cell, hq.trans q1, fun z => by rw [hgb] at z ⊢; rw [hac b hba]; exact q2 z, fun z => by rw [hgb] at z; rw [hac b hba]; exact q3 z⟩
theorem fl_si {σ : Sg} {f a b : Nat} {x : Int32} (h : b ≠ a) (c : Nat) : fl c (si σ f a x) b = fl c σ b := by
  have e : ∀ j, gi (si σ f a x) j b = gi σ j b := fun j => by show (if j = f ∧ b = a then x else gi σ j b) = _; simp [h]
  unfold fl
  split <;> first | rfl | (simp only [e]; done) | (simp only [e]; rfl)
theorem fl_sj {σ : Sg} {f a b : Nat} {x : Int64} (h : b ≠ a) (c : Nat) : fl c (sj σ f a x) b = fl c σ b := by
  have e : ∀ j, gj (sj σ f a x) j b = gj σ j b := fun j => by show (if j = f ∧ b = a then x else gj σ j b) = _; simp [h]
  unfold fl
  split <;> first | rfl | (simp only [e]; done) | (simp only [e]; rfl)
theorem fl_sp {σ : Sg} {f a b : Nat} {x : Option Nat} (h : b ≠ a) (c : Nat) : fl c (sp σ f a x) b = fl c σ b := by
  have e : ∀ j, gp (sp σ f a x) j b = gp σ j b := fun j => by show (if j = f ∧ b = a then x else gp σ j b) = _; simp [h]
  unfold fl
  split <;> first | rfl | (simp only [e]; done) | (simp only [e]; rfl)
theorem fl_nw {σ : Sg} {b cls : Nat} (h : b ≠ hs σ) (c : Nat) : fl c (nw σ cls) b = fl c σ b := by
  have e1 : ∀ j, gi (nw σ cls) j b = gi σ j b := fun j => by show (if b = hs σ then 0 else gi σ j b) = _; simp [h]
  have e2 : ∀ j, gj (nw σ cls) j b = gj σ j b := fun j => by show (if b = hs σ then 0 else gj σ j b) = _; simp [h]
  have e3 : ∀ j, gp (nw σ cls) j b = gp σ j b := fun j => by show (if b = hs σ then none else gp σ j b) = _; simp [h]
  unfold fl
  split <;> simp only [e1, e2, e3]
theorem ac_wi {σ : Sg} {a i b : Nat} {x : Int32} (h : b ≠ a) (c : Nat) : ac c (wi σ a i x) b = ac c σ b := by
  have e : ai (wi σ a i x) b = ai σ b := by funext j; show (if b = a ∧ j = i then x else ai σ b j) = _; simp [h]
  unfold ac
  rw [e]
  rfl
theorem ac_wj {σ : Sg} {a i b : Nat} {x : Int64} (h : b ≠ a) (c : Nat) : ac c (wj σ a i x) b = ac c σ b := by
  have e : aj (wj σ a i x) b = aj σ b := by funext j; show (if b = a ∧ j = i then x else aj σ b j) = _; simp [h]
  unfold ac
  rw [e]
  rfl
theorem ac_wp {σ : Sg} {a i b : Nat} {x : Option Nat} (h : b ≠ a) (c : Nat) : ac c (wp σ a i x) b = ac c σ b := by
  have e : ap (wp σ a i x) b = ap σ b := by funext j; show (if b = a ∧ j = i then x else ap σ b j) = _; simp [h]
  unfold ac
  rw [e]
  rfl
theorem ac_wr {σ : Sg} {a b : Nat} {f : Nat → Option Nat} (h : b ≠ a) (c : Nat) : ac c (wr σ a f) b = ac c σ b := by
  have e : ap (wr σ a f) b = ap σ b := by show (if b = a then f else ap σ b) = _; simp [h]
  unfold ac
  rw [e]
  rfl
theorem ac_na {σ : Sg} {b cls N : Nat} (h : b ≠ hs σ) (c : Nat) : ac c (na σ cls N) b = ac c σ b := by
  have e0 : gl (na σ cls N) b = gl σ b := by show (if b = hs σ then N else gl σ b) = _; simp [h]
  have e1 : ai (na σ cls N) b = ai σ b := by show (if b = hs σ then (fun _ => 0) else ai σ b) = _; simp [h]
  have e2 : aj (na σ cls N) b = aj σ b := by show (if b = hs σ then (fun _ => 0) else aj σ b) = _; simp [h]
  have e3 : ap (na σ cls N) b = ap σ b := by show (if b = hs σ then (fun _ => none) else ap σ b) = _; simp [h]
  unfold ac
  rw [e0, e1, e2, e3]
theorem wi_at {σ : Sg} {a i : Nat} {x : Int32} : ai (wi σ a i x) a = upd (ai σ a) i x := by funext j; show (if a = a ∧ j = i then x else ai σ a j) = (if j = i then x else ai σ a j); simp
theorem wj_at {σ : Sg} {a i : Nat} {x : Int64} : aj (wj σ a i x) a = vp_updL (aj σ a) i x := by funext j; show (if a = a ∧ j = i then x else aj σ a j) = (if j = i then x else aj σ a j); simp
theorem wp_at {σ : Sg} {a i : Nat} {x : Option Nat} : ap (wp σ a i x) a = va_up (ap σ a) i x := by funext j; show (if a = a ∧ j = i then x else ap σ a j) = (if j = i then x else ap σ a j); simp

theorem fs_0 {σ : Sg} {a : Nat} {x : Int32} : fl 0 (si σ 0 a x) a = (fl 0 σ a).set 0 (Value.int x) := by simp [fl, gi, gj, gp, si, u2, List.set]
theorem fs_1 {σ : Sg} {a : Nat} {x : Option Nat} : fl 0 (sp σ 1 a x) a = (fl 0 σ a).set 1 (va_rf x) := by simp [fl, gi, gj, gp, sp, u2, List.set]
theorem fs_2 {σ : Sg} {a : Nat} {x : Int32} : fl 0 (si σ 2 a x) a = (fl 0 σ a).set 2 (Value.int x) := by simp [fl, gi, gj, gp, si, u2, List.set]
theorem fs_100 {σ : Sg} {a : Nat} {x : Option Nat} : fl 1 (sp σ 100 a x) a = (fl 1 σ a).set 0 (va_rf x) := by simp [fl, gi, gj, gp, sp, u2, List.set]
theorem fs_101 {σ : Sg} {a : Nat} {x : Int32} : fl 1 (si σ 101 a x) a = (fl 1 σ a).set 1 (Value.int x) := by simp [fl, gi, gj, gp, si, u2, List.set]
theorem fs_102 {σ : Sg} {a : Nat} {x : Option Nat} : fl 1 (sp σ 102 a x) a = (fl 1 σ a).set 2 (va_rf x) := by simp [fl, gi, gj, gp, sp, u2, List.set]
theorem fs_103 {σ : Sg} {a : Nat} {x : Option Nat} : fl 1 (sp σ 103 a x) a = (fl 1 σ a).set 3 (va_rf x) := by simp [fl, gi, gj, gp, sp, u2, List.set]
theorem fs_104 {σ : Sg} {a : Nat} {x : Int32} : fl 1 (si σ 104 a x) a = (fl 1 σ a).set 4 (Value.int x) := by simp [fl, gi, gj, gp, si, u2, List.set]
theorem fs_105 {σ : Sg} {a : Nat} {x : Option Nat} : fl 1 (sp σ 105 a x) a = (fl 1 σ a).set 5 (va_rf x) := by simp [fl, gi, gj, gp, sp, u2, List.set]
theorem fs_106 {σ : Sg} {a : Nat} {x : Option Nat} : fl 1 (sp σ 106 a x) a = (fl 1 σ a).set 6 (va_rf x) := by simp [fl, gi, gj, gp, sp, u2, List.set]
theorem fs_107 {σ : Sg} {a : Nat} {x : Option Nat} : fl 1 (sp σ 107 a x) a = (fl 1 σ a).set 7 (va_rf x) := by simp [fl, gi, gj, gp, sp, u2, List.set]
theorem fs_108 {σ : Sg} {a : Nat} {x : Option Nat} : fl 1 (sp σ 108 a x) a = (fl 1 σ a).set 8 (va_rf x) := by simp [fl, gi, gj, gp, sp, u2, List.set]
theorem fs_109 {σ : Sg} {a : Nat} {x : Int64} : fl 1 (sj σ 109 a x) a = (fl 1 σ a).set 9 (Value.long x) := by simp [fl, gi, gj, gp, sj, u2, List.set]
theorem fs_200 {σ : Sg} {a : Nat} {x : Option Nat} : fl 2 (sp σ 200 a x) a = (fl 2 σ a).set 0 (va_rf x) := by simp [fl, gi, gj, gp, sp, u2, List.set]
theorem fs_201 {σ : Sg} {a : Nat} {x : Option Nat} : fl 2 (sp σ 201 a x) a = (fl 2 σ a).set 1 (va_rf x) := by simp [fl, gi, gj, gp, sp, u2, List.set]
theorem fs_202 {σ : Sg} {a : Nat} {x : Option Nat} : fl 2 (sp σ 202 a x) a = (fl 2 σ a).set 2 (va_rf x) := by simp [fl, gi, gj, gp, sp, u2, List.set]
theorem fs_203 {σ : Sg} {a : Nat} {x : Option Nat} : fl 2 (sp σ 203 a x) a = (fl 2 σ a).set 3 (va_rf x) := by simp [fl, gi, gj, gp, sp, u2, List.set]
theorem fs_204 {σ : Sg} {a : Nat} {x : Option Nat} : fl 2 (sp σ 204 a x) a = (fl 2 σ a).set 4 (va_rf x) := by simp [fl, gi, gj, gp, sp, u2, List.set]
theorem fs_205 {σ : Sg} {a : Nat} {x : Option Nat} : fl 2 (sp σ 205 a x) a = (fl 2 σ a).set 5 (va_rf x) := by simp [fl, gi, gj, gp, sp, u2, List.set]
theorem fs_206 {σ : Sg} {a : Nat} {x : Option Nat} : fl 2 (sp σ 206 a x) a = (fl 2 σ a).set 6 (va_rf x) := by simp [fl, gi, gj, gp, sp, u2, List.set]
theorem fs_207 {σ : Sg} {a : Nat} {x : Int32} : fl 2 (si σ 207 a x) a = (fl 2 σ a).set 7 (Value.int x) := by simp [fl, gi, gj, gp, si, u2, List.set]
theorem fs_208 {σ : Sg} {a : Nat} {x : Int32} : fl 2 (si σ 208 a x) a = (fl 2 σ a).set 8 (Value.int x) := by simp [fl, gi, gj, gp, si, u2, List.set]
theorem fs_209 {σ : Sg} {a : Nat} {x : Int32} : fl 2 (si σ 209 a x) a = (fl 2 σ a).set 9 (Value.int x) := by simp [fl, gi, gj, gp, si, u2, List.set]
theorem fs_210 {σ : Sg} {a : Nat} {x : Int32} : fl 2 (si σ 210 a x) a = (fl 2 σ a).set 10 (Value.int x) := by simp [fl, gi, gj, gp, si, u2, List.set]
theorem fs_211 {σ : Sg} {a : Nat} {x : Int32} : fl 2 (si σ 211 a x) a = (fl 2 σ a).set 11 (Value.int x) := by simp [fl, gi, gj, gp, si, u2, List.set]
theorem fs_212 {σ : Sg} {a : Nat} {x : Int32} : fl 2 (si σ 212 a x) a = (fl 2 σ a).set 12 (Value.int x) := by simp [fl, gi, gj, gp, si, u2, List.set]
theorem fs_300 {σ : Sg} {a : Nat} {x : Int32} : fl 3 (si σ 300 a x) a = (fl 3 σ a).set 0 (Value.int x) := by simp [fl, gi, gj, gp, si, u2, List.set]
theorem fs_301 {σ : Sg} {a : Nat} {x : Int32} : fl 3 (si σ 301 a x) a = (fl 3 σ a).set 1 (Value.int x) := by simp [fl, gi, gj, gp, si, u2, List.set]
theorem fs_400 {σ : Sg} {a : Nat} {x : Int32} : fl 4 (si σ 400 a x) a = (fl 4 σ a).set 0 (Value.int x) := by simp [fl, gi, gj, gp, si, u2, List.set]
theorem fs_401 {σ : Sg} {a : Nat} {x : Int32} : fl 4 (si σ 401 a x) a = (fl 4 σ a).set 1 (Value.int x) := by simp [fl, gi, gj, gp, si, u2, List.set]
theorem fs_402 {σ : Sg} {a : Nat} {x : Int64} : fl 4 (sj σ 402 a x) a = (fl 4 σ a).set 2 (Value.long x) := by simp [fl, gi, gj, gp, sj, u2, List.set]
theorem fs_403 {σ : Sg} {a : Nat} {x : Int32} : fl 4 (si σ 403 a x) a = (fl 4 σ a).set 3 (Value.int x) := by simp [fl, gi, gj, gp, si, u2, List.set]
theorem fs_404 {σ : Sg} {a : Nat} {x : Int32} : fl 4 (si σ 404 a x) a = (fl 4 σ a).set 4 (Value.int x) := by simp [fl, gi, gj, gp, si, u2, List.set]
theorem fs_405 {σ : Sg} {a : Nat} {x : Int32} : fl 4 (si σ 405 a x) a = (fl 4 σ a).set 5 (Value.int x) := by simp [fl, gi, gj, gp, si, u2, List.set]
theorem fs_500 {σ : Sg} {a : Nat} {x : Option Nat} : fl 5 (sp σ 500 a x) a = (fl 5 σ a).set 0 (va_rf x) := by simp [fl, gi, gj, gp, sp, u2, List.set]
theorem fs_600 {σ : Sg} {a : Nat} {x : Int32} : fl 6 (si σ 600 a x) a = (fl 6 σ a).set 0 (Value.int x) := by simp [fl, gi, gj, gp, si, u2, List.set]
theorem fs_601 {σ : Sg} {a : Nat} {x : Int32} : fl 6 (si σ 601 a x) a = (fl 6 σ a).set 1 (Value.int x) := by simp [fl, gi, gj, gp, si, u2, List.set]
theorem fs_602 {σ : Sg} {a : Nat} {x : Int64} : fl 6 (sj σ 602 a x) a = (fl 6 σ a).set 2 (Value.long x) := by simp [fl, gi, gj, gp, sj, u2, List.set]
theorem fs_603 {σ : Sg} {a : Nat} {x : Option Nat} : fl 6 (sp σ 603 a x) a = (fl 6 σ a).set 3 (va_rf x) := by simp [fl, gi, gj, gp, sp, u2, List.set]
theorem fs_604 {σ : Sg} {a : Nat} {x : Option Nat} : fl 6 (sp σ 604 a x) a = (fl 6 σ a).set 4 (va_rf x) := by simp [fl, gi, gj, gp, sp, u2, List.set]
theorem fs_605 {σ : Sg} {a : Nat} {x : Int32} : fl 6 (si σ 605 a x) a = (fl 6 σ a).set 5 (Value.int x) := by simp [fl, gi, gj, gp, si, u2, List.set]
theorem fs_606 {σ : Sg} {a : Nat} {x : Option Nat} : fl 6 (sp σ 606 a x) a = (fl 6 σ a).set 6 (va_rf x) := by simp [fl, gi, gj, gp, sp, u2, List.set]
theorem fs_700 {σ : Sg} {a : Nat} {x : Option Nat} : fl 7 (sp σ 700 a x) a = (fl 7 σ a).set 0 (va_rf x) := by simp [fl, gi, gj, gp, sp, u2, List.set]
theorem fs_701 {σ : Sg} {a : Nat} {x : Option Nat} : fl 7 (sp σ 701 a x) a = (fl 7 σ a).set 1 (va_rf x) := by simp [fl, gi, gj, gp, sp, u2, List.set]
theorem fs_800 {σ : Sg} {a : Nat} {x : Option Nat} : fl 8 (sp σ 800 a x) a = (fl 8 σ a).set 0 (va_rf x) := by simp [fl, gi, gj, gp, sp, u2, List.set]
theorem fs_801 {σ : Sg} {a : Nat} {x : Option Nat} : fl 8 (sp σ 801 a x) a = (fl 8 σ a).set 1 (va_rf x) := by simp [fl, gi, gj, gp, sp, u2, List.set]
theorem fs_802 {σ : Sg} {a : Nat} {x : Option Nat} : fl 8 (sp σ 802 a x) a = (fl 8 σ a).set 2 (va_rf x) := by simp [fl, gi, gj, gp, sp, u2, List.set]
theorem fs_803 {σ : Sg} {a : Nat} {x : Option Nat} : fl 8 (sp σ 803 a x) a = (fl 8 σ a).set 3 (va_rf x) := by simp [fl, gi, gj, gp, sp, u2, List.set]
theorem fs_804 {σ : Sg} {a : Nat} {x : Int32} : fl 8 (si σ 804 a x) a = (fl 8 σ a).set 4 (Value.int x) := by simp [fl, gi, gj, gp, si, u2, List.set]
theorem fs_805 {σ : Sg} {a : Nat} {x : Option Nat} : fl 8 (sp σ 805 a x) a = (fl 8 σ a).set 5 (va_rf x) := by simp [fl, gi, gj, gp, sp, u2, List.set]
theorem fs_806 {σ : Sg} {a : Nat} {x : Option Nat} : fl 8 (sp σ 806 a x) a = (fl 8 σ a).set 6 (va_rf x) := by simp [fl, gi, gj, gp, sp, u2, List.set]
theorem fs_807 {σ : Sg} {a : Nat} {x : Option Nat} : fl 8 (sp σ 807 a x) a = (fl 8 σ a).set 7 (va_rf x) := by simp [fl, gi, gj, gp, sp, u2, List.set]
theorem fs_808 {σ : Sg} {a : Nat} {x : Option Nat} : fl 8 (sp σ 808 a x) a = (fl 8 σ a).set 8 (va_rf x) := by simp [fl, gi, gj, gp, sp, u2, List.set]
theorem fs_809 {σ : Sg} {a : Nat} {x : Int32} : fl 8 (si σ 809 a x) a = (fl 8 σ a).set 9 (Value.int x) := by simp [fl, gi, gj, gp, si, u2, List.set]
theorem fs_810 {σ : Sg} {a : Nat} {x : Option Nat} : fl 8 (sp σ 810 a x) a = (fl 8 σ a).set 10 (va_rf x) := by simp [fl, gi, gj, gp, sp, u2, List.set]
theorem fs_811 {σ : Sg} {a : Nat} {x : Int32} : fl 8 (si σ 811 a x) a = (fl 8 σ a).set 11 (Value.int x) := by simp [fl, gi, gj, gp, si, u2, List.set]
theorem fs_812 {σ : Sg} {a : Nat} {x : Option Nat} : fl 8 (sp σ 812 a x) a = (fl 8 σ a).set 12 (va_rf x) := by simp [fl, gi, gj, gp, sp, u2, List.set]
theorem fs_813 {σ : Sg} {a : Nat} {x : Int32} : fl 8 (si σ 813 a x) a = (fl 8 σ a).set 13 (Value.int x) := by simp [fl, gi, gj, gp, si, u2, List.set]
theorem fs_814 {σ : Sg} {a : Nat} {x : Option Nat} : fl 8 (sp σ 814 a x) a = (fl 8 σ a).set 14 (va_rf x) := by simp [fl, gi, gj, gp, sp, u2, List.set]
theorem fs_815 {σ : Sg} {a : Nat} {x : Option Nat} : fl 8 (sp σ 815 a x) a = (fl 8 σ a).set 15 (va_rf x) := by simp [fl, gi, gj, gp, sp, u2, List.set]
theorem fs_816 {σ : Sg} {a : Nat} {x : Option Nat} : fl 8 (sp σ 816 a x) a = (fl 8 σ a).set 16 (va_rf x) := by simp [fl, gi, gj, gp, sp, u2, List.set]
theorem fs_817 {σ : Sg} {a : Nat} {x : Option Nat} : fl 8 (sp σ 817 a x) a = (fl 8 σ a).set 17 (va_rf x) := by simp [fl, gi, gj, gp, sp, u2, List.set]
theorem fs_818 {σ : Sg} {a : Nat} {x : Int32} : fl 8 (si σ 818 a x) a = (fl 8 σ a).set 18 (Value.int x) := by simp [fl, gi, gj, gp, si, u2, List.set]
theorem fs_819 {σ : Sg} {a : Nat} {x : Int32} : fl 8 (si σ 819 a x) a = (fl 8 σ a).set 19 (Value.int x) := by simp [fl, gi, gj, gp, si, u2, List.set]
theorem fs_820 {σ : Sg} {a : Nat} {x : Int32} : fl 8 (si σ 820 a x) a = (fl 8 σ a).set 20 (Value.int x) := by simp [fl, gi, gj, gp, si, u2, List.set]
theorem fs_821 {σ : Sg} {a : Nat} {x : Int32} : fl 8 (si σ 821 a x) a = (fl 8 σ a).set 21 (Value.int x) := by simp [fl, gi, gj, gp, si, u2, List.set]
theorem fs_822 {σ : Sg} {a : Nat} {x : Int32} : fl 8 (si σ 822 a x) a = (fl 8 σ a).set 22 (Value.int x) := by simp [fl, gi, gj, gp, si, u2, List.set]
theorem fs_823 {σ : Sg} {a : Nat} {x : Int32} : fl 8 (si σ 823 a x) a = (fl 8 σ a).set 23 (Value.int x) := by simp [fl, gi, gj, gp, si, u2, List.set]
theorem fs_824 {σ : Sg} {a : Nat} {x : Int32} : fl 8 (si σ 824 a x) a = (fl 8 σ a).set 24 (Value.int x) := by simp [fl, gi, gj, gp, si, u2, List.set]
theorem fs_825 {σ : Sg} {a : Nat} {x : Int32} : fl 8 (si σ 825 a x) a = (fl 8 σ a).set 25 (Value.int x) := by simp [fl, gi, gj, gp, si, u2, List.set]
theorem fs_826 {σ : Sg} {a : Nat} {x : Int32} : fl 8 (si σ 826 a x) a = (fl 8 σ a).set 26 (Value.int x) := by simp [fl, gi, gj, gp, si, u2, List.set]
theorem fs_827 {σ : Sg} {a : Nat} {x : Int32} : fl 8 (si σ 827 a x) a = (fl 8 σ a).set 27 (Value.int x) := by simp [fl, gi, gj, gp, si, u2, List.set]

section HP
variable {p : Program} {l : Launch} {e : Env} {R : Room} {s : State} {m : MethodId} {args : Array Value} {below : List Frame} {meth : Method} {c : Code} {d : Dp} {A : Nat → Prop} {Q : State → Prop} {nL : Nat} {σ : Sg} {k n pc : Nat} {lv : List (Nat × Value)} {st : List Value} {own : String} {cc : ByteArray} {ret : Option FieldType}
theorem r_get (E : Ev p s m args meth c own cc nL ret d A) {ci j ix N a : Nat} {C rf : String} {T : u_T} {o : Option Nat} {v : Value} (hd : decode cc pc = .ok (.getfield ix, 3)) (hw : Cond.fieldLink own ix rf (T j).2.1 (T j).2.2.1 ∈ wsL_law) (hsame : ∀ x, s.fieldFound? (T j).1 (T j).2.1 (T j).2.2.1 = some x → s.fieldFound? rf (T j).2.1 (T j).2.2.1 = some x) (hc : vwCl[ci]? = some (C, T, N)) (hci : ci < 9) (hin : ∀ w ∈ u_ws C T N, w ∈ wsL_law) (hj : j < N) (ho : o = some a) (hg : gc σ a = ci + 1) (hv : (fl ci σ a)[j]? = some v) (kk : Gk p l e R s m args below meth c d A Q nL σ k n (pc + 3) lv (v :: st)) : Gk p l e R s m args below meth c d A Q nL σ k n pc lv (va_rf o :: st) := fun H locs ls hH hS hP hl => by
  subst ho
  have h1 := (hH.2 a (by omega)).2.1 ci hg hci
  exact va_get (ws := [(a, .inr (ci, fl ci σ a))]) E.x E.b E.ts hin E.ow E.K.1 (p1 h1) 0 rfl hc j hj (E.ts _ hw) hsame hv hd (kk H locs ls hH hS hP hl)
theorem r_put (E : Ev p s m args meth c own cc nL ret d A) {ci j ix N a : Nat} {C rf : String} {T : u_T} {o : Option Nat} {v : Value} {ty : FieldType} {σ' : Sg} (hd : decode cc pc = .ok (.putfield ix, 3)) (hw : Cond.fieldLink own ix rf (T j).2.1 (T j).2.2.1 ∈ wsL_law) (hsame : ∀ x, s.fieldFound? (T j).1 (T j).2.1 (T j).2.2.1 = some x → s.fieldFound? rf (T j).2.1 (T j).2.2.1 = some x) (hc : vwCl[ci]? = some (C, T, N)) (hci : ci < 9) (hin : ∀ w ∈ u_ws C T N, w ∈ wsL_law) (hj : j < N) (ty0 : Nat → FieldType) (hty : ∀ k, k < N → parseFieldDescriptor (T k).2.2.1 = some (ty0 k)) (hnm : ∀ a, a < N → ∀ b, b < N → a ≠ b → (T a).2.1 ≠ (T b).2.1) (hfin : (T j).2.2.2 = false) (hpd : parseFieldDescriptor (T j).2.2.1 = some ty) (hn : narrow ty v = v) (hfit : fits ty v = true) (ho : o = some a) (hg : gc σ a = ci + 1) (hl0 : j < (fl ci σ a).length) (h1 : hs σ' = hs σ) (h2 : gc σ' = gc σ) (hf : ∀ b, b ≠ a → ∀ c, fl c σ' b = fl c σ b) (hac : ∀ b c, ac c σ' b = ac c σ b) (hset : fl ci σ' a = (fl ci σ a).set j v) (kk : Gk p l e R s m args below meth c d A Q nL σ' k n (pc + 3) lv st) : Gk p l e R s m args below meth c d A Q nL σ k n pc lv (v :: va_rf o :: st) := fun H locs ls hH hS hP hl => by
  subst ho
  have hap := va_apart (own := own) E.ts hin ty0 hty hnm E.K.1 hc
  obtain ⟨r, h5, cell, q1, q2, q3, q4⟩ := (hH.2 a (by omega)).2.1 ci hg hci
  have hr : r = (C, T, N) := Option.some.inj (h5.symm.trans hc)
  subst hr
  obtain ⟨hSl, hfc, kC, hkC, hkind⟩ := E.K.1.1 ci _ hc
  obtain ⟨cf, kf, fi, f, hi, hsl⟩ := hSl j hj
  have hlay := E.ts _ (hin _ (u_in_lay hj))
  unfold u_lay at hlay
  rw [if_neg (by rw [hfin]; decide)] at hlay
  have hst := (u_facts hfc hkC (u_lays E.ts hin hj) hi).1
  have h6 := u_store hfc hkC hkind hlay hi hpd hn hfit
  refine W.putK E.x E.b (f := f) ⟨E.ow, E.ts _ hw, ⟨_, _, _, hsame _ hi⟩, hst⟩ (by rw [q2]; exact h6) q1 q3 (by rw [hsl]; exact k2_hasslot (q4 j hj)) rfl rfl hd fun H' e1 e2 e3 => ?_
  rw [hsl] at e1 ⊢
  refine kk H' _ ls ?_ (hS.put e2 e3 (hP a (by omega) (by omega))) (fun b h3 h4 => hP b (by rw [← h2]; exact h3) (by rw [← h2]; exact h4)) hl
  refine hH.up h1 h2 e2 e3 hf (fun b _ c => hac b c) ⟨fun ci2 hc2 hci2 => ?_, fun hc2 => ?_⟩
  · have e5 : ci2 = ci := by rw [h2, hg] at hc2; omega
    subst e5
    rw [hset]
    exact ⟨_, hc, t_OB.to (V := updV (vp_V (fl ci2 σ a)) j v) ⟨_, e1, q2, q3, t_set q4 hap hj v⟩ (fun i _ => vp_updV_set hl0 v i)⟩
  · rw [h2, hg] at hc2
    omega
theorem r_putF (E : Ev p s m args meth c own cc nL ret d A) {ci j ix N a : Nat} {C rf : String} {T : u_T} {o : Option Nat} {v : Value} {ty : FieldType} {σ' : Sg} (hd : decode cc pc = .ok (.putfield ix, 3)) (hw : Cond.fieldLink own ix rf (T j).2.1 (T j).2.2.1 ∈ wsL_law) (hsame : ∀ x, s.fieldFound? (T j).1 (T j).2.1 (T j).2.2.1 = some x → s.fieldFound? rf (T j).2.1 (T j).2.2.1 = some x) (hc : vwCl[ci]? = some (C, T, N)) (hci : ci < 9) (hin : ∀ w ∈ u_ws C T N, w ∈ wsL_law) (hj : j < N) (ty0 : Nat → FieldType) (hty : ∀ k, k < N → parseFieldDescriptor (T k).2.2.1 = some (ty0 k)) (hnm : ∀ a, a < N → ∀ b, b < N → a ≠ b → (T a).2.1 ≠ (T b).2.1) (hfin : (T j).2.2.2 = true) (hini : meth.name = "<init>") (hdecl : (T j).1 = own) (hpd : parseFieldDescriptor (T j).2.2.1 = some ty) (hn : narrow ty v = v) (hfit : fits ty v = true) (ho : o = some a) (hg : gc σ a = ci + 1) (hl0 : j < (fl ci σ a).length) (h1 : hs σ' = hs σ) (h2 : gc σ' = gc σ) (hf : ∀ b, b ≠ a → ∀ c, fl c σ' b = fl c σ b) (hac : ∀ b c, ac c σ' b = ac c σ b) (hset : fl ci σ' a = (fl ci σ a).set j v) (kk : Gk p l e R s m args below meth c d A Q nL σ' k n (pc + 3) lv st) : Gk p l e R s m args below meth c d A Q nL σ k n pc lv (v :: va_rf o :: st) := fun H locs ls hH hS hP hl => by
  subst ho
  have hap := va_apart (own := own) E.ts hin ty0 hty hnm E.K.1 hc
  obtain ⟨r, h5, cell, q1, q2, q3, q4⟩ := (hH.2 a (by omega)).2.1 ci hg hci
  have hr : r = (C, T, N) := Option.some.inj (h5.symm.trans hc)
  subst hr
  obtain ⟨hSl, hfc, kC, hkC, hkind⟩ := E.K.1.1 ci _ hc
  obtain ⟨cf, kf, fi, f, hi, hsl⟩ := hSl j hj
  have hlay := E.ts _ (hin _ (u_in_lay hj))
  unfold u_lay at hlay
  rw [if_pos hfin] at hlay
  have hst := (u_facts hfc hkC (u_lays E.ts hin hj) hi).1
  have hcf : m.cls = cf := by
    obtain ⟨_, _, c', _, _, _, -, -, hf', -, -, -, hown2, -⟩ := Cond.laysFinal_spec hlay
    have e1 : c' = cf := by have := hi.symm.trans hf'; simp at this; exact this.1.symm
    rw [hdecl] at hown2
    rw [← e1]; exact Option.some.inj (E.ow.symm.trans hown2)
  have h6 := u_fits hfc hkC hkind (Or.inr hlay) hi hpd hn hfit
  refine W.putFinK E.x E.b E.ow (E.ts _ hw) (hsame _ hi) hst hcf hini (by rw [q2]; exact h6) q1 q3 (by rw [hsl]; exact k2_hasslot (q4 j hj)) rfl rfl hd fun H' e1 e2 e3 => ?_
  rw [hsl] at e1 ⊢
  refine kk H' _ ls ?_ (hS.put e2 e3 (hP a (by omega) (by omega))) (fun b h3 h4 => hP b (by rw [← h2]; exact h3) (by rw [← h2]; exact h4)) hl
  refine hH.up h1 h2 e2 e3 hf (fun b _ c => hac b c) ⟨fun ci2 hc2 hci2 => ?_, fun hc2 => ?_⟩
  · have e5 : ci2 = ci := by rw [h2, hg] at hc2; omega
    subst e5
    rw [hset]
    exact ⟨_, hc, t_OB.to (V := updV (vp_V (fl ci2 σ a)) j v) ⟨_, e1, q2, q3, t_set q4 hap hj v⟩ (fun i _ => vp_updV_set hl0 v i)⟩
  · rw [h2, hg] at hc2
    omega
theorem r_new (E : Ev p s m args meth c own cc nL ret d A) {ci ix N : Nat} {C : String} {T : u_T} (hd : decode cc pc = .ok (.new ix, 3)) (w1 : Cond.classLink own ix C ∈ wsL_law) (w2 : Cond.instantiable C N ∈ wsL_law) (w3 : Cond.initialized C ∈ wsL_law) (hc : vwCl[ci]? = some (C, T, N)) (hci : ci < 9) (hin : ∀ w ∈ u_ws C T N, w ∈ wsL_law) (ty0 : Nat → FieldType) (hty : ∀ k, k < N → parseFieldDescriptor (T k).2.2.1 = some (ty0 k)) (hfs : ∀ j, j < N → defaultValue (ty0 j) = vp_V (fl ci (nw σ (ci + 1)) (hs σ)) j) (hR : k + 1 ≤ R.cells ∧ n + N ≤ R.slots) (kk : Gk p l e R s m args below meth c d A Q nL (nw σ (ci + 1)) (k + 1) (n + N) (pc + 3) lv (va_rf (some (hs σ)) :: st)) : Gk p l e R s m args below meth c d A Q nL σ k n pc lv st := fun H locs ls hH hS hP hl => by
  have hKn := E.K.1.1 ci _ hc
  refine W.newcK E.x E.b E.ow (E.ts _ w1) (E.ts _ w2) (E.ts _ w3) rfl hd hR.1 hR.2 hKn.2.1 rfl fun H1 kC hkC e1 z1 o1 => ?_
  have hgs : gc (nw σ (ci + 1)) (hs σ) = ci + 1 := by show (if hs σ = hs σ then ci + 1 else gc σ (hs σ)) = _; simp
  have hk := kk H1 locs ls ?_ ⟨Nat.le_trans hS.1 (by omega), fun x h1 h2 => (o1 x (Nat.lt_of_lt_of_le h1 hS.1)).trans (hS.2.1 x h1 h2), hS.2.2⟩ ?_ hl
  · rw [← hH.1] at hk
    exact hk
  · refine hH.grow rfl rfl z1 o1 (fun b hb c => fl_nw hb c) (fun _ _ _ => rfl) ⟨fun ci2 hc2 hci2 => ?_, fun hc2 => ?_⟩
    · have e5 : ci2 = ci := by rw [hgs] at hc2; omega
      subst e5
      rw [← hH.1]
      rw [hH.1] at e1 ⊢
      exact ⟨_, hc, (u_born ty0 E.ts hin hKn hkC e1 hty).to hfs⟩
    · rw [hgs] at hc2
      omega
  · intro b hb1 hb2
    by_cases hba : b = hs σ
    · subst hba
      exact E.fr _ (by rw [← hH.1]; exact hS.1)
    · have hgb : gc (nw σ (ci + 1)) b = gc σ b := by show (if b = hs σ then ci + 1 else gc σ b) = _; simp [hba]
      exact hP b (by rw [← hgb]; exact hb1) (by rw [← hgb]; exact hb2)
theorem HW.arr {d : Dp} {H : Heap} (hH : HW d σ H) {a : Nat} (hg : 10 ≤ gc σ a ∧ gc σ a ≠ 14) : H[a]? = some (vp_cell (cA d (gc σ a)) (ac (gc σ a) σ a)) := by
  obtain ⟨cell, q1, q2, q3⟩ := (hH.2 a (by omega)).2.2 hg.1
  rw [← q2 hg.2]
  exact q1
theorem HW.arP {d : Dp} {H : Heap} (hH : HW d σ H) {a : Nat} (hg : 10 ≤ gc σ a ∧ gc σ a ≠ 14) : va_P d.1 vwCl [(a, .inl (cA d (gc σ a), ac (gc σ a) σ a))] H := p1 (hH.arr hg)
theorem r_iald (E : Ev p s m args meth c own cc nL ret d A) {a : Nat} {o : Option Nat} {i : Int32} (hd : decode cc pc = .ok (.iaload, 1)) (ho : o = some a) (hg : gc σ a = 10) (hi : vp_in i (gl σ a)) (kk : Gk p l e R s m args below meth c d A Q nL σ k n (pc + 1) lv (.int (ai σ a i.toNatClampNeg) :: st)) : Gk p l e R s m args below meth c d A Q nL σ k n pc lv (.int i :: va_rf o :: st) := fun H locs ls hH hS hP hl => by
  subst ho
  have h1 := hH.arP (a := a) (by omega)
  rw [hg] at h1
  exact va_iald E.x E.b E.K.1 h1 0 0 rfl rfl hi hd (kk H locs ls hH hS hP hl)
theorem r_lald (E : Ev p s m args meth c own cc nL ret d A) {a : Nat} {o : Option Nat} {i : Int32} (hd : decode cc pc = .ok (.laload, 1)) (ho : o = some a) (hg : gc σ a = 11) (hi : vp_in i (gl σ a)) (kk : Gk p l e R s m args below meth c d A Q nL σ k n (pc + 1) lv (.long (aj σ a i.toNatClampNeg) :: st)) : Gk p l e R s m args below meth c d A Q nL σ k n pc lv (.int i :: va_rf o :: st) := fun H locs ls hH hS hP hl => by
  subst ho
  have h1 := hH.arP (a := a) (by omega)
  rw [hg] at h1
  exact va_lald E.x E.b E.K.1 h1 0 1 rfl rfl hi hd (kk H locs ls hH hS hP hl)
theorem r_aaldT (E : Ev p s m args meth c own cc nL ret d A) {a : Nat} {o : Option Nat} {i : Int32} (hd : decode cc pc = .ok (.aaload, 1)) (ho : o = some a) (hg : gc σ a = 12) (hi : vp_in i (gl σ a)) (kk : Gk p l e R s m args below meth c d A Q nL σ k n (pc + 1) lv (va_rf (ap σ a i.toNatClampNeg) :: st)) : Gk p l e R s m args below meth c d A Q nL σ k n pc lv (.int i :: va_rf o :: st) := fun H locs ls hH hS hP hl => by
  subst ho
  have h1 := hH.arP (a := a) (by omega)
  rw [hg] at h1
  exact va_aldq E.x E.b E.K.1 h1 0 2 rfl rfl hi hd (kk H locs ls hH hS hP hl)
theorem r_aaldO (E : Ev p s m args meth c own cc nL ret d A) {a : Nat} {o : Option Nat} {i : Int32} (hd : decode cc pc = .ok (.aaload, 1)) (ho : o = some a) (hg : gc σ a = 13) (hi : vp_in i (gl σ a)) (kk : Gk p l e R s m args below meth c d A Q nL σ k n (pc + 1) lv (va_rf (ap σ a i.toNatClampNeg) :: st)) : Gk p l e R s m args below meth c d A Q nL σ k n pc lv (.int i :: va_rf o :: st) := fun H locs ls hH hS hP hl => by
  subst ho
  have h1 := hH.arP (a := a) (by omega)
  rw [hg] at h1
  exact va_aldq E.x E.b E.K.1 h1 0 3 rfl rfl hi hd (kk H locs ls hH hS hP hl)
theorem r_alenI (E : Ev p s m args meth c own cc nL ret d A) {a : Nat} {o : Option Nat} (hd : decode cc pc = .ok (.arraylength, 1)) (ho : o = some a) (hg : gc σ a = 10) (kk : Gk p l e R s m args below meth c d A Q nL σ k n (pc + 1) lv (.int (Int32.ofNat (gl σ a)) :: st)) : Gk p l e R s m args below meth c d A Q nL σ k n pc lv (va_rf o :: st) := fun H locs ls hH hS hP hl => by
  subst ho
  have h1 := hH.arP (a := a) (by omega)
  rw [hg] at h1
  exact va_alen E.x E.b E.K.1 h1 0 0 rfl rfl (show Int32.ofNat (ac 10 σ a).1 = Int32.ofNat (gl σ a) from rfl) hd (kk H locs ls hH hS hP hl)
theorem r_alenJ (E : Ev p s m args meth c own cc nL ret d A) {a : Nat} {o : Option Nat} (hd : decode cc pc = .ok (.arraylength, 1)) (ho : o = some a) (hg : gc σ a = 11) (kk : Gk p l e R s m args below meth c d A Q nL σ k n (pc + 1) lv (.int (Int32.ofNat (gl σ a)) :: st)) : Gk p l e R s m args below meth c d A Q nL σ k n pc lv (va_rf o :: st) := fun H locs ls hH hS hP hl => by
  subst ho
  have h1 := hH.arP (a := a) (by omega)
  rw [hg] at h1
  exact va_alen E.x E.b E.K.1 h1 0 1 rfl rfl (show Int32.ofNat (ac 11 σ a).1 = Int32.ofNat (gl σ a) from rfl) hd (kk H locs ls hH hS hP hl)
theorem r_alenT (E : Ev p s m args meth c own cc nL ret d A) {a : Nat} {o : Option Nat} (hd : decode cc pc = .ok (.arraylength, 1)) (ho : o = some a) (hg : gc σ a = 12) (kk : Gk p l e R s m args below meth c d A Q nL σ k n (pc + 1) lv (.int (Int32.ofNat (gl σ a)) :: st)) : Gk p l e R s m args below meth c d A Q nL σ k n pc lv (va_rf o :: st) := fun H locs ls hH hS hP hl => by
  subst ho
  have h1 := hH.arP (a := a) (by omega)
  rw [hg] at h1
  exact va_alen E.x E.b E.K.1 h1 0 2 rfl rfl (show Int32.ofNat (ac 12 σ a).1 = Int32.ofNat (gl σ a) from rfl) hd (kk H locs ls hH hS hP hl)
theorem r_alenO (E : Ev p s m args meth c own cc nL ret d A) {a : Nat} {o : Option Nat} (hd : decode cc pc = .ok (.arraylength, 1)) (ho : o = some a) (hg : gc σ a = 13) (kk : Gk p l e R s m args below meth c d A Q nL σ k n (pc + 1) lv (.int (Int32.ofNat (gl σ a)) :: st)) : Gk p l e R s m args below meth c d A Q nL σ k n pc lv (va_rf o :: st) := fun H locs ls hH hS hP hl => by
  subst ho
  have h1 := hH.arP (a := a) (by omega)
  rw [hg] at h1
  exact va_alen E.x E.b E.K.1 h1 0 3 rfl rfl (show Int32.ofNat (ac 13 σ a).1 = Int32.ofNat (gl σ a) from rfl) hd (kk H locs ls hH hS hP hl)
theorem r_alenE (E : Ev p s m args meth c own cc nL ret d A) {a : Nat} {o : Option Nat} (hd : decode cc pc = .ok (.arraylength, 1)) (ho : o = some a) (hg : gc σ a = 14) (kk : Gk p l e R s m args below meth c d A Q nL σ k n (pc + 1) lv (.int (Int32.ofNat (gl σ a)) :: st)) : Gk p l e R s m args below meth c d A Q nL σ k n pc lv (va_rf o :: st) := fun H locs ls hH hS hP hl => by
  subst ho
  obtain ⟨cell, q1, -, q3⟩ := (hH.2 a (by omega)).2.2 (by omega)
  obtain ⟨z1, z2, z3⟩ := q3 hg
  obtain ⟨-, kA, k1, comp, k2⟩ := (E.K.1.2 3 _ rfl).1 0 (fun _ => .null)
  have k1' : s.vm.classes[cell.cls]? = some kA := by rw [z2]; exact k1
  exact W.alen (n := Int32.ofNat (gl σ a)) E.x E.b q1 ⟨z1, kA, k1', comp, k2⟩ (by rw [z3]; rfl) rfl rfl hd (kk H locs ls hH hS hP hl)
theorem r_iast (E : Ev p s m args meth c own cc nL ret d A) {a : Nat} {o : Option Nat} {i : Int32} {x : Int32} (hd : decode cc pc = .ok (.iastore, 1)) (ho : o = some a) (hg : gc σ a = 10) (hi : vp_in i (gl σ a)) (kk : Gk p l e R s m args below meth c d A Q nL (wi σ a i.toNatClampNeg x) k n (pc + 1) lv st) : Gk p l e R s m args below meth c d A Q nL σ k n pc lv (.int x :: .int i :: va_rf o :: st) := fun H locs ls hH hS hP hl => by
  subst ho
  have h1 := hH.arr (a := a) (by omega)
  rw [hg] at h1
  refine W.iast E.x E.b h1 ((E.K.1.2 0 _ rfl).1 (gl σ a) (fun j => Value.int (ai σ a j))) (fun q => by cases q) (by show ¬ (i < 0 ∨ (arrV _ _ _).slots.size ≤ _); rw [arrV_size]; exact hi) rfl rfl hd fun H' e1 e2 e3 => ?_
  refine kk H' _ ls ?_ (hS.put e2 e3 (hP a (by omega) (by omega))) (fun b h3 h4 => hP b h3 h4) hl
  refine hH.up (a := a) rfl rfl e2 e3 (fun _ _ _ => rfl) (fun b hb c => ac_wi hb c) ⟨fun ci2 hc2 hci2 => ?_, fun hc2 => xc_of (show gc σ a ≠ 14 by omega) ?_⟩
  · have hc3 : gc σ a = ci2 + 1 := hc2
    omega
  · show H'[a]? = some (vp_cell (cA d (gc σ a)) (ac (gc σ a) (wi σ a i.toNatClampNeg x) a))
    rw [hg, e1]
    show some ((arrV (cA d 10) (gl σ a) _).setSlot _ _) = some (vp_cell (cA d 10) (gl σ a, .inl (ai (wi σ a i.toNatClampNeg x) a)))
    rw [arrV_store, wi_at, vp_cell_i]
    refine congrArg (fun z => some (arrV (cA d 10) (gl σ a) z)) ?_
    funext q
    by_cases hq : q = i.toNatClampNeg
    · subst hq
      simp [updV, upd, va_rf]
    · simp [updV, upd, hq]
theorem r_last (E : Ev p s m args meth c own cc nL ret d A) {a : Nat} {o : Option Nat} {i : Int32} {x : Int64} (hd : decode cc pc = .ok (.lastore, 1)) (ho : o = some a) (hg : gc σ a = 11) (hi : vp_in i (gl σ a)) (kk : Gk p l e R s m args below meth c d A Q nL (wj σ a i.toNatClampNeg x) k n (pc + 1) lv st) : Gk p l e R s m args below meth c d A Q nL σ k n pc lv (.long x :: .int i :: va_rf o :: st) := fun H locs ls hH hS hP hl => by
  subst ho
  have h1 := hH.arr (a := a) (by omega)
  rw [hg] at h1
  refine W.last E.x E.b h1 ((E.K.1.2 1 _ rfl).1 (gl σ a) (fun j => Value.long (aj σ a j))) (fun q => by cases q) (by show ¬ (i < 0 ∨ (arrV _ _ _).slots.size ≤ _); rw [arrV_size]; exact hi) rfl rfl hd fun H' e1 e2 e3 => ?_
  refine kk H' _ ls ?_ (hS.put e2 e3 (hP a (by omega) (by omega))) (fun b h3 h4 => hP b h3 h4) hl
  refine hH.up (a := a) rfl rfl e2 e3 (fun _ _ _ => rfl) (fun b hb c => ac_wj hb c) ⟨fun ci2 hc2 hci2 => ?_, fun hc2 => xc_of (show gc σ a ≠ 14 by omega) ?_⟩
  · have hc3 : gc σ a = ci2 + 1 := hc2
    omega
  · show H'[a]? = some (vp_cell (cA d (gc σ a)) (ac (gc σ a) (wj σ a i.toNatClampNeg x) a))
    rw [hg, e1]
    show some ((arrV (cA d 11) (gl σ a) _).setSlot _ _) = some (vp_cell (cA d 11) (gl σ a, .inr (.inl (aj (wj σ a i.toNatClampNeg x) a))))
    rw [arrV_store, wj_at, vp_cell_l]
    refine congrArg (fun z => some (arrV (cA d 11) (gl σ a) z)) ?_
    funext q
    by_cases hq : q = i.toNatClampNeg
    · subst hq
      simp [updV, vp_updL, va_rf]
    · simp [updV, vp_updL, hq]
theorem r_aastT (E : Ev p s m args meth c own cc nL ret d A) {a v : Nat} {o o2 : Option Nat} {i : Int32} (hd : decode cc pc = .ok (.aastore, 1)) (ho : o = some a) (hg : gc σ a = 12) (hi : vp_in i (gl σ a)) (ho2 : o2 = some v) (hgv : gc σ v = 7) (kk : Gk p l e R s m args below meth c d A Q nL (wp σ a i.toNatClampNeg o2) k n (pc + 1) lv st) : Gk p l e R s m args below meth c d A Q nL σ k n pc lv (va_rf o2 :: .int i :: va_rf o :: st) := fun H locs ls hH hS hP hl => by
  subst ho
  subst ho2
  have h1 := hH.arr (a := a) (by omega)
  rw [hg] at h1
  have h0 : ¬ i < 0 := fun q => hi (Or.inl q)
  have hlt : i.toNatClampNeg < gl σ a := Nat.not_le.mp fun q => hi (Or.inr q)
  have hcls := (E.K.1.1 6 _ rfl).2
  obtain ⟨kA, comp, k1, k2, k3, -⟩ := (E.K.1.2 2 _ rfl).2
  have hcomp : comp = d.1.1 6 := Option.some.inj (k3.symm.trans hcls.1)
  subst hcomp
  obtain ⟨kC, hkC, -⟩ := hcls.2
  have hkV := hkC
  obtain ⟨r', hr', cellV, g1, g2, g3, -⟩ := (hH.2 v (by omega)).2.1 6 hgv (by omega)
  have hasg : s.vm.assignable cellV.cls (d.1.1 6) = true := by rw [g2]; exact va_assign hcls
  refine W.aast E.x E.b h1 (fun q h => by cases h) (fun h => by cases h) k1 k2 rfl hkC ⟨h0, by show _ < (arrV _ _ _).slots.size; rw [arrV_size]; exact hlt⟩ g1 (fun q h => by rw [g3] at h; cases h) (by rw [g2]; exact hkV) hasg rfl rfl hd fun H' e1 e2 e3 => ?_
  refine kk H' _ ls ?_ (hS.put e2 e3 (hP a (by omega) (by omega))) (fun b h3 h4 => hP b h3 h4) hl
  refine hH.up (a := a) rfl rfl e2 e3 (fun _ _ _ => rfl) (fun b hb c => ac_wp hb c) ⟨fun ci2 hc2 hci2 => ?_, fun hc2 => xc_of (show gc σ a ≠ 14 by omega) ?_⟩
  · have hc3 : gc σ a = ci2 + 1 := hc2
    omega
  · show H'[a]? = some (vp_cell (cA d (gc σ a)) (ac (gc σ a) (wp σ a i.toNatClampNeg (some v)) a))
    rw [hg, e1]
    show some ((arrV (cA d 12) (gl σ a) _).setSlot _ _) = some (vp_cell (cA d 12) (gl σ a, .inr (.inr (.inr (.inr (ap (wp σ a i.toNatClampNeg (some v)) a))))))
    rw [arrV_store, wp_at, vp_cell_q]
    refine congrArg (fun z => some (arrV (cA d 12) (gl σ a) z)) ?_
    funext q
    by_cases hq : q = i.toNatClampNeg
    · subst hq
      simp [updV, va_up, va_rf]
    · simp [updV, va_up, hq]
theorem r_aastNT (E : Ev p s m args meth c own cc nL ret d A) {a : Nat} {o o2 : Option Nat} {i : Int32} (hd : decode cc pc = .ok (.aastore, 1)) (ho : o = some a) (hg : gc σ a = 12) (hi : vp_in i (gl σ a)) (ho2 : o2 = none) (kk : Gk p l e R s m args below meth c d A Q nL (wp σ a i.toNatClampNeg o2) k n (pc + 1) lv st) : Gk p l e R s m args below meth c d A Q nL σ k n pc lv (va_rf o2 :: .int i :: va_rf o :: st) := fun H locs ls hH hS hP hl => by
  subst ho
  subst ho2
  have h1 := hH.arr (a := a) (by omega)
  rw [hg] at h1
  refine va_WaastN (C := "FrameTalk$Thing") E.x E.b h1 ((E.K.1.2 2 _ rfl).1 (gl σ a) (fun j => va_rf (ap σ a j))) (fun h => by cases h) (by show ¬ (i < 0 ∨ (arrV _ _ _).slots.size ≤ _); rw [arrV_size]; exact hi) rfl rfl hd fun H' e1 e2 e3 => ?_
  refine kk H' _ ls ?_ (hS.put e2 e3 (hP a (by omega) (by omega))) (fun b h3 h4 => hP b h3 h4) hl
  refine hH.up (a := a) rfl rfl e2 e3 (fun _ _ _ => rfl) (fun b hb c => ac_wp hb c) ⟨fun ci2 hc2 hci2 => ?_, fun hc2 => xc_of (show gc σ a ≠ 14 by omega) ?_⟩
  · have hc3 : gc σ a = ci2 + 1 := hc2
    omega
  · show H'[a]? = some (vp_cell (cA d (gc σ a)) (ac (gc σ a) (wp σ a i.toNatClampNeg none) a))
    rw [hg, e1]
    show some ((arrV (cA d 12) (gl σ a) _).setSlot _ _) = some (vp_cell (cA d 12) (gl σ a, .inr (.inr (.inr (.inr (ap (wp σ a i.toNatClampNeg none) a))))))
    rw [arrV_store, wp_at, vp_cell_q]
    refine congrArg (fun z => some (arrV (cA d 12) (gl σ a) z)) ?_
    funext q
    by_cases hq : q = i.toNatClampNeg
    · subst hq
      simp [updV, va_up, va_rf]
    · simp [updV, va_up, hq]
theorem r_aastO (E : Ev p s m args meth c own cc nL ret d A) {a v : Nat} {o o2 : Option Nat} {i : Int32} (hd : decode cc pc = .ok (.aastore, 1)) (ho : o = some a) (hg : gc σ a = 13) (hi : vp_in i (gl σ a)) (ho2 : o2 = some v) (hgv : gc σ v = 5) (hob : ∀ comp : ClassId, s.vm.findClass "java/lang/Object" = some comp → ∃ kC : Class, s.vm.classes[comp]? = some kC) (kk : Gk p l e R s m args below meth c d A Q nL (wp σ a i.toNatClampNeg o2) k n (pc + 1) lv st) : Gk p l e R s m args below meth c d A Q nL σ k n pc lv (va_rf o2 :: .int i :: va_rf o :: st) := fun H locs ls hH hS hP hl => by
  subst ho
  subst ho2
  have h1 := hH.arr (a := a) (by omega)
  rw [hg] at h1
  have h0 : ¬ i < 0 := fun q => hi (Or.inl q)
  have hlt : i.toNatClampNeg < gl σ a := Nat.not_le.mp fun q => hi (Or.inr q)
  have hcls := (E.K.1.1 4 _ rfl).2
  obtain ⟨kA, comp, k1, k2, k3, -⟩ := (E.K.1.2 3 _ rfl).2
  obtain ⟨kV, hkV, -⟩ := hcls.2
  obtain ⟨c0, t0, f1, f2, f3⟩ := Cond.castable_spec (va_Nw.use (A := args) rfl E.K.2.2.2.2.2.2.2)
  have e7 : c0 = d.1.1 4 := Option.some.inj (f1.symm.trans hcls.1)
  have e8 : t0 = comp := Option.some.inj (f2.symm.trans k3)
  subst e7
  subst e8
  obtain ⟨r', hr', cellV, g1, g2, g3, -⟩ := (hH.2 v (by omega)).2.1 4 hgv (by omega)
  have hasg : s.vm.assignable cellV.cls t0 = true := by rw [g2]; exact f3
  obtain ⟨kC, hkC⟩ : ∃ kC : Class, s.vm.classes[t0]? = some kC := hob _ k3
  refine W.aast E.x E.b h1 (fun q h => by cases h) (fun h => by cases h) k1 k2 rfl hkC ⟨h0, by show _ < (arrV _ _ _).slots.size; rw [arrV_size]; exact hlt⟩ g1 (fun q h => by rw [g3] at h; cases h) (by rw [g2]; exact hkV) hasg rfl rfl hd fun H' e1 e2 e3 => ?_
  refine kk H' _ ls ?_ (hS.put e2 e3 (hP a (by omega) (by omega))) (fun b h3 h4 => hP b h3 h4) hl
  refine hH.up (a := a) rfl rfl e2 e3 (fun _ _ _ => rfl) (fun b hb c => ac_wp hb c) ⟨fun ci2 hc2 hci2 => ?_, fun hc2 => xc_of (show gc σ a ≠ 14 by omega) ?_⟩
  · have hc3 : gc σ a = ci2 + 1 := hc2
    omega
  · show H'[a]? = some (vp_cell (cA d (gc σ a)) (ac (gc σ a) (wp σ a i.toNatClampNeg (some v)) a))
    rw [hg, e1]
    show some ((arrV (cA d 13) (gl σ a) _).setSlot _ _) = some (vp_cell (cA d 13) (gl σ a, .inr (.inr (.inr (.inr (ap (wp σ a i.toNatClampNeg (some v)) a))))))
    rw [arrV_store, wp_at, vp_cell_q]
    refine congrArg (fun z => some (arrV (cA d 13) (gl σ a) z)) ?_
    funext q
    by_cases hq : q = i.toNatClampNeg
    · subst hq
      simp [updV, va_up, va_rf]
    · simp [updV, va_up, hq]
theorem r_aastNO (E : Ev p s m args meth c own cc nL ret d A) {a : Nat} {o o2 : Option Nat} {i : Int32} (hd : decode cc pc = .ok (.aastore, 1)) (ho : o = some a) (hg : gc σ a = 13) (hi : vp_in i (gl σ a)) (ho2 : o2 = none) (kk : Gk p l e R s m args below meth c d A Q nL (wp σ a i.toNatClampNeg o2) k n (pc + 1) lv st) : Gk p l e R s m args below meth c d A Q nL σ k n pc lv (va_rf o2 :: .int i :: va_rf o :: st) := fun H locs ls hH hS hP hl => by
  subst ho
  subst ho2
  have h1 := hH.arr (a := a) (by omega)
  rw [hg] at h1
  refine va_WaastN (C := "java/lang/Object") E.x E.b h1 ((E.K.1.2 3 _ rfl).1 (gl σ a) (fun j => va_rf (ap σ a j))) (fun h => by cases h) (by show ¬ (i < 0 ∨ (arrV _ _ _).slots.size ≤ _); rw [arrV_size]; exact hi) rfl rfl hd fun H' e1 e2 e3 => ?_
  refine kk H' _ ls ?_ (hS.put e2 e3 (hP a (by omega) (by omega))) (fun b h3 h4 => hP b h3 h4) hl
  refine hH.up (a := a) rfl rfl e2 e3 (fun _ _ _ => rfl) (fun b hb c => ac_wp hb c) ⟨fun ci2 hc2 hci2 => ?_, fun hc2 => xc_of (show gc σ a ≠ 14 by omega) ?_⟩
  · have hc3 : gc σ a = ci2 + 1 := hc2
    omega
  · show H'[a]? = some (vp_cell (cA d (gc σ a)) (ac (gc σ a) (wp σ a i.toNatClampNeg none) a))
    rw [hg, e1]
    show some ((arrV (cA d 13) (gl σ a) _).setSlot _ _) = some (vp_cell (cA d 13) (gl σ a, .inr (.inr (.inr (.inr (ap (wp σ a i.toNatClampNeg none) a))))))
    rw [arrV_store, wp_at, vp_cell_q]
    refine congrArg (fun z => some (arrV (cA d 13) (gl σ a) z)) ?_
    funext q
    by_cases hq : q = i.toNatClampNeg
    · subst hq
      simp [updV, va_up, va_rf]
    · simp [updV, va_up, hq]
theorem r_newaI (E : Ev p s m args meth c own cc nL ret d A) {i : Int32} (hd : decode cc pc = .ok (.newarray .int, 2)) (w1 : Cond.arrayClass (newarray.typeOf .int) ∈ wsL_law) (hn : ¬ i < 0) (hb : i.toNatClampNeg * componentBytes (newarray.typeOf .int) ≤ 536870912) (hR : k + 1 ≤ R.cells ∧ n + i.toNatClampNeg ≤ R.slots) (kk : Gk p l e R s m args below meth c d A Q nL (na σ 10 i.toNatClampNeg) (k + 1) (n + i.toNatClampNeg) (pc + 2) lv (va_rf (some (hs σ)) :: st)) : Gk p l e R s m args below meth c d A Q nL σ k n pc lv (.int i :: st) := fun H locs ls hH hS hP hl => by
  refine va_newaK E.x E.b (E.ts _ w1) rfl hd rfl hn rfl hb hR.1 hR.2 rfl fun H1 cA1 e1 z1 o1 hAr hNm => ?_
  have hcA : cA d 10 = cA1 := Option.some.inj ((E.K.1.2 0 _ rfl).2.symm.trans hNm)
  have hgs : gc (na σ 10 i.toNatClampNeg) (hs σ) = 10 := by show (if hs σ = hs σ then 10 else gc σ (hs σ)) = _; simp
  have hk := kk H1 locs ls ?_ ⟨Nat.le_trans hS.1 (by omega), fun x h1 h2 => (o1 x (Nat.lt_of_lt_of_le h1 hS.1)).trans (hS.2.1 x h1 h2), hS.2.2⟩ ?_ hl
  · rw [← hH.1] at hk
    exact hk
  · refine hH.grow rfl rfl z1 o1 (fun _ _ _ => rfl) (fun b hb c => ac_na hb c) ⟨fun ci2 hc2 hci2 => ?_, fun hc2 => xc_of (by rw [hgs]; omega) ?_⟩
    · rw [hgs] at hc2
      omega
    · rw [hgs, ← hH.1, e1]
      have f0 : gl (na σ 10 i.toNatClampNeg) H.size = i.toNatClampNeg := by show (if H.size = hs σ then i.toNatClampNeg else gl σ H.size) = _; simp [hH.1]
      have f1 : ai (na σ 10 i.toNatClampNeg) H.size = (fun _ => (0 : Int32)) := by show (if H.size = hs σ then (fun _ => (0 : Int32)) else ai σ H.size) = _; simp [hH.1]
      show _ = some (vp_cell (cA d 10) (gl (na σ 10 i.toNatClampNeg) H.size, .inl (ai (na σ 10 i.toNatClampNeg) H.size)))
      rw [f0, f1, hcA]
      rfl
  · intro b hb1 hb2
    by_cases hba : b = hs σ
    · subst hba
      exact E.fr _ (by rw [← hH.1]; exact hS.1)
    · have hgb : gc (na σ 10 i.toNatClampNeg) b = gc σ b := by show (if b = hs σ then 10 else gc σ b) = _; simp [hba]
      exact hP b (by rw [← hgb]; exact hb1) (by rw [← hgb]; exact hb2)
theorem r_newaJ (E : Ev p s m args meth c own cc nL ret d A) {i : Int32} (hd : decode cc pc = .ok (.newarray .long, 2)) (w1 : Cond.arrayClass (newarray.typeOf .long) ∈ wsL_law) (hn : ¬ i < 0) (hb : i.toNatClampNeg * componentBytes (newarray.typeOf .long) ≤ 536870912) (hR : k + 1 ≤ R.cells ∧ n + i.toNatClampNeg ≤ R.slots) (kk : Gk p l e R s m args below meth c d A Q nL (na σ 11 i.toNatClampNeg) (k + 1) (n + i.toNatClampNeg) (pc + 2) lv (va_rf (some (hs σ)) :: st)) : Gk p l e R s m args below meth c d A Q nL σ k n pc lv (.int i :: st) := fun H locs ls hH hS hP hl => by
  refine va_newaK E.x E.b (E.ts _ w1) rfl hd rfl hn rfl hb hR.1 hR.2 rfl fun H1 cA1 e1 z1 o1 hAr hNm => ?_
  have hcA : cA d 11 = cA1 := Option.some.inj ((E.K.1.2 1 _ rfl).2.symm.trans hNm)
  have hgs : gc (na σ 11 i.toNatClampNeg) (hs σ) = 11 := by show (if hs σ = hs σ then 11 else gc σ (hs σ)) = _; simp
  have hk := kk H1 locs ls ?_ ⟨Nat.le_trans hS.1 (by omega), fun x h1 h2 => (o1 x (Nat.lt_of_lt_of_le h1 hS.1)).trans (hS.2.1 x h1 h2), hS.2.2⟩ ?_ hl
  · rw [← hH.1] at hk
    exact hk
  · refine hH.grow rfl rfl z1 o1 (fun _ _ _ => rfl) (fun b hb c => ac_na hb c) ⟨fun ci2 hc2 hci2 => ?_, fun hc2 => xc_of (by rw [hgs]; omega) ?_⟩
    · rw [hgs] at hc2
      omega
    · rw [hgs, ← hH.1, e1]
      have f0 : gl (na σ 11 i.toNatClampNeg) H.size = i.toNatClampNeg := by show (if H.size = hs σ then i.toNatClampNeg else gl σ H.size) = _; simp [hH.1]
      have f1 : aj (na σ 11 i.toNatClampNeg) H.size = (fun _ => (0 : Int64)) := by show (if H.size = hs σ then (fun _ => (0 : Int64)) else aj σ H.size) = _; simp [hH.1]
      show _ = some (vp_cell (cA d 11) (gl (na σ 11 i.toNatClampNeg) H.size, .inr (.inl (aj (na σ 11 i.toNatClampNeg) H.size))))
      rw [f0, f1, hcA]
      rfl
  · intro b hb1 hb2
    by_cases hba : b = hs σ
    · subst hba
      exact E.fr _ (by rw [← hH.1]; exact hS.1)
    · have hgb : gc (na σ 11 i.toNatClampNeg) b = gc σ b := by show (if b = hs σ then 11 else gc σ b) = _; simp [hba]
      exact hP b (by rw [← hgb]; exact hb1) (by rw [← hgb]; exact hb2)
theorem r_anewT (E : Ev p s m args meth c own cc nL ret d A) {i : Int32} {ix : Nat} (hd : decode cc pc = .ok (.anewarray ix, 3)) (w1 : Cond.classLink own ix "FrameTalk$Thing" ∈ wsL_law) (hn : ¬ i < 0) (hb : i.toNatClampNeg * 4 ≤ 536870912) (hR : k + 1 ≤ R.cells ∧ n + i.toNatClampNeg ≤ R.slots) (kk : Gk p l e R s m args below meth c d A Q nL (na σ 12 i.toNatClampNeg) (k + 1) (n + i.toNatClampNeg) (pc + 3) lv (va_rf (some (hs σ)) :: st)) : Gk p l e R s m args below meth c d A Q nL σ k n pc lv (.int i :: st) := fun H locs ls hH hS hP hl => by
  refine W.anew E.x E.b E.ow (E.ts _ w1) (va_AO.use E.K.2.2.2.2.2.1) rfl hd rfl hn hb hR.1 hR.2 fun cA1 kA comp f1 f2 f3 f4 => ?_
  generalize hH1 : H.push ({ cls := cA1, slots := Array.replicate i.toNatClampNeg .null, vm := .none } : Cell) = H1
  have z1 : H1.size = H.size + 1 := by rw [← hH1, Array.size_push]
  have e1 : H1[H.size]? = some (arrV cA1 i.toNatClampNeg (fun _ => .null)) := by rw [← hH1, Array.getElem?_push_size, ← arrV_new]
  have o1 : ∀ q : Nat, q < H.size → H1[q]? = H[q]? := fun q hq => by rw [← hH1, Array.getElem?_push, if_neg (Nat.ne_of_lt hq)]
  have hcA : cA d 12 = cA1 := by
    obtain ⟨-, -, -, -, -, h4⟩ := (E.K.1.2 2 _ rfl).2
    exact Option.some.inj (h4.symm.trans f1)
  have hgs : gc (na σ 12 i.toNatClampNeg) (hs σ) = 12 := by show (if hs σ = hs σ then 12 else gc σ (hs σ)) = _; simp
  have hk := kk H1 locs ls ?_ ⟨Nat.le_trans hS.1 (by omega), fun x h1 h2 => (o1 x (Nat.lt_of_lt_of_le h1 hS.1)).trans (hS.2.1 x h1 h2), hS.2.2⟩ ?_ hl
  · rw [← hH.1] at hk
    exact hk
  · refine hH.grow rfl rfl z1 o1 (fun _ _ _ => rfl) (fun b hb c => ac_na hb c) ⟨fun ci2 hc2 hci2 => ?_, fun hc2 => xc_of (by rw [hgs]; omega) ?_⟩
    · rw [hgs] at hc2
      omega
    · rw [hgs, ← hH.1, e1]
      have f0 : gl (na σ 12 i.toNatClampNeg) H.size = i.toNatClampNeg := by show (if H.size = hs σ then i.toNatClampNeg else gl σ H.size) = _; simp [hH.1]
      have f1 : ap (na σ 12 i.toNatClampNeg) H.size = (fun _ => (none : Option Nat)) := by show (if H.size = hs σ then (fun _ => (none : Option Nat)) else ap σ H.size) = _; simp [hH.1]
      show _ = some (vp_cell (cA d 12) (gl (na σ 12 i.toNatClampNeg) H.size, .inr (.inr (.inr (.inr (ap (na σ 12 i.toNatClampNeg) H.size))))))
      rw [f0, f1, hcA]
      rfl
  · intro b hb1 hb2
    by_cases hba : b = hs σ
    · subst hba
      exact E.fr _ (by rw [← hH.1]; exact hS.1)
    · have hgb : gc (na σ 12 i.toNatClampNeg) b = gc σ b := by show (if b = hs σ then 12 else gc σ b) = _; simp [hba]
      exact hP b (by rw [← hgb]; exact hb1) (by rw [← hgb]; exact hb2)
theorem r_anewO (E : Ev p s m args meth c own cc nL ret d A) {i : Int32} {ix : Nat} (hd : decode cc pc = .ok (.anewarray ix, 3)) (w1 : Cond.classLink own ix "java/lang/Object" ∈ wsL_law) (hn : ¬ i < 0) (hb : i.toNatClampNeg * 4 ≤ 536870912) (hR : k + 1 ≤ R.cells ∧ n + i.toNatClampNeg ≤ R.slots) (kk : Gk p l e R s m args below meth c d A Q nL (na σ 13 i.toNatClampNeg) (k + 1) (n + i.toNatClampNeg) (pc + 3) lv (va_rf (some (hs σ)) :: st)) : Gk p l e R s m args below meth c d A Q nL σ k n pc lv (.int i :: st) := fun H locs ls hH hS hP hl => by
  refine W.anew E.x E.b E.ow (E.ts _ w1) (va_AO.use E.K.2.2.2.2.2.2.1) rfl hd rfl hn hb hR.1 hR.2 fun cA1 kA comp f1 f2 f3 f4 => ?_
  generalize hH1 : H.push ({ cls := cA1, slots := Array.replicate i.toNatClampNeg .null, vm := .none } : Cell) = H1
  have z1 : H1.size = H.size + 1 := by rw [← hH1, Array.size_push]
  have e1 : H1[H.size]? = some (arrV cA1 i.toNatClampNeg (fun _ => .null)) := by rw [← hH1, Array.getElem?_push_size, ← arrV_new]
  have o1 : ∀ q : Nat, q < H.size → H1[q]? = H[q]? := fun q hq => by rw [← hH1, Array.getElem?_push, if_neg (Nat.ne_of_lt hq)]
  have hcA : cA d 13 = cA1 := by
    obtain ⟨-, -, -, -, -, h4⟩ := (E.K.1.2 3 _ rfl).2
    exact Option.some.inj (h4.symm.trans f1)
  have hgs : gc (na σ 13 i.toNatClampNeg) (hs σ) = 13 := by show (if hs σ = hs σ then 13 else gc σ (hs σ)) = _; simp
  have hk := kk H1 locs ls ?_ ⟨Nat.le_trans hS.1 (by omega), fun x h1 h2 => (o1 x (Nat.lt_of_lt_of_le h1 hS.1)).trans (hS.2.1 x h1 h2), hS.2.2⟩ ?_ hl
  · rw [← hH.1] at hk
    exact hk
  · refine hH.grow rfl rfl z1 o1 (fun _ _ _ => rfl) (fun b hb c => ac_na hb c) ⟨fun ci2 hc2 hci2 => ?_, fun hc2 => xc_of (by rw [hgs]; omega) ?_⟩
    · rw [hgs] at hc2
      omega
    · rw [hgs, ← hH.1, e1]
      have f0 : gl (na σ 13 i.toNatClampNeg) H.size = i.toNatClampNeg := by show (if H.size = hs σ then i.toNatClampNeg else gl σ H.size) = _; simp [hH.1]
      have f1 : ap (na σ 13 i.toNatClampNeg) H.size = (fun _ => (none : Option Nat)) := by show (if H.size = hs σ then (fun _ => (none : Option Nat)) else ap σ H.size) = _; simp [hH.1]
      show _ = some (vp_cell (cA d 13) (gl (na σ 13 i.toNatClampNeg) H.size, .inr (.inr (.inr (.inr (ap (na σ 13 i.toNatClampNeg) H.size))))))
      rw [f0, f1, hcA]
      rfl
  · intro b hb1 hb2
    by_cases hba : b = hs σ
    · subst hba
      exact E.fr _ (by rw [← hH.1]; exact hS.1)
    · have hgb : gc (na σ 13 i.toNatClampNeg) b = gc σ b := by show (if b = hs σ then 13 else gc σ b) = _; simp [hba]
      exact hP b (by rw [← hgb]; exact hb1) (by rw [← hgb]; exact hb2)
theorem r_cast (E : Ev p s m args meth c own cc nL ret d A) {ci ix a N : Nat} {C : String} {T : u_T} {o : Option Nat} (hd : decode cc pc = .ok (.checkcast ix, 3)) (w1 : Cond.classLink own ix C ∈ wsL_law) (hc : vwCl[ci]? = some (C, T, N)) (hci : ci < 9) (ho : o = some a) (hg : gc σ a = ci + 1) (kk : Gk p l e R s m args below meth c d A Q nL σ k n (pc + 3) lv (va_rf o :: st)) : Gk p l e R s m args below meth c d A Q nL σ k n pc lv (va_rf o :: st) := fun H locs ls hH hS hP hl => by
  subst ho
  exact va_castS E.x E.b E.ow (E.ts _ w1) (E.K.1.1 ci _ hc).2 (va_recv E.K.1 (p1 ((hH.2 a (by omega)).2.1 ci hg hci)) hc (q0 := 0) rfl) hd (kk H locs ls hH hS hP hl)
theorem r_castN (E : Ev p s m args meth c own cc nL ret d A) {ix : Nat} {o : Option Nat} (hd : decode cc pc = .ok (.checkcast ix, 3)) (ho : o = none) (kk : Gk p l e R s m args below meth c d A Q nL σ k n (pc + 3) lv (va_rf o :: st)) : Gk p l e R s m args below meth c d A Q nL σ k n pc lv (va_rf o :: st) := fun H locs ls hH hS hP hl => by
  subst ho
  exact lv_castN E.x E.b hd (kk H locs ls hH hS hP hl)
theorem r_gets (E : Ev p s m args meth c own cc nL ret d A) {ix : Nat} (hd : decode cc pc = .ok (.getstatic ix, 3)) (w1 : Cond.fieldLink own ix "java/util/ArrayList" "DEFAULTCAPACITY_EMPTY_ELEMENTDATA" "[Ljava/lang/Object;" ∈ wsL_law) (kk : Gk p l e R s m args below meth c d A Q nL σ k n (pc + 3) lv (va_rf (some (dfl d)) :: st)) : Gk p l e R s m args below meth c d A Q nL σ k n pc lv st := fun H locs ls hH hS hP hl =>
  va_gets E.x E.b E.Z hS E.ow (E.ts _ w1) (fun _ h => h) hd (kk H locs ls hH hS hP hl)
theorem r_objInit (E : Ev p s m args meth c own cc nL ret d A) {ix : Nat} {o : Option Nat} {a : Nat} (hd : decode cc pc = .ok (.invokespecial ix, 3)) (w1 : Cond.methodLink own ix Lib.objectInit ∈ wsL_law) (w2 : Cond.instanceMethod Lib.objectInit ∈ wsL_law) (w3 : Cond.code Lib.objectInit ⟨#[0xb1]⟩ 1 none ∈ wsL_law) (ho : o = some a) (hR : 1 ≤ R.frames ∧ (st.map fun v => v.category).sum + 12 ≤ R.locals) (kk : Gk p l e R s m args below meth c d A Q nL σ k n (pc + 3) lv st) : Gk p l e R s m args below meth c d A Q nL σ k n pc lv (va_rf o :: st) := fun H locs ls hH hS hP hl => by
  subst ho
  exact W.objInit E.x E.b E.ow (E.ts _ w1) (E.ts _ w2) (E.ts _ w3) rfl (by rw [E.ml]; exact hl.1) rfl hd hR.1 (by show 2 * 0 + _ + 12 ≤ _; omega) (kk H locs ls hH hS hP hl)
def QQ (d : Dp) (σ0 : Sg) (r : Option Value) (σ' : Sg) : Array Value → State → Outcome → State → Prop := fun _ st oc t => oc = .returned r ∧ HW d σ' t.heap ∧ PA (AA σ0) σ' ∧ va_F (AA σ0) st t
def PP (d : Dp) (σ : Sg) (As : List Value) : Array Value → State → Prop := va_Pc As (fun U => HW d σ U.heap ∧ KU d U ∧ ZU d (AA σ) U U.heap)
/-- THE CONTRACT: from any heap that holds σ the method returns r, the heap then holds σ', k cells of n slots are new -/
def Mt (l : Launch) (d : Dp) (y : MethodName) (cc : ByteArray) (maxL : Nat) (ret : Option FieldType) (fr lo : Nat) (σ : Sg) (As : List Value) (r : Option Value) (σ' : Sg) (k n : Nat) : Prop :=
  Met l y (Cond.code y cc maxL ret :: wsL_law) { frames := fr, cells := k, slots := n, locals := lo } (PP d σ As) (QQ d σ r σ') k n (AA σ)
theorem PP.blind {As : List Value} : FrameBlind (PP d σ As) := fun a U g mk h => ⟨h.1, h.2.1, h.2.2.1.same rfl, h.2.2.2.moved (Vm.Alike.refl U.vm)⟩
theorem AAA {H : Heap} {locs : List Loc} (hA : ∀ q, s.heap.size ≤ q → A q) (hH : HW d σ H) (hS : va_S A s.heap H locs) (hP : PA A σ) : ∀ q, AA σ q → A q := fun q h => by
  rcases h with h | h
  · exact hP q h.1 h.2
  · exact hA q (Nat.le_trans hS.1 (by rw [hH.1]; exact h))
theorem PP.of (E : Ev p s m args meth c own cc nL ret d A) {H : Heap} {locs : List Loc} (hH : HW d σ H) (hS : va_S A s.heap H locs) (hP : PA A σ) {As : List Value} (U : State) (hU : U.heap = H) (hW : s.WarmedH U.vm) : PP d σ As As.toArray U :=
  ⟨rfl, by rw [hU]; exact hH, E.K.warm hW, by rw [hU]; exact ((E.Z.kept hS.2.1).narrow (AAA E.fr hH hS hP)).moved hW.alike⟩
theorem r_call (E : Ev p s m args meth c own cc nL ret d A) {k1 n1 : Nat} {r : Option Value} {σ1 : Sg} {rest : List Value} {a : Array Value} (run : ∀ (H : Heap) (locs : List Loc) (ls : Array Slot), HW d σ H → va_S A s.heap H locs → PA A σ → lv_has ls nL lv → va_Run p l e R s m args below meth c H locs k n k1 n1 (F0 m pc ls st) rest (QQ d σ r σ1 a) (AA σ)) (kk : Gk p l e R s m args below meth c d A Q nL σ1 (k + k1) (n + n1) (pc + 3) lv (r.toList ++ rest)) : Gk p l e R s m args below meth c d A Q nL σ k n pc lv st := by
  intro H locs ls hH hS hP hl T hT X
  obtain ⟨v, st₀, t, T', L, h0, X', hL, e1, e2, ⟨hv, hH1, hP1, hz, hk⟩, stp⟩ := run H locs ls hH hS hP hl T hT X
  cases hv
  rw [h0] at hz hk
  have hAA := AAA E.fr hH hS hP
  obtain ⟨t2, a1, b1⟩ := kk T'.heap (locs ++ L) ls (by rw [e1]; exact hH1) ⟨Nat.le_trans hS.1 (by rw [e1]; exact hz), fun q h1 h2 => by rw [e1, hk q (Nat.lt_of_lt_of_le h1 hS.1) (fun z => h2 (hAA q z))]; exact hS.2.1 q h1 h2, fun q hq => by
    rcases List.mem_append.mp hq with h | h
    · exact hS.2.2 q h
    · exact hAA _ (hL q h)⟩ (fun b h1 h2 => hAA b (hP1 b h1 h2)) hl T' rfl X'
  exact ⟨t2, stp t2 a1, b1⟩
theorem gdC {y : MethodName} {ccy : ByteArray} {maxL : Nat} {rt : Option FieldType} (w5 : Cond.code y ccy maxL rt ∈ wsL_law) {ex : List Cond} (hex : ∀ w ∈ ex, w ∈ wsL_law) : GoodIn wsL_law (ex ++ (Cond.code y ccy maxL rt :: wsL_law)) := fun w hw => by
  have hm : w ∈ wsL_law := by
    rcases List.mem_append.mp hw with h | h
    · exact hex w h
    · rcases List.mem_cons.mp h with h | h
      · rw [h]; exact w5
      · exact h
  exact ⟨hm, good_of_word (List.all_eq_true.mp gdL w hm)⟩
theorem r_cV (E : Ev p s m args meth c own cc nL ret d A) {ix fr lo k1 n1 maxL nA : Nat} {y : MethodName} {ccy : ByteArray} {rt : Option FieldType} {As rest : List Value} {r : Option Value} {σ1 : Sg} {ci N b : Nat} {C : String} {T : u_T} {o : Option Nat} (hM : Mt l d y ccy maxL rt fr lo σ (.ref b :: As) r σ1 k1 n1) (hd : decode cc pc = .ok (.invokevirtual ix, 3)) (w1 : Cond.methodLink own ix y ∈ wsL_law) (w2 : Cond.instanceMethod y ∈ wsL_law) (w3 : Cond.selects C y y ∈ wsL_law) (w4 : Cond.initialized C ∈ wsL_law) (w5 : Cond.code y ccy maxL rt ∈ wsL_law) (hyc : y.cls = C) (hy : y.cls ≠ "java/lang/invoke/MethodHandle" ∧ y.cls ≠ "java/lang/invoke/VarHandle" ∧ (parseMethodDescriptor y.desc).map (fun d => d.parameters.length) = some nA) (hna : As.length = nA) (hR : fr + 1 ≤ R.frames ∧ 8 + (maxL + 11) + lo ≤ R.locals) (hf : k + k1 ≤ R.cells ∧ n + n1 ≤ R.slots) (hc : vwCl[ci]? = some (C, T, N)) (hci : ci < 9) (ho : o = some b) (hg : gc σ b = ci + 1) (hst : st = As.reverse ++ va_rf o :: rest) (hcat : (rest.map fun v => v.category).sum ≤ 8) (kk : Gk p l e R s m args below meth c d A Q nL σ1 (k + k1) (n + n1) (pc + 3) lv (r.toList ++ rest)) : Gk p l e R s m args below meth c d A Q nL σ k n pc lv st := by
  subst ho
  refine r_call E (a := (Value.ref b :: As).toArray) (fun H locs ls hH hS hP hl => ?_) kk
  refine va_runV (As := As) (rest := rest) ⟨E.x, E.b, E.ml, E.ow, E.ts⟩ hM (cwV nA E.ts (gdC w5 (ex := [.methodLink own ix y, .instanceMethod y, .selects C y y, .initialized C]) ?_) rfl rfl rfl ⟨hyc, hy⟩ hR) ⟨PP.blind, va_recv E.K.1 (p1 ((hH.2 b (by omega)).2.1 ci hg hci)) hc (q0 := 0) rfl, fun U hU hW => PP.of E hH hS hP U hU hW⟩ rfl hna hl.1 hst (lv_room hcat) hd hf
  intro w hw
  simp only [List.mem_cons, List.not_mem_nil, or_false] at hw
  rcases hw with rfl | rfl | rfl | rfl <;> assumption
theorem r_cS (E : Ev p s m args meth c own cc nL ret d A) {ix fr lo k1 n1 maxL nA : Nat} {y : MethodName} {ccy : ByteArray} {rt : Option FieldType} {As rest : List Value} {r : Option Value} {σ1 : Sg} (hM : Mt l d y ccy maxL rt fr lo σ As r σ1 k1 n1) (hd : decode cc pc = .ok (.invokestatic ix, 3)) (w1 : Cond.methodLink own ix y ∈ wsL_law) (w2 : Cond.static y ∈ wsL_law) (w4 : Cond.initialized y.cls ∈ wsL_law) (w5 : Cond.code y ccy maxL rt ∈ wsL_law) (hy : y.cls ≠ "java/lang/invoke/MethodHandle" ∧ y.cls ≠ "java/lang/invoke/VarHandle" ∧ (parseMethodDescriptor y.desc).map (fun d => d.parameters.length) = some nA) (hna : As.length = nA) (hR : fr + 1 ≤ R.frames ∧ 8 + (maxL + 11) + lo ≤ R.locals) (hf : k + k1 ≤ R.cells ∧ n + n1 ≤ R.slots) (hst : st = As.reverse ++ rest) (hcat : (rest.map fun v => v.category).sum ≤ 8) (kk : Gk p l e R s m args below meth c d A Q nL σ1 (k + k1) (n + n1) (pc + 3) lv (r.toList ++ rest)) : Gk p l e R s m args below meth c d A Q nL σ k n pc lv st := by
  refine r_call E (a := As.toArray) (fun H locs ls hH hS hP hl => ?_) kk
  refine va_runS (As := As) (rest := rest) ⟨E.x, E.b, E.ml, E.ow, E.ts⟩ hM (va_cwS nA E.ts (gdC w5 (ex := [.methodLink own ix y, .static y, .initialized y.cls]) ?_) rfl rfl rfl hy hR) ⟨PP.blind, fun U hU hW => PP.of E hH hS hP U hU hW⟩ rfl hna hl.1 hst (lv_room hcat) hd hf
  intro w hw
  simp only [List.mem_cons, List.not_mem_nil, or_false] at hw
  rcases hw with rfl | rfl | rfl <;> assumption
theorem r_cI (E : Ev p s m args meth c own cc nL ret d A) {ix fr lo k1 n1 maxL nA : Nat} {y : MethodName} {ccy : ByteArray} {As rest : List Value} {r : Option Value} {σ1 : Sg} {b : Nat} {o : Option Nat} (hM : Mt l d y ccy maxL none fr lo σ (.ref b :: As) r σ1 k1 n1) (hd : decode cc pc = .ok (.invokespecial ix, 3)) (w1 : Cond.methodLink own ix y ∈ wsL_law) (w2 : Cond.instanceMethod y ∈ wsL_law) (w4 : Cond.initialized y.cls ∈ wsL_law) (w5 : Cond.code y ccy maxL none ∈ wsL_law) (hyn : y.name = "<init>") (hy : y.cls ≠ "java/lang/invoke/MethodHandle" ∧ y.cls ≠ "java/lang/invoke/VarHandle" ∧ (parseMethodDescriptor y.desc).map (fun d => d.parameters.length) = some nA) (hna : As.length = nA) (hR : fr + 1 ≤ R.frames ∧ 8 + (maxL + 11) + lo ≤ R.locals) (hf : k + k1 ≤ R.cells ∧ n + n1 ≤ R.slots) (ho : o = some b) (hst : st = As.reverse ++ va_rf o :: rest) (hcat : (rest.map fun v => v.category).sum ≤ 8) (kk : Gk p l e R s m args below meth c d A Q nL σ1 (k + k1) (n + n1) (pc + 3) lv (r.toList ++ rest)) : Gk p l e R s m args below meth c d A Q nL σ k n pc lv st := by
  subst ho
  refine r_call E (a := (Value.ref b :: As).toArray) (fun H locs ls hH hS hP hl => ?_) kk
  exact va_runI (As := As) (rest := rest) ⟨E.x, E.b, E.ml, E.ow, E.ts⟩ hM (cwI nA E.ts (gdC w5 (ex := []) (fun w hw => by cases hw)) rfl rfl rfl (E.ts _ w4) (E.ts _ w1) (E.ts _ w2) hyn hy hR) ⟨PP.blind, fun U hU hW => PP.of E hH hS hP U hU hW⟩ rfl hna hl.1 hst (lv_room hcat) hd hf
theorem r_cN (E : Ev p s m args meth c own cc nL ret d A) {ix fr lo k1 n1 maxL nA : Nat} {y : MethodName} {ccy : ByteArray} {As rest : List Value} {r : Option Value} {σ1 : Sg} {b : Nat} {o : Option Nat} {host : String} (hM : Mt l d y ccy maxL none fr lo σ (.ref b :: As) r σ1 k1 n1) (hd : decode cc pc = .ok (.invokespecial ix, 3)) (w1 : va_Nw (.methodLinkNest own ix y host) s) (w2 : Cond.instanceMethod y ∈ wsL_law) (w4 : Cond.initialized y.cls ∈ wsL_law) (w5 : Cond.code y ccy maxL none ∈ wsL_law) (hyn : y.name = "<init>") (hy : y.cls ≠ "java/lang/invoke/MethodHandle" ∧ y.cls ≠ "java/lang/invoke/VarHandle" ∧ (parseMethodDescriptor y.desc).map (fun d => d.parameters.length) = some nA) (hna : As.length = nA) (hR : fr + 1 ≤ R.frames ∧ 8 + (maxL + 11) + lo ≤ R.locals) (hf : k + k1 ≤ R.cells ∧ n + n1 ≤ R.slots) (ho : o = some b) (hst : st = As.reverse ++ va_rf o :: rest) (hcat : (rest.map fun v => v.category).sum ≤ 8) (kk : Gk p l e R s m args below meth c d A Q nL σ1 (k + k1) (n + n1) (pc + 3) lv (r.toList ++ rest)) : Gk p l e R s m args below meth c d A Q nL σ k n pc lv st := by
  subst ho
  refine r_call E (a := (Value.ref b :: As).toArray) (fun H locs ls hH hS hP hl => ?_) kk
  exact va_runIN (As := As) (rest := rest) ⟨E.x, E.b, E.ml, E.ow, E.ts⟩ hM ⟨va_cnB nA E.ts (gdC w5 (ex := []) (fun w hw => by cases hw)) rfl rfl rfl w1 (E.ts _ w4) hy hR, hyn, E.ts _ w2⟩ ⟨PP.blind, fun U hU hW => PP.of E hH hS hP U hU hW⟩ rfl hna hl.1 hst (lv_room hcat) hd hf
end HP
section RT
variable {p : Program} {l : Launch} {e : Env} {R : Room} {s : State} {m : MethodId} {args : Array Value} {below : List Frame} {meth : Method} {c : Code} {d : Dp} {nL : Nat} {σ σ0 : Sg} {k n pc : Nat} {lv : List (Nat × Value)} {own : String} {cc : ByteArray}
theorem r_iret (E : Ev p s m args meth c own cc nL (some .int) d (AA σ0)) {v : Int32} (hd : decode cc pc = .ok (.ireturn, 1)) : Gk p l e R s m args below meth c d (AA σ0) (MQ below (QQ d σ0 (some (.int v)) σ) args s k n (AA σ0)) nL σ k n pc lv [.int v] := fun H locs ls hH hS hP hl => W.iret E.x E.b E.rt (fun t ht hW => ⟨rfl, by rw [ht]; exact hH, hP, hS.F ht⟩) hS.2.2 hd E.lk
theorem r_zret (E : Ev p s m args meth c own cc nL (some .boolean) d (AA σ0)) {v : Int32} (hd : decode cc pc = .ok (.ireturn, 1)) (hn : narrow .boolean (.int v) = .int v) : Gk p l e R s m args below meth c d (AA σ0) (MQ below (QQ d σ0 (some (.int v)) σ) args s k n (AA σ0)) nL σ k n pc lv [.int v] := fun H locs ls hH hS hP hl => W.zret E.x E.b E.rt hn (fun t ht hW => ⟨rfl, by rw [ht]; exact hH, hP, hS.F ht⟩) hS.2.2 hd E.lk
theorem r_lret (E : Ev p s m args meth c own cc nL (some .long) d (AA σ0)) {v : Int64} (hd : decode cc pc = .ok (.lreturn, 1)) : Gk p l e R s m args below meth c d (AA σ0) (MQ below (QQ d σ0 (some (.long v)) σ) args s k n (AA σ0)) nL σ k n pc lv [.long v] := fun H locs ls hH hS hP hl => W.lret E.x E.b E.rt (fun t ht hW => ⟨rfl, by rw [ht]; exact hH, hP, hS.F ht⟩) hS.2.2 hd E.lk
theorem r_vret (E : Ev p s m args meth c own cc nL (none) d (AA σ0)) (hd : decode cc pc = .ok (.return_, 1)) : Gk p l e R s m args below meth c d (AA σ0) (MQ below (QQ d σ0 (none) σ) args s k n (AA σ0)) nL σ k n pc lv [] := fun H locs ls hH hS hP hl => W.vret E.x E.b E.rt (fun t ht hW => ⟨rfl, by rw [ht]; exact hH, hP, hS.F ht⟩) hS.2.2 hd E.lk
theorem r_aret {rt : FieldType} (E : Ev p s m args meth c own cc nL (some rt) d (AA σ0)) {o : Option Nat} (hd : decode cc pc = .ok (.areturn, 1)) (hrt : (∃ n, rt = .object n) ∨ ∃ t, rt = .array t) : Gk p l e R s m args below meth c d (AA σ0) (MQ below (QQ d σ0 (some (va_rf o)) σ) args s k n (AA σ0)) nL σ k n pc lv [va_rf o] := fun H locs ls hH hS hP hl => W.aret E.x E.b E.rt hrt (va_rf_or o) (fun t ht hW => ⟨rfl, by rw [ht]; exact hH, hP, hS.F ht⟩) hS.2.2 hd E.lk
theorem mt_start {y : MethodName} {maxL fr lo : Nat} {ret : Option FieldType} {As : List Value} {r : Option Value} {σ' : Sg} {lv0 : List (Nat × Value)} (hy : plainName y.cls = true) (hyc : y.cls = own) (hlen : (lg_sl As).length ≤ maxL) (hlv : lv_args 0 As = lv0)
    (body : ∀ p e s m args below meth c, Ev p s m args meth c own cc maxL ret d (AA σ) → meth.name = y.name → Gk p l e { frames := fr, cells := k, slots := n, locals := lo } s m args below meth c d (AA σ) (MQ below (QQ d σ r σ') args s k n (AA σ)) maxL σ 0 0 0 lv0 []) : Mt l d y cc maxL ret fr lo σ As r σ' k n := by
  refine Met.ofW (cc := cc) (maxL := maxL) (ret := ret) hy rfl ?_
  intro p e s m args below meth c s₁ B hml hv
  obtain ⟨rfl, hH, hK, hZ⟩ := hv
  have hts := atoms_spec (ws := Cond.code y cc maxL ret :: wsL_law) B.pre
  rw [lg_entry_eq]
  subst hlv
  subst hyc
  exact body p e s m _ below meth c ⟨B.exec, B.bytes, hml, findClass_of_methodNamed B.named, fun w hw => hts w (List.mem_cons_of_mem _ hw), hK, fun q hq => Or.inr (by rw [← hH.1]; exact hq), B.returns, B.notSynchronized, hZ⟩ (name_of_methodNamed B.named B.method).1 s.heap [] _ hH va_S.rf (fun a h1 h2 => Or.inl ⟨h1, h2⟩) (lv_entry As hlen)
end RT
