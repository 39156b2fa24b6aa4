theorem i3 (n w : Nat) : (3 : Int32) * nI n + nI w = nI (3 * n + w) := by
  rw [show (3 : Int32) = nI 3 from rfl, pk_mul, nI_add]
theorem i3m {D : Nat} (h : 1 ≤ D) : (3 : Int32) * nI D - 3 = nI (3 * D - 3) := by
  rw [show (3 : Int32) = nI 3 from rfl, pk_mul, pk_sub (by omega)]
theorem mx_fail_ev (μ : Mu) (k n : Int32) : mx_X7_fail μ k n = some (-1, uS (uS μ 820 k) 821 n) := rfl
theorem mx_number_ev (μ : Mu) {n w : Nat} (hn : n < 4000) (hw : w < 3) : mx_X7_number μ (nI n) (nI w) = some (mI μ 2 (3 * n + w), μ) := by
  unfold mx_X7_number
  rw [i3, if_pos (nI_bd (n := 12000) (by omega) (by omega)), nI_clamp (by omega)]
theorem bitc : ∀ t, t < 8 → ∀ w, w < 3 → (((nI t >>> (nI w &&& 31)) &&& (1 : Int32)) = 1 ↔ t.testBit w = true) := by decide
theorem nmT_lt (o : Nat) (h : o ≤ 20) : nmT.getD o 0 < 8 := by
  have : ∀ o, o < 21 → nmT.getD o 0 < 8 := by decide
  exact this o (by omega)
theorem mx_isNode_ev (μ : Mu) {n w o : Nat} (hn : n < 4000) (hw : w < 3) (ho : o ≤ 20) (h1 : mI μ 1 n = nI o) (h2 : ∀ o, o ≤ 20 → mI μ 0 o = nI (nmT.getD o 0)) : mx_X7_isNode μ (nI n) (nI w) = some (if nmd o w = true then 1 else 0, μ) := by
  unfold mx_X7_isNode
  rw [if_pos (nI_bd (n := 4000) hn (by omega))]
  rw [nI_clamp (by omega : n < 2 ^ 31), h1, if_pos (nI_bd (n := 21) (by omega) (by omega)), nI_clamp (by omega : o < 2 ^ 31), h2 o ho]
  have hb := bitc _ (nmT_lt o ho) w hw
  by_cases hc : (nmT.getD o 0).testBit w = true
  · rw [if_pos (hb.mpr hc)]
    simp only [nmd, hc, if_true]
  · rw [if_neg (fun q => hc (hb.mp q))]
    simp only [nmd, hc]
    rfl
/-- a THING made: number Tn -/
def mkμ (μ : Mu) (Tn : Nat) (k : Int32) (v : Int64) (a b : Int32) : Mu := uI (uI (uJ (uI (uS μ 809 (nI (Tn + 1))) 4 Tn k) 7 Tn v) 5 Tn a) 6 Tn b
theorem mx_make_ev (μ : Mu) {Tn : Nat} (h : mS μ 809 = nI Tn) (ht : Tn < 50000) (k : Int32) (v : Int64) (a b : Int32) : mx_X7_make μ k v a b = some (nI Tn, mkμ μ Tn k v a b) := by
  have hb := nI_bd ht (by omega)
  unfold mx_X7_make
  simp only [bm_eq, h]
  rw [if_pos hb, if_pos hb, if_pos hb, if_pos hb, nI_clamp (by omega), nI_1]
  rfl
theorem mx_num_ev (μ : Mu) {Tn : Nat} (h : mS μ 809 = nI Tn) (ht : Tn < 50000) (v : Int64) : mx_X7_num μ v = some (nI Tn, mkμ μ Tn 1 v (-1) (-1)) := by
  unfold mx_X7_num
  rw [mx_make_ev μ h ht]
  rfl
theorem mx_is_m1 (μ : Mu) (n k : Int32) : mx_X7_is μ n (-1) k = some (0, uS (uS μ 820 1) 821 n) := rfl
theorem mx_is_yes (μ : Mu) (n : Int32) {j : Nat} {k : Int32} (hj : j < 50000) (h : mI μ 4 j = k ∨ (k = 2 ∧ mI μ 4 j = 3)) : mx_X7_is μ n (nI j) k = some (1, μ) := by
  have hb := nI_bd hj (by omega)
  unfold mx_X7_is
  rw [if_neg (nI_ne (by omega)), if_pos hb, nI_clamp (by omega)]
  by_cases h1 : mI μ 4 j = k
  · rw [if_pos h1]
  · rw [if_neg h1]
    rcases h with h | h
    · exact absurd h h1
    · rw [if_pos h.1, if_pos (by rw [nI_clamp (by omega)] at hb; exact hb), if_pos h.2]
theorem mx_is_no (μ : Mu) (n : Int32) {j : Nat} {k : Int32} (hj : j < 50000) (h : ¬ (mI μ 4 j = k ∨ (k = 2 ∧ mI μ 4 j = 3))) : mx_X7_is μ n (nI j) k = some (0, uS (uS μ 820 3) 821 n) := by
  have hb := nI_bd hj (by omega)
  unfold mx_X7_is
  rw [if_neg (nI_ne (by omega)), if_pos hb, nI_clamp (by omega), if_neg (fun q => h (Or.inl q))]
  by_cases h2 : k = 2
  · rw [if_pos h2, if_pos (by rw [nI_clamp (by omega)] at hb; exact hb), if_neg (fun q => h (Or.inr ⟨h2, q⟩)), if_neg (nI_ne (by omega))]
    rfl
  · rw [if_neg h2, if_neg (nI_ne (by omega))]
    rfl
/-- a frame's three answers blank -/
def gv3 (μ : Mu) (D : Nat) : Mu := uI (uI (uI μ 12 (3 * D - 3) (-1)) 12 (3 * D - 3 + 1) (-1)) 12 (3 * D - 3 + 2) (-1)
theorem lq_enter_ev (μ : Mu) {D : Nat} (h : mS μ 818 = nI D) (h1 : 1 ≤ D) (h2 : D ≤ 200) (p : Int32) : lq_X7_enter 300 μ p 0 = some ((), gv3 μ D) := by
  have e0 : nI (3 * D - 3) + 0 = nI (3 * D - 3) := by rw [show (0 : Int32) = nI 0 from rfl, nI_add]; rfl
  have e1 : nI (3 * D - 3) + (0 + 1) = nI (3 * D - 3 + 1) := by rw [show (0 + 1 : Int32) = nI 1 from rfl, nI_add]
  have e2 : nI (3 * D - 3) + (0 + 1 + 1) = nI (3 * D - 3 + 2) := by rw [show (0 + 1 + 1 : Int32) = nI 2 from rfl, nI_add]
  rw [show (300 : Nat) = 296 + 1 + 1 + 1 + 1 from rfl]
  rw [lq_X7_enter, if_neg (by decide), h, i3m h1, e0, if_pos (nI_bd (n := 603) (by omega) (by omega)), nI_clamp (by omega), bm_eq]
  rw [lq_X7_enter, if_neg (by decide), show mS (uI μ 12 (3 * D - 3) (-1)) 818 = nI D from h, i3m h1, e1, if_pos (nI_bd (n := 603) (by omega) (by omega)), nI_clamp (by omega), bm_eq]
  rw [lq_X7_enter, if_neg (by decide), show mS (uI (uI μ 12 (3 * D - 3) (-1)) 12 (3 * D - 3 + 1) (-1)) 818 = nI D from h, i3m h1, e2, if_pos (nI_bd (n := 603) (by omega) (by omega)), nI_clamp (by omega), bm_eq]
  rw [lq_X7_enter, if_pos (by decide)]
  rfl
/-- a frame opened at depth D + 1 -/
def enμ (μ : Mu) (D L K : Nat) (n : Int32) : Mu := gv3 (uI (uI (uS (uS (uS μ 822 (nI L)) 823 (nI K)) 818 (nI (D + 1))) 10 (D + 1) n) 11 (D + 1) 0) (D + 1)
theorem mx_enter_0 (μ : Mu) (n : Int32) (h : mS μ 822 = 0) : mx_X7_enter μ n = some ((), uS μ 820 (-1)) := by
  unfold mx_X7_enter
  rw [if_pos h]
  rfl
theorem mx_enter_deep (μ : Mu) (n : Int32) {L K : Nat} (h : mS μ 822 = nI (L + 1)) (hL : L < 60000) (hk : mS μ 823 = nI K) (hd : mS μ 818 = nI 200) : mx_X7_enter μ n = some ((), uS (uS (uS (uS μ 822 (nI L)) 823 (nI (K + 1))) 820 7) 821 n) := by
  unfold mx_X7_enter
  rw [if_neg (by rw [h]; exact nI_ne0 (by omega) (by omega))]
  simp only [bm_eq]
  rw [h, show (nI (L + 1) - 1) = nI L from nI_pred L, show mS (uS μ 822 (nI L)) 823 = nI K from hk, nI_1, if_pos (show mS (uS (uS μ 822 (nI L)) 823 (nI (K + 1))) 818 = 200 from hd)]
  rfl
theorem mx_enter_ok (μ : Mu) (n : Int32) {L K D : Nat} (h : mS μ 822 = nI (L + 1)) (hL : L < 60000) (hk : mS μ 823 = nI K) (hd : mS μ 818 = nI D) (h2 : D < 200) : mx_X7_enter μ n = some ((), enμ μ D L (K + 1) n) := by
  unfold mx_X7_enter
  rw [if_neg (by rw [h]; exact nI_ne0 (by omega) (by omega))]
  simp only [bm_eq]
  rw [h, show (nI (L + 1) - 1) = nI L from nI_pred L, show mS (uS μ 822 (nI L)) 823 = nI K from hk, nI_1]
  rw [show mS (uS (uS μ 822 (nI L)) 823 (nI (K + 1))) 818 = nI D from hd, if_neg (by rw [show (200 : Int32) = nI 200 from rfl, nI_eq (by omega) (by omega)]; omega), nI_1]
  have e : mS (uS (uS (uS μ 822 (nI L)) 823 (nI (K + 1))) 818 (nI (D + 1))) 818 = nI (D + 1) := by rw [q_mS_uS]; simp
  rw [e, if_pos (nI_bd (n := 201) (by omega) (by omega)), nI_clamp (by omega)]
  rw [show mS (uI (uS (uS (uS μ 822 (nI L)) 823 (nI (K + 1))) 818 (nI (D + 1))) 10 (D + 1) n) 818 = nI (D + 1) from e, if_pos (nI_bd (n := 201) (by omega) (by omega)), nI_clamp (by omega)]
  exact lq_enter_ev _ (show mS (uI (uI (uS (uS (uS μ 822 (nI L)) 823 (nI (K + 1))) 818 (nI (D + 1))) 10 (D + 1) n) 11 (D + 1) 0) 818 = nI (D + 1) from e) (by omega) (by omega) n
