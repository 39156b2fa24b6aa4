def mx_X7_thing (μ : Mu) (p1 : Int32) (p2 : Int32) : Option (Int32 × Mu) := (if p1 < (-1 : Int32) then some ((-1 : Int32), μ) else (if (255 : Int32) < p1 then some ((-1 : Int32), μ) else (if p2 < (0 : Int32) then some ((-1 : Int32), μ) else (if p2 ≤ (3 : Int32) then (b2 (mx_X7_thingAt μ p1) fun r8 m7 => (if p2 = (0 : Int32) then (if r8 = (-1 : Int32) then some ((0 : Int32), m7) else (if ¬ (r8 < 0 ∨ 50000 ≤ Int32.toNatClampNeg r8) then some (mI m7 4 (Int32.toNatClampNeg r8), m7) else none)) else (if r8 = (-1 : Int32) then some ((-1 : Int32), m7) else (if p2 = (1 : Int32) then some (r8, m7) else (if ¬ (r8 < 0 ∨ 50000 ≤ Int32.toNatClampNeg r8) then (if (mI m7 4 (Int32.toNatClampNeg r8)) = (2 : Int32) then (if p2 = (2 : Int32) then (if (1 : Int32) = (0 : Int32) then (if ¬ (r8 < 0 ∨ 50000 ≤ Int32.toNatClampNeg r8) then (if (mI m7 4 (Int32.toNatClampNeg r8)) = (4 : Int32) then (if ¬ (r8 < 0 ∨ 50000 ≤ Int32.toNatClampNeg r8) then some (mI m7 5 (Int32.toNatClampNeg r8), m7) else none) else (if ¬ (r8 < 0 ∨ 50000 ≤ Int32.toNatClampNeg r8) then (if (mI m7 4 (Int32.toNatClampNeg r8)) = (5 : Int32) then (if ¬ (r8 < 0 ∨ 50000 ≤ Int32.toNatClampNeg r8) then some (mI m7 5 (Int32.toNatClampNeg r8), m7) else none) else some ((-1 : Int32), m7)) else none)) else none) else (if ¬ (r8 < 0 ∨ 50000 ≤ Int32.toNatClampNeg r8) then some (mI m7 5 (Int32.toNatClampNeg r8), m7) else none)) else (if (1 : Int32) = (0 : Int32) then (if ¬ (r8 < 0 ∨ 50000 ≤ Int32.toNatClampNeg r8) then (if (mI m7 4 (Int32.toNatClampNeg r8)) = (5 : Int32) then (if ¬ (r8 < 0 ∨ 50000 ≤ Int32.toNatClampNeg r8) then some (mI m7 6 (Int32.toNatClampNeg r8), m7) else none) else some ((-1 : Int32), m7)) else none) else (if ¬ (r8 < 0 ∨ 50000 ≤ Int32.toNatClampNeg r8) then some (mI m7 6 (Int32.toNatClampNeg r8), m7) else none))) else (if ¬ (r8 < 0 ∨ 50000 ≤ Int32.toNatClampNeg r8) then (if (mI m7 4 (Int32.toNatClampNeg r8)) = (3 : Int32) then (if p2 = (2 : Int32) then (if (1 : Int32) = (0 : Int32) then (if ¬ (r8 < 0 ∨ 50000 ≤ Int32.toNatClampNeg r8) then (if (mI m7 4 (Int32.toNatClampNeg r8)) = (4 : Int32) then (if ¬ (r8 < 0 ∨ 50000 ≤ Int32.toNatClampNeg r8) then some (mI m7 5 (Int32.toNatClampNeg r8), m7) else none) else (if ¬ (r8 < 0 ∨ 50000 ≤ Int32.toNatClampNeg r8) then (if (mI m7 4 (Int32.toNatClampNeg r8)) = (5 : Int32) then (if ¬ (r8 < 0 ∨ 50000 ≤ Int32.toNatClampNeg r8) then some (mI m7 5 (Int32.toNatClampNeg r8), m7) else none) else some ((-1 : Int32), m7)) else none)) else none) else (if ¬ (r8 < 0 ∨ 50000 ≤ Int32.toNatClampNeg r8) then some (mI m7 5 (Int32.toNatClampNeg r8), m7) else none)) else (if (1 : Int32) = (0 : Int32) then (if ¬ (r8 < 0 ∨ 50000 ≤ Int32.toNatClampNeg r8) then (if (mI m7 4 (Int32.toNatClampNeg r8)) = (5 : Int32) then (if ¬ (r8 < 0 ∨ 50000 ≤ Int32.toNatClampNeg r8) then some (mI m7 6 (Int32.toNatClampNeg r8), m7) else none) else some ((-1 : Int32), m7)) else none) else (if ¬ (r8 < 0 ∨ 50000 ≤ Int32.toNatClampNeg r8) then some (mI m7 6 (Int32.toNatClampNeg r8), m7) else none))) else (if p2 = (2 : Int32) then (if (0 : Int32) = (0 : Int32) then (if ¬ (r8 < 0 ∨ 50000 ≤ Int32.toNatClampNeg r8) then (if (mI m7 4 (Int32.toNatClampNeg r8)) = (4 : Int32) then (if ¬ (r8 < 0 ∨ 50000 ≤ Int32.toNatClampNeg r8) then some (mI m7 5 (Int32.toNatClampNeg r8), m7) else none) else (if ¬ (r8 < 0 ∨ 50000 ≤ Int32.toNatClampNeg r8) then (if (mI m7 4 (Int32.toNatClampNeg r8)) = (5 : Int32) then (if ¬ (r8 < 0 ∨ 50000 ≤ Int32.toNatClampNeg r8) then some (mI m7 5 (Int32.toNatClampNeg r8), m7) else none) else some ((-1 : Int32), m7)) else none)) else none) else (if ¬ (r8 < 0 ∨ 50000 ≤ Int32.toNatClampNeg r8) then some (mI m7 5 (Int32.toNatClampNeg r8), m7) else none)) else (if (0 : Int32) = (0 : Int32) then (if ¬ (r8 < 0 ∨ 50000 ≤ Int32.toNatClampNeg r8) then (if (mI m7 4 (Int32.toNatClampNeg r8)) = (5 : Int32) then (if ¬ (r8 < 0 ∨ 50000 ≤ Int32.toNatClampNeg r8) then some (mI m7 6 (Int32.toNatClampNeg r8), m7) else none) else some ((-1 : Int32), m7)) else none) else (if ¬ (r8 < 0 ∨ 50000 ≤ Int32.toNatClampNeg r8) then some (mI m7 6 (Int32.toNatClampNeg r8), m7) else none)))) else none)) else none))))) else some ((-1 : Int32), μ)))))
set_option maxHeartbeats 1000000 in
theorem mm_X7_thing {d : Dp} {σ : Sg} {h0 : Nat} {ma : Nat → Nat} {p1 : Int32} {p2 : Int32} {r : Int32} {μ' : Mu} (M0 : MS σ h0 ma) (hx : mx_X7_thing (Vw σ h0 ma) p1 p2 = some (r, μ')) : ∃ σ', ex_X7_thing d σ h0 p1 p2 = some (r, σ') ∧ MS σ' h0 ma ∧ Vw σ' h0 ma = μ' ∧ Fq σ σ' := by
  have F0 := Fq.rf σ
  unfold mx_X7_thing at hx
  unfold ex_X7_thing
  by_cases c1 : p1 < (-1 : Int32)
  · replace hx := ift c1 hx
    refine git c1 ?_
    obtain ⟨rfl, rfl⟩ := lf2 hx
    exact ⟨_, rfl, M0, rfl, F0⟩
  · replace hx := iff' c1 hx
    refine gif c1 ?_
    by_cases c2 : (255 : Int32) < p1
    · replace hx := ift c2 hx
      refine git c2 ?_
      obtain ⟨rfl, rfl⟩ := lf2 hx
      exact ⟨_, rfl, M0, rfl, F0⟩
    · replace hx := iff' c2 hx
      refine gif c2 ?_
      by_cases c3 : p2 < (0 : Int32)
      · replace hx := ift c3 hx
        refine git c3 ?_
        obtain ⟨rfl, rfl⟩ := lf2 hx
        exact ⟨_, rfl, M0, rfl, F0⟩
      · replace hx := iff' c3 hx
        refine gif c3 ?_
        by_cases c4 : p2 ≤ (3 : Int32)
        · replace hx := ift c4 hx
          refine git c4 ?_
          refine gck M0.g ?_
          obtain ⟨r8, m7, hy, hx⟩ := nb2 hx
          obtain ⟨s7, ey, Ms7, Vs7, Fs7⟩ := mm_X7_thingAt (d := d) M0 hy
          subst Vs7
          replace Fs7 := F0.tr Fs7
          refine gb2 ey ?_
          by_cases c9 : p2 = (0 : Int32)
          · replace hx := ift c9 hx
            refine git c9 ?_
            by_cases c107 : r8 = (-1 : Int32)
            · replace hx := ift c107 hx
              refine git c107 ?_
              obtain ⟨rfl, rfl⟩ := lf2 hx
              exact ⟨_, rfl, Ms7, rfl, Fs7⟩
            · replace hx := iff' c107 hx
              refine gif c107 ?_
              refine gck Ms7.g ?_
              refine gnn (Ms7.p 4 (by decide)) ?_
              refine gck (Ms7.c 4 (by decide)) ?_
              obtain ⟨g112, hx⟩ := ck hx
              refine gck (Ms7.b 4 (by decide) g112) ?_
              obtain ⟨rfl, rfl⟩ := lf2 hx
              exact ⟨_, rfl, Ms7, rfl, Fs7⟩
          · replace hx := iff' c9 hx
            refine gif c9 ?_
            by_cases c10 : r8 = (-1 : Int32)
            · replace hx := ift c10 hx
              refine git c10 ?_
              obtain ⟨rfl, rfl⟩ := lf2 hx
              exact ⟨_, rfl, Ms7, rfl, Fs7⟩
            · replace hx := iff' c10 hx
              refine gif c10 ?_
              by_cases c11 : p2 = (1 : Int32)
              · replace hx := ift c11 hx
                refine git c11 ?_
                obtain ⟨rfl, rfl⟩ := lf2 hx
                exact ⟨_, rfl, Ms7, rfl, Fs7⟩
              · replace hx := iff' c11 hx
                refine gif c11 ?_
                refine gck Ms7.g ?_
                refine gnn (Ms7.p 4 (by decide)) ?_
                refine gck (Ms7.c 4 (by decide)) ?_
                obtain ⟨g16, hx⟩ := ck hx
                refine gck (Ms7.b 4 (by decide) g16) ?_
                by_cases c17 : (ai s7 (ma 4) (Int32.toNatClampNeg r8)) = (2 : Int32)
                · replace hx := ift c17 hx
                  refine git c17 ?_
                  by_cases c18 : p2 = (2 : Int32)
                  · replace hx := ift c18 hx
                    refine git c18 ?_
                    by_cases c30 : (1 : Int32) = (0 : Int32)
                    · replace hx := ift c30 hx
                      refine git c30 ?_
                      obtain ⟨g35, hx⟩ := ck hx
                      refine gck (Ms7.b 4 (by decide) g35) ?_
                      by_cases c36 : (ai s7 (ma 4) (Int32.toNatClampNeg r8)) = (4 : Int32)
                      · replace hx := ift c36 hx
                        refine git c36 ?_
                        refine gnn (Ms7.p 5 (by decide)) ?_
                        refine gck (Ms7.c 5 (by decide)) ?_
                        obtain ⟨g40, hx⟩ := ck hx
                        refine gck (Ms7.b 5 (by decide) g40) ?_
                        obtain ⟨rfl, rfl⟩ := lf2 hx
                        exact ⟨_, rfl, Ms7, rfl, Fs7⟩
                      · replace hx := iff' c36 hx
                        refine gif c36 ?_
                        obtain ⟨g41, hx⟩ := ck hx
                        refine gck (Ms7.b 4 (by decide) g41) ?_
                        by_cases c42 : (ai s7 (ma 4) (Int32.toNatClampNeg r8)) = (5 : Int32)
                        · replace hx := ift c42 hx
                          refine git c42 ?_
                          refine gnn (Ms7.p 5 (by decide)) ?_
                          refine gck (Ms7.c 5 (by decide)) ?_
                          obtain ⟨g46, hx⟩ := ck hx
                          refine gck (Ms7.b 5 (by decide) g46) ?_
                          obtain ⟨rfl, rfl⟩ := lf2 hx
                          exact ⟨_, rfl, Ms7, rfl, Fs7⟩
                        · replace hx := iff' c42 hx
                          refine gif c42 ?_
                          obtain ⟨rfl, rfl⟩ := lf2 hx
                          exact ⟨_, rfl, Ms7, rfl, Fs7⟩
                    · replace hx := iff' c30 hx
                      refine gif c30 ?_
                      refine gnn (Ms7.p 5 (by decide)) ?_
                      refine gck (Ms7.c 5 (by decide)) ?_
                      obtain ⟨g34, hx⟩ := ck hx
                      refine gck (Ms7.b 5 (by decide) g34) ?_
                      obtain ⟨rfl, rfl⟩ := lf2 hx
                      exact ⟨_, rfl, Ms7, rfl, Fs7⟩
                  · replace hx := iff' c18 hx
                    refine gif c18 ?_
                    by_cases c19 : (1 : Int32) = (0 : Int32)
                    · replace hx := ift c19 hx
                      refine git c19 ?_
                      obtain ⟨g24, hx⟩ := ck hx
                      refine gck (Ms7.b 4 (by decide) g24) ?_
                      by_cases c25 : (ai s7 (ma 4) (Int32.toNatClampNeg r8)) = (5 : Int32)
                      · replace hx := ift c25 hx
                        refine git c25 ?_
                        refine gnn (Ms7.p 6 (by decide)) ?_
                        refine gck (Ms7.c 6 (by decide)) ?_
                        obtain ⟨g29, hx⟩ := ck hx
                        refine gck (Ms7.b 6 (by decide) g29) ?_
                        obtain ⟨rfl, rfl⟩ := lf2 hx
                        exact ⟨_, rfl, Ms7, rfl, Fs7⟩
                      · replace hx := iff' c25 hx
                        refine gif c25 ?_
                        obtain ⟨rfl, rfl⟩ := lf2 hx
                        exact ⟨_, rfl, Ms7, rfl, Fs7⟩
                    · replace hx := iff' c19 hx
                      refine gif c19 ?_
                      refine gnn (Ms7.p 6 (by decide)) ?_
                      refine gck (Ms7.c 6 (by decide)) ?_
                      obtain ⟨g23, hx⟩ := ck hx
                      refine gck (Ms7.b 6 (by decide) g23) ?_
                      obtain ⟨rfl, rfl⟩ := lf2 hx
                      exact ⟨_, rfl, Ms7, rfl, Fs7⟩
                · replace hx := iff' c17 hx
                  refine gif c17 ?_
                  obtain ⟨g47, hx⟩ := ck hx
                  refine gck (Ms7.b 4 (by decide) g47) ?_
                  by_cases c48 : (ai s7 (ma 4) (Int32.toNatClampNeg r8)) = (3 : Int32)
                  · replace hx := ift c48 hx
                    refine git c48 ?_
                    by_cases c78 : p2 = (2 : Int32)
                    · replace hx := ift c78 hx
                      refine git c78 ?_
                      by_cases c90 : (1 : Int32) = (0 : Int32)
                      · replace hx := ift c90 hx
                        refine git c90 ?_
                        obtain ⟨g95, hx⟩ := ck hx
                        refine gck (Ms7.b 4 (by decide) g95) ?_
                        by_cases c96 : (ai s7 (ma 4) (Int32.toNatClampNeg r8)) = (4 : Int32)
                        · replace hx := ift c96 hx
                          refine git c96 ?_
                          refine gnn (Ms7.p 5 (by decide)) ?_
                          refine gck (Ms7.c 5 (by decide)) ?_
                          obtain ⟨g100, hx⟩ := ck hx
                          refine gck (Ms7.b 5 (by decide) g100) ?_
                          obtain ⟨rfl, rfl⟩ := lf2 hx
                          exact ⟨_, rfl, Ms7, rfl, Fs7⟩
                        · replace hx := iff' c96 hx
                          refine gif c96 ?_
                          obtain ⟨g101, hx⟩ := ck hx
                          refine gck (Ms7.b 4 (by decide) g101) ?_
                          by_cases c102 : (ai s7 (ma 4) (Int32.toNatClampNeg r8)) = (5 : Int32)
                          · replace hx := ift c102 hx
                            refine git c102 ?_
                            refine gnn (Ms7.p 5 (by decide)) ?_
                            refine gck (Ms7.c 5 (by decide)) ?_
                            obtain ⟨g106, hx⟩ := ck hx
                            refine gck (Ms7.b 5 (by decide) g106) ?_
                            obtain ⟨rfl, rfl⟩ := lf2 hx
                            exact ⟨_, rfl, Ms7, rfl, Fs7⟩
                          · replace hx := iff' c102 hx
                            refine gif c102 ?_
                            obtain ⟨rfl, rfl⟩ := lf2 hx
                            exact ⟨_, rfl, Ms7, rfl, Fs7⟩
                      · replace hx := iff' c90 hx
                        refine gif c90 ?_
                        refine gnn (Ms7.p 5 (by decide)) ?_
                        refine gck (Ms7.c 5 (by decide)) ?_
                        obtain ⟨g94, hx⟩ := ck hx
                        refine gck (Ms7.b 5 (by decide) g94) ?_
                        obtain ⟨rfl, rfl⟩ := lf2 hx
                        exact ⟨_, rfl, Ms7, rfl, Fs7⟩
                    · replace hx := iff' c78 hx
                      refine gif c78 ?_
                      by_cases c79 : (1 : Int32) = (0 : Int32)
                      · replace hx := ift c79 hx
                        refine git c79 ?_
                        obtain ⟨g84, hx⟩ := ck hx
                        refine gck (Ms7.b 4 (by decide) g84) ?_
                        by_cases c85 : (ai s7 (ma 4) (Int32.toNatClampNeg r8)) = (5 : Int32)
                        · replace hx := ift c85 hx
                          refine git c85 ?_
                          refine gnn (Ms7.p 6 (by decide)) ?_
                          refine gck (Ms7.c 6 (by decide)) ?_
                          obtain ⟨g89, hx⟩ := ck hx
                          refine gck (Ms7.b 6 (by decide) g89) ?_
                          obtain ⟨rfl, rfl⟩ := lf2 hx
                          exact ⟨_, rfl, Ms7, rfl, Fs7⟩
                        · replace hx := iff' c85 hx
                          refine gif c85 ?_
                          obtain ⟨rfl, rfl⟩ := lf2 hx
                          exact ⟨_, rfl, Ms7, rfl, Fs7⟩
                      · replace hx := iff' c79 hx
                        refine gif c79 ?_
                        refine gnn (Ms7.p 6 (by decide)) ?_
                        refine gck (Ms7.c 6 (by decide)) ?_
                        obtain ⟨g83, hx⟩ := ck hx
                        refine gck (Ms7.b 6 (by decide) g83) ?_
                        obtain ⟨rfl, rfl⟩ := lf2 hx
                        exact ⟨_, rfl, Ms7, rfl, Fs7⟩
                  · replace hx := iff' c48 hx
                    refine gif c48 ?_
                    by_cases c49 : p2 = (2 : Int32)
                    · replace hx := ift c49 hx
                      refine git c49 ?_
                      by_cases c61 : (0 : Int32) = (0 : Int32)
                      · replace hx := ift c61 hx
                        refine git c61 ?_
                        obtain ⟨g66, hx⟩ := ck hx
                        refine gck (Ms7.b 4 (by decide) g66) ?_
                        by_cases c67 : (ai s7 (ma 4) (Int32.toNatClampNeg r8)) = (4 : Int32)
                        · replace hx := ift c67 hx
                          refine git c67 ?_
                          refine gnn (Ms7.p 5 (by decide)) ?_
                          refine gck (Ms7.c 5 (by decide)) ?_
                          obtain ⟨g71, hx⟩ := ck hx
                          refine gck (Ms7.b 5 (by decide) g71) ?_
                          obtain ⟨rfl, rfl⟩ := lf2 hx
                          exact ⟨_, rfl, Ms7, rfl, Fs7⟩
                        · replace hx := iff' c67 hx
                          refine gif c67 ?_
                          obtain ⟨g72, hx⟩ := ck hx
                          refine gck (Ms7.b 4 (by decide) g72) ?_
                          by_cases c73 : (ai s7 (ma 4) (Int32.toNatClampNeg r8)) = (5 : Int32)
                          · replace hx := ift c73 hx
                            refine git c73 ?_
                            refine gnn (Ms7.p 5 (by decide)) ?_
                            refine gck (Ms7.c 5 (by decide)) ?_
                            obtain ⟨g77, hx⟩ := ck hx
                            refine gck (Ms7.b 5 (by decide) g77) ?_
                            obtain ⟨rfl, rfl⟩ := lf2 hx
                            exact ⟨_, rfl, Ms7, rfl, Fs7⟩
                          · replace hx := iff' c73 hx
                            refine gif c73 ?_
                            obtain ⟨rfl, rfl⟩ := lf2 hx
                            exact ⟨_, rfl, Ms7, rfl, Fs7⟩
                      · replace hx := iff' c61 hx
                        refine gif c61 ?_
                        refine gnn (Ms7.p 5 (by decide)) ?_
                        refine gck (Ms7.c 5 (by decide)) ?_
                        obtain ⟨g65, hx⟩ := ck hx
                        refine gck (Ms7.b 5 (by decide) g65) ?_
                        obtain ⟨rfl, rfl⟩ := lf2 hx
                        exact ⟨_, rfl, Ms7, rfl, Fs7⟩
                    · replace hx := iff' c49 hx
                      refine gif c49 ?_
                      by_cases c50 : (0 : Int32) = (0 : Int32)
                      · replace hx := ift c50 hx
                        refine git c50 ?_
                        obtain ⟨g55, hx⟩ := ck hx
                        refine gck (Ms7.b 4 (by decide) g55) ?_
                        by_cases c56 : (ai s7 (ma 4) (Int32.toNatClampNeg r8)) = (5 : Int32)
                        · replace hx := ift c56 hx
                          refine git c56 ?_
                          refine gnn (Ms7.p 6 (by decide)) ?_
                          refine gck (Ms7.c 6 (by decide)) ?_
                          obtain ⟨g60, hx⟩ := ck hx
                          refine gck (Ms7.b 6 (by decide) g60) ?_
                          obtain ⟨rfl, rfl⟩ := lf2 hx
                          exact ⟨_, rfl, Ms7, rfl, Fs7⟩
                        · replace hx := iff' c56 hx
                          refine gif c56 ?_
                          obtain ⟨rfl, rfl⟩ := lf2 hx
                          exact ⟨_, rfl, Ms7, rfl, Fs7⟩
                      · replace hx := iff' c50 hx
                        refine gif c50 ?_
                        refine gnn (Ms7.p 6 (by decide)) ?_
                        refine gck (Ms7.c 6 (by decide)) ?_
                        obtain ⟨g54, hx⟩ := ck hx
                        refine gck (Ms7.b 6 (by decide) g54) ?_
                        obtain ⟨rfl, rfl⟩ := lf2 hx
                        exact ⟨_, rfl, Ms7, rfl, Fs7⟩
        · replace hx := iff' c4 hx
          refine gif c4 ?_
          obtain ⟨rfl, rfl⟩ := lf2 hx
          exact ⟨_, rfl, M0, rfl, F0⟩
def mx_X7_fault (μ : Mu)  : Option (Int32 × Mu) := some (mS μ 826, μ)
set_option maxHeartbeats 1000000 in
theorem mm_X7_fault {d : Dp} {σ : Sg} {h0 : Nat} {ma : Nat → Nat}  {r : Int32} {μ' : Mu} (M0 : MS σ h0 ma) (hx : mx_X7_fault (Vw σ h0 ma)  = some (r, μ')) : ∃ σ', ex_X7_fault d σ h0  = some (r, σ') ∧ MS σ' h0 ma ∧ Vw σ' h0 ma = μ' ∧ Fq σ σ' := by
  have F0 := Fq.rf σ
  unfold mx_X7_fault at hx
  unfold ex_X7_fault
  refine gck M0.g ?_
  obtain ⟨rfl, rfl⟩ := lf2 hx
  exact ⟨_, rfl, M0, rfl, F0⟩
def mx_X7_faultNode (μ : Mu)  : Option (Int32 × Mu) := some (mS μ 827, μ)
set_option maxHeartbeats 1000000 in
theorem mm_X7_faultNode {d : Dp} {σ : Sg} {h0 : Nat} {ma : Nat → Nat}  {r : Int32} {μ' : Mu} (M0 : MS σ h0 ma) (hx : mx_X7_faultNode (Vw σ h0 ma)  = some (r, μ')) : ∃ σ', ex_X7_faultNode d σ h0  = some (r, σ') ∧ MS σ' h0 ma ∧ Vw σ' h0 ma = μ' ∧ Fq σ σ' := by
  have F0 := Fq.rf σ
  unfold mx_X7_faultNode at hx
  unfold ex_X7_faultNode
  refine gck M0.g ?_
  obtain ⟨rfl, rfl⟩ := lf2 hx
  exact ⟨_, rfl, M0, rfl, F0⟩
def mx_X7_steps (μ : Mu)  : Option (Int32 × Mu) := some (mS μ 823, μ)
set_option maxHeartbeats 1000000 in
theorem mm_X7_steps {d : Dp} {σ : Sg} {h0 : Nat} {ma : Nat → Nat}  {r : Int32} {μ' : Mu} (M0 : MS σ h0 ma) (hx : mx_X7_steps (Vw σ h0 ma)  = some (r, μ')) : ∃ σ', ex_X7_steps d σ h0  = some (r, σ') ∧ MS σ' h0 ma ∧ Vw σ' h0 ma = μ' ∧ Fq σ σ' := by
  have F0 := Fq.rf σ
  unfold mx_X7_steps at hx
  unfold ex_X7_steps
  refine gck M0.g ?_
  obtain ⟨rfl, rfl⟩ := lf2 hx
  exact ⟨_, rfl, M0, rfl, F0⟩
def lq_X7_wipe : Nat → Mu → Int32 → Option (Unit × Mu)
  | 0, _, _ => none
  | f + 1, μ, v1 => (if (256 : Int32) ≤ v1 then some ((), μ) else (if ¬ (v1 < 0 ∨ 256 ≤ Int32.toNatClampNeg v1) then (bm (uI μ 9 (Int32.toNatClampNeg v1) (-1 : Int32)) fun m16 => lq_X7_wipe f m16 (v1 + 1)) else none))
set_option maxHeartbeats 1000000 in
theorem mml_X7_wipe {d : Dp} {h0 : Nat} {ma : Nat → Nat} {r : Unit} {μ' : Mu} : ∀ (f : Nat) (σ : Sg) (v1 : Int32), MS σ h0 ma → lq_X7_wipe f (Vw σ h0 ma) v1 = some (r, μ') → ∃ σ', lp_X7_wipe f d σ h0 v1 = some (r, σ') ∧ MS σ' h0 ma ∧ Vw σ' h0 ma = μ' ∧ Fq σ σ' := by
  intro f
  induction f with
  | zero => intro σ v1 M0 hx; cases hx
  | succ f ih =>
    intro σ v1 M0 hx
    have F0 := Fq.rf σ
    unfold lq_X7_wipe at hx
    unfold lp_X7_wipe
    by_cases c10 : (256 : Int32) ≤ v1
    · replace hx := ift c10 hx
      refine git c10 ?_
      obtain ⟨rfl, rfl⟩ := lf2 hx
      exact ⟨_, rfl, M0, rfl, F0⟩
    · replace hx := iff' c10 hx
      refine gif c10 ?_
      refine gck M0.g ?_
      refine gnn (M0.p 9 (by decide)) ?_
      refine gck (M0.c 9 (by decide)) ?_
      obtain ⟨g15, hx⟩ := ck hx
      refine gck (M0.b 9 (by decide) g15) ?_
      obtain ⟨m16, em, hx⟩ := nbm hx
      refine gbn (fun s16 es => ?_)
      obtain ⟨Ms16, Vs16, Fs16⟩ := M0.upI (k := 9) (by decide) es em
      subst Vs16
      replace Fs16 := F0.tr Fs16
      obtain ⟨sz, ey, Mz, Vz, Fz⟩ := ih _ _ Ms16 hx
      exact ⟨sz, ey, Mz, Vz, Fs16.tr Fz⟩
def mx_X7_wipe (μ : Mu)  : Option (Unit × Mu) := (bm (uS μ 804 (0 : Int32)) fun m2 => (bm (uS m2 813 (-1 : Int32)) fun m5 => (bm (uS m5 825 (-1 : Int32)) fun m8 => lq_X7_wipe 300 m8 (0 : Int32))))
set_option maxHeartbeats 1000000 in
theorem mm_X7_wipe {d : Dp} {σ : Sg} {h0 : Nat} {ma : Nat → Nat}  {r : Unit} {μ' : Mu} (M0 : MS σ h0 ma) (hx : mx_X7_wipe (Vw σ h0 ma)  = some (r, μ')) : ∃ σ', ex_X7_wipe d σ h0  = some (r, σ') ∧ MS σ' h0 ma ∧ Vw σ' h0 ma = μ' ∧ Fq σ σ' := by
  have F0 := Fq.rf σ
  unfold mx_X7_wipe at hx
  unfold ex_X7_wipe
  refine gck M0.g ?_
  obtain ⟨m2, em, hx⟩ := nbm hx
  refine gbn (fun s2 es => ?_)
  obtain ⟨Ms2, Vs2, Fs2⟩ := M0.upS (by decide) es em
  subst Vs2
  replace Fs2 := F0.tr Fs2
  refine gck Ms2.g ?_
  obtain ⟨m5, em, hx⟩ := nbm hx
  refine gbn (fun s5 es => ?_)
  obtain ⟨Ms5, Vs5, Fs5⟩ := Ms2.upS (by decide) es em
  subst Vs5
  replace Fs5 := Fs2.tr Fs5
  refine gck Ms5.g ?_
  obtain ⟨m8, em, hx⟩ := nbm hx
  refine gbn (fun s8 es => ?_)
  obtain ⟨Ms8, Vs8, Fs8⟩ := Ms5.upS (by decide) es em
  subst Vs8
  replace Fs8 := Fs5.tr Fs8
  obtain ⟨sz, ey, Mz, Vz, Fz⟩ := mml_X7_wipe (d := d) _ _ _ Ms8 hx
  exact ⟨sz, ey, Mz, Vz, Fs8.tr Fz⟩
