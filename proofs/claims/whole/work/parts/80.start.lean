section START
theorem tq1 {w : Cond} (i : Nat) (h : tables_1_1[i]? = some w) : w ∈ lw_tbl := List.mem_append_right _ (List.mem_append_left _ (List.mem_of_getElem? h))
theorem tq2 {w : Cond} (i : Nat) (h : tables_1_2[i]? = some w) : w ∈ lw_tbl := List.mem_append_right _ (List.mem_append_right _ (List.mem_append_left _ (List.mem_of_getElem? h)))
theorem tq4 {w : Cond} (i : Nat) (h : tables_1_4[i]? = some w) : w ∈ lw_tbl := List.mem_append_right _ (List.mem_append_right _ (List.mem_append_right _ (List.mem_append_right _ (List.mem_of_getElem? h))))
theorem zq_34 : Cond.methodLinkNest RX1 11 yX4_init "FrameTalk" ∈ lw_tbl := tq1 34 rfl
theorem zq_70 : Cond.methodLinkNest RX1 20 yX2_init "FrameTalk" ∈ lw_tbl := tq1 70 rfl
theorem zq_51 : Cond.laysStatic "java/util/ArrayList" "DEFAULTCAPACITY_EMPTY_ELEMENTDATA" "[Ljava/lang/Object;" ∈ lw_tbl := tq1 51 rfl
theorem zq_6 : Cond.initialized "java/util/ArrayList" ∈ lw_tbl := tq1 6 rfl
theorem zq_82 : Cond.arrayOver (.object "FrameTalk$Thing") ∈ lw_tbl := tq1 82 rfl
theorem zq_31 : Cond.arrayOver (.object "java/lang/Object") ∈ lw_tbl := tq2 31 rfl
theorem zq_123 : Cond.declares ⟨"java/lang/Object", "getClass", "()Ljava/lang/Class;"⟩ ∈ lw_tbl := tq4 123 rfl
theorem zq_130 : Cond.castable RX3 "java/lang/Object" ∈ lw_tbl := tq4 130 rfl
/-- an array of objects, as the tables have it -/
theorem z_over {args : Array Value} {s : State} {C : String} (h : (Cond.arrayOver (.object C)).before args s = true) : ∃ c : ClassId, ArrOfT s c (.object C) ∧ va_RA s c (.object C) := by
  obtain ⟨comp, c, k, h1, h2, h3, h4, h5⟩ := Cond.arrayOver_spec h
  exact ⟨c, fun n z => ⟨fun k h => (by cases h), k, h3, comp, h4⟩, k, comp, h3, h4, h1, h5⟩
theorem z_int {args : Array Value} {s : State} (h : (Cond.arrayClass .int).before args s = true) : ∃ c : ClassId, ArrOfT s c .int ∧ va_RA s c .int := by
  obtain ⟨c, k, comp, h1, h2, h3⟩ := Cond.arrayClass_spec h
  exact ⟨c, fun n z => ⟨fun k h => (by cases h), k, h2, comp, h3⟩, h1⟩
theorem z_long {args : Array Value} {s : State} (h : (Cond.arrayClass .long).before args s = true) : ∃ c : ClassId, ArrOfT s c .long ∧ va_RA s c .long := by
  obtain ⟨c, k, comp, h1, h2, h3⟩ := Cond.arrayClass_spec h
  exact ⟨c, fun n z => ⟨fun k h => (by cases h), k, h2, comp, h3⟩, h1⟩
theorem z_len {args : Array Value} {s : State} {t : Term} {a : Nat} (ht : t.eval args s none [] s = some (.ref a)) (h : (Cond.eq (.length t) (.int 0)).before args s = true) : ∃ cell : Cell, s.heap[a]? = some cell ∧ cell.slots.size = 0 := by
  have h := Cond.eq_int h (show (Term.int 0).eval args s none [] s = some (.int 0) from rfl)
  simp only [Term.eval, ht, Option.bind_eq_bind, Option.bind_some] at h
  cases ha : s.arrayAt? a with
  | none => simp [ha] at h
  | some cell =>
    simp only [ha, Option.bind_some] at h
    by_cases hs : cell.slots.size < 2 ^ 31
    · rw [if_pos hs] at h
      have h1 : Value.int cell.slots.size.toInt32 = Value.int 0 := Option.some.inj h
      have h2 : nI cell.slots.size = nI 0 := Value.int.inj h1
      exact ⟨cell, (State.arrayAt?_spec ha).1, (nI_eq hs (by omega)).mp h2⟩
    · rw [if_neg hs] at h
      cases h
/-- the heap at the law's entry: nothing but the empty array -/
def s0 (H a : Nat) : Sg := (H, fun q => if q = a then 14 else 0, fun _ _ => 0, fun _ _ => 0, fun _ _ => none, fun _ => 0, fun _ _ => 0, fun _ _ => 0, fun _ _ => none)
/-- what the tables say at the entry -/
theorem ku_start {args : Array Value} {s : State} (hts : ∀ w ∈ lw_tbl, w.before args s = true) (hgv : (Jvm.Cond.and given_1 narrow_1).before args s = true) : ∃ d : Dp, KU d s ∧ ZU d (fun q => s.heap.size ≤ q) s s.heap ∧ HW d (s0 s.heap.size (dfl d)) s.heap := by
  have hw : ∀ w ∈ wsL_law, w.before args s = true := fun w h => hts w (List.mem_filter.mp h).1
  have hf := flat_of_before _ hgv
  obtain ⟨c0, i0, k0⟩ := u_known (C := RJx4a65c) (T := TJx4a65c) (N := 3) hw inw_0 (hw _ wm_1_39)
  obtain ⟨c1, i1, k1⟩ := u_known (C := RX0) (T := TX0) (N := 10) hw inw_1 (hw _ wm_1_84)
  obtain ⟨c2, i2, k2⟩ := u_known (C := RX1) (T := TX1) (N := 13) hw inw_2 (hw _ wm_1_27)
  obtain ⟨c3, i3, k3⟩ := u_known (C := RX2) (T := TX2) (N := 2) hw inw_3 (hw _ wm_1_69)
  obtain ⟨c4, i4, k4⟩ := u_known (C := RX3) (T := TX3) (N := 6) hw inw_4 (hw _ wm_1_193)
  obtain ⟨c5, i5, k5⟩ := u_known (C := RX4) (T := TX4) (N := 1) hw inw_5 (hw _ wm_1_33)
  obtain ⟨c6, i6, k6⟩ := u_known (C := RX5) (T := TX5) (N := 7) hw inw_6 (hw _ wm_2_143)
  obtain ⟨c7, i7, k7⟩ := u_known (C := RX6) (T := TX6) (N := 2) hw inw_7 (hw _ wm_1_19)
  obtain ⟨c8, i8, k8⟩ := u_known (C := RX7) (T := TX7) (N := 28) hw inw_8 (hw _ wm_3_129)
  obtain ⟨cI, aI, rI⟩ := z_int (hw _ wm_3_220)
  obtain ⟨cJ, aJ, rJ⟩ := z_long (hw _ wm_3_221)
  obtain ⟨cT, aT, rT⟩ := z_over (hts _ zq_82)
  obtain ⟨cO, aO, rO⟩ := z_over (hts _ zq_31)
  obtain ⟨mi, hmi⟩ := va_Mi.of (hf (.isRef (.mirror "[Ljava/lang/Object;")) (by decide +kernel))
  have hx : (Cond.exactly (.static "java/util/ArrayList" "DEFAULTCAPACITY_EMPTY_ELEMENTDATA" "[Ljava/lang/Object;") "[Ljava/lang/Object;").before args s = true := hf _ (by decide +kernel)
  have hl : (Cond.eq (.length (.static "java/util/ArrayList" "DEFAULTCAPACITY_EMPTY_ELEMENTDATA" "[Ljava/lang/Object;")) (.int 0)).before args s = true := hf _ (by decide +kernel)
  obtain ⟨a, cX, cell, kX, x1, x2, x3, x4, x5, x6, -⟩ := Cond.exactly_spec hx
  obtain ⟨cell', y1, y2⟩ := z_len x1 hl
  have ec : cell' = cell := Option.some.inj (y1.symm.trans x3)
  subst ec
  have eO : cX = cO := Option.some.inj (x2.symm.trans (va_nmO (nm := "[Ljava/lang/Object;") rO (by decide)))
  subst eO
  have alt : a < s.heap.size := (Array.getElem?_eq_some_iff.mp x3).1
  refine ⟨((fun k => match k with | 0 => c0 | 1 => c1 | 2 => c2 | 3 => c3 | 4 => c4 | 5 => c5 | 6 => c6 | 7 => c7 | _ => c8, fun k => match k with | 0 => i0 | 1 => i1 | 2 => i2 | 3 => i3 | 4 => i4 | 5 => i5 | 6 => i6 | 7 => i7 | _ => i8), cI, cJ, cT, cX, a, mi), ⟨⟨fun k q hq => ?_, fun k q hq => ?_⟩, va_Nw.of rfl (hts _ zq_34), va_Nw.of rfl (hts _ zq_70), hmi, va_Dc.of (hts _ zq_123), va_AO.of (hts _ zq_82), va_AO.of (hts _ zq_31), va_Nw.of rfl (hts _ zq_130)⟩, va_Zof (hts _ zq_51) (hts _ zq_6) x1 (fun q hq h => by omega), rfl, fun b hb => ?_⟩
  · match k, hq with
    | 0, hq => cases hq; exact k0
    | 1, hq => cases hq; exact k1
    | 2, hq => cases hq; exact k2
    | 3, hq => cases hq; exact k3
    | 4, hq => cases hq; exact k4
    | 5, hq => cases hq; exact k5
    | 6, hq => cases hq; exact k6
    | 7, hq => cases hq; exact k7
    | 8, hq => cases hq; exact k8
    | k + 9, hq => simp [vwCl] at hq
  · match k, hq with
    | 0, hq => cases hq; exact ⟨aI, rI⟩
    | 1, hq => cases hq; exact ⟨aJ, rJ⟩
    | 2, hq => cases hq; exact ⟨aT, rT⟩
    | 3, hq => cases hq; exact ⟨aO, rO⟩
    | k + 4, hq => simp [tysD] at hq
  · have e : b = a := by
      by_cases q : b = a
      · exact q
      · exact absurd (show gc (s0 s.heap.size a) b = 0 from if_neg q) hb
    subst e
    have g : gc (s0 s.heap.size b) b = 14 := if_pos rfl
    refine ⟨alt, fun ci hc hci => ?_, fun _ => ⟨cell', x3, fun q => absurd g q, fun _ => ⟨fun k h => ?_, x6, y2⟩⟩⟩
    · have e14 : (14 : Nat) = ci + 1 := g.symm.trans hc
      omega
    · rw [h] at x5
      cases x5
set_option maxHeartbeats 4000000 in
set_option maxRecDepth 100000 in
theorem whole_start {p : Program} {e : Env} {s : State} {m : MethodId} {below : List Frame} {meth : Method} {c : Code} (l : Launch) {b L : Nat} {xs : Nat → Int32} (hL : L ≤ 2560) (C0 : lw_At p s m meth c b L xs) : W p l e room_1 s m #[Value.ref b] below meth c s.heap [] 0 0 (lw_Z below #[Value.ref b] s) (entryFrame m ([Value.ref b] : List Value).toArray 4) := by
  obtain ⟨hx, hb, hr, hml, hown, hts, hX, hbl, hlocks, hgv⟩ := id C0
  obtain ⟨d, hK, hZ, hH⟩ := ku_start hts hgv
  have g0 : ∀ q, gc (s0 s.heap.size (dfl d)) q = if q = dfl d then 14 else 0 := fun _ => rfl
  have hz : GZ (s0 s.heap.size (dfl d)) := fun q hq => (hH.2 q hq).1
  obtain ⟨τ, k, n, ev, hk, hn⟩ := law_start (d := d) (xs := xs) (σ := s0 s.heap.size (dfl d)) rfl hz (fun q => by rw [g0]; split <;> omega) (by rw [g0, if_pos rfl]) rfl hL
  have E : Ev p s m #[Value.ref b] meth c RL code 4 ret d (fun q => s.heap.size ≤ q) := ⟨hx, hb, hml, hown, fun w h => hts w (List.mem_filter.mp h).1, hK, fun _ h => h, hr, hlocks, hZ⟩
  have G := w_L_law (l := l) (e := e) (below := below) E hX hbl hk hn ev
  have hl := lv_entry ([.ref b]) (n := 4) (Nat.le_of_ble_eq_true rfl)
  rw [lg_entry_eq]
  generalize (lg_sl ([.ref b]) ++ List.replicate (4 - (lg_sl ([.ref b])).length) Slot.unset).toArray = ls at hl ⊢
  have hl : lv_has ls 4 [(0, .ref b)] := hl
  refine G s.heap [] ls hH va_S.rf (fun q h1 h2 => ?_) hl
  rw [g0] at h1 h2
  by_cases q0 : q = dfl d
  · rw [if_pos q0] at h2; exact absurd rfl h2
  · rw [if_neg q0] at h1; exact absurd rfl h1
end START
