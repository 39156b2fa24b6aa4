def R_law : String := "FrameTalkLaw"
def lw_P (b : Addr) (xs : List Int32) (args : Array Value) (s : State) : Prop := args = #[.ref b] ∧ s.IntsAt b xs ∧ xs.length ≤ 2560 ∧ (Jvm.Cond.and given_1 narrow_1).before args s = true
def lw_Q (_ : Array Value) (s : State) (o : Outcome) (t : State) : Prop := o = .returned (some (.int 1)) ∧ Framed s o t [] 600000 7302250
def lw_Z (below : List Frame) (a : Array Value) (s : State) : State → Prop := fun t => ∃ o, t.status = .running ∧ Ended t below o ∧ lw_Q a s o t
/-- the law's own end, with 1 on the stack, nothing written that was there before, its room as the claim has it -/
theorem lw_ret {p : Program} {l : Launch} {e : Env} {s : State} {m : MethodId} {below : List Frame} {meth : Method} {c : Code} {b : Nat} (hx : p.tables.exec = Jvm.exec) (hb : c.code = code) (hr : meth.sig.returnType = ret) (hlocks : meth.locks = false) {pc : Nat} {H : Heap} {ls : Array Slot} (hdg : decode code pc = .ok (.ireturn, 1)) : W p l e room_1 s m #[Value.ref b] below meth c H [] 600000 7302250 (lw_Z below #[Value.ref b] s) (F0 m pc ls [.int 1]) := by
  intro T hT X
  obtain ⟨fs, hret, hrun, hended, hW, hframe⟩ := X.leave (v := some (.int 1)) (hlocks := hlocks) (fun h => by rw [hr] at h; cases h)
  have hmeth' : T.vm.method? m = some meth := X.method'
  refine ⟨T.setFrames fs, ?_, .returned (some (.int 1)), hrun, hended, rfl, ⟨_, rfl⟩, hW, hframe⟩
  jvm_step X.here [X.here.top, hx, hb, hdg, hmeth', hr, ret, narrow_b1]
  (try refine ⟨rfl, ?_⟩); (try refine ⟨rfl, ?_⟩)
  first | (intro acts; rw [hret _ acts rfl rfl rfl]) | rw [hret _ _ rfl rfl rfl]
  exact Steps.refl _
/-- what holds at the law's entry: the machine, the code, the tables' words (any of lw_tbl by 'hts w (by decide +kernel)'), the script of L ints xs at the cell b, what the Statement gives of the start (any of its parts by flat_of_before) -/
def lw_At (p : Program) (s : State) (m : MethodId) (meth : Method) (c : Code) (b L : Nat) (xs : Nat → Int32) : Prop :=
  p.tables.exec = Jvm.exec ∧ c.code = code ∧ meth.sig.returnType = ret ∧ c.maxLocals = 4 ∧ s.vm.findClass R_law = some m.cls ∧ (∀ w ∈ lw_tbl, w.before #[Value.ref b] s = true) ∧ va_X b L xs s s.heap ∧ b < s.heap.size ∧ meth.locks = false ∧ (Jvm.Cond.and given_1 narrow_1).before #[Value.ref b] s = true
section LR
variable {p : Program} {l : Launch} {e : Env} {R : Room} {s : State} {m : MethodId} {args : Array Value} {below : List Frame} {meth : Method} {c : Code} {d : Dp} {A : Nat → Prop} {Q : State → Prop} {nL : Nat} {σ : Sg} {k n pc : Nat} {lv : List (Nat × Value)} {st : List Value} {own : String} {cc : ByteArray}
theorem r_sld {bS L : Nat} {xs : Nat → Int32} {i : Int32} {rt : Option FieldType} (E : Ev p s m args meth c own cc nL rt d (fun q => s.heap.size ≤ q)) (hX : va_X bS L xs s s.heap) (hbl : bS < s.heap.size) (hi : vp_in i L) (hd : decode cc pc = .ok (.iaload, 1)) (kk : Gk p l e R s m args below meth c d (fun q => s.heap.size ≤ q) Q nL σ k n (pc + 1) lv (.int (xs i.toNatClampNeg) :: st)) : Gk p l e R s m args below meth c d (fun q => s.heap.size ≤ q) Q nL σ k n pc lv (.int i :: va_rf (some bS) :: st) := fun H locs ls hH hS hP hl => va_sld E.x E.b hX hbl (Nat.not_le.mpr hbl) hS hi hd (kk H locs ls hH hS hP hl)
theorem r_slen {bS L : Nat} {xs : Nat → Int32} {rt : Option FieldType} (E : Ev p s m args meth c own cc nL rt d (fun q => s.heap.size ≤ q)) (hX : va_X bS L xs s s.heap) (hbl : bS < s.heap.size) (hd : decode cc pc = .ok (.arraylength, 1)) (kk : Gk p l e R s m args below meth c d (fun q => s.heap.size ≤ q) Q nL σ k n (pc + 1) lv (.int (Int32.ofNat L) :: st)) : Gk p l e R s m args below meth c d (fun q => s.heap.size ≤ q) Q nL σ k n pc lv (va_rf (some bS) :: st) := fun H locs ls hH hS hP hl => va_slen E.x E.b hX hbl (Nat.not_le.mpr hbl) hS hd (kk H locs ls hH hS hP hl)
theorem r_lawret {bS : Nat} (E : Ev p s m #[Value.ref bS] meth c RL code nL ret d (fun q => s.heap.size ≤ q)) (hk : k ≤ 600000) (hn : n ≤ 7302250) (hd : decode code pc = .ok (.ireturn, 1)) : Gk p l e room_1 s m #[Value.ref bS] below meth c d (fun q => s.heap.size ≤ q) (lw_Z below #[Value.ref bS] s) nL σ k n pc lv [.int 1] := fun H locs ls hH hS hP hl => W.widen hk hn (va_forget (fun q hq => hS.2.2 q hq) (lw_ret E.x E.b E.rt E.lk hd))
end LR
def lp_L_law (L : Nat) (xs : Nat → Int32) : Nat → Dp → Sg → Option Nat → Option Nat → Int32 → Nat → Nat → Option (Int32 × Sg × Nat × Nat)
  | 0, _, _, _, _, _, _, _ => none
  | f + 1, d, σ, v1, v2, v3, kc, nc => (if ((Int32.ofNat L) - (5 : Int32)) < v3 then some ((1 : Int32), σ, kc, nc) else (if ¬ (v3 < 0 ∨ L ≤ Int32.toNatClampNeg v3) then (if ((xs (Int32.toNatClampNeg v3)) &&& (15 : Int32)) = 0 then (if ¬ ((v3 + (1 : Int32)) < 0 ∨ L ≤ Int32.toNatClampNeg (v3 + (1 : Int32))) then (if ¬ ((v3 + (2 : Int32)) < 0 ∨ L ≤ Int32.toNatClampNeg (v3 + (2 : Int32))) then (Option.bind v1 fun a16 => (if gc σ a16 = 8 then (b4 (ex_X6_lit d σ a16 (((Int32.toInt64 (xs (Int32.toNatClampNeg (v3 + (1 : Int32))))) <<< (Int32.toInt64 (32 : Int32) &&& 63)) ||| ((Int32.toInt64 (xs (Int32.toNatClampNeg (v3 + (2 : Int32))))) &&& (4294967295 : Int64)))) fun r21 s20 k22 n23 => (if ¬ ((v3 + (1 : Int32)) < 0 ∨ L ≤ Int32.toNatClampNeg (v3 + (1 : Int32))) then (if ¬ ((v3 + (2 : Int32)) < 0 ∨ L ≤ Int32.toNatClampNeg (v3 + (2 : Int32))) then (Option.bind v2 fun a26 => (if gc s20 a26 = 9 then (b2 (ex_X7_lit d s20 a26 (((Int32.toInt64 (xs (Int32.toNatClampNeg (v3 + (1 : Int32))))) <<< (Int32.toInt64 (32 : Int32) &&& 63)) ||| ((Int32.toInt64 (xs (Int32.toNatClampNeg (v3 + (2 : Int32))))) &&& (4294967295 : Int64)))) fun r31 s30 => (if r21 = r31 then lp_L_law L xs f d s30 v1 v2 (v3 + 5) (kc + k22) (nc + n23) else none)) else none)) else none) else none)) else none)) else none) else none) else (if ((xs (Int32.toNatClampNeg v3)) &&& (15 : Int32)) = 1 then (if ¬ ((v3 + (1 : Int32)) < 0 ∨ L ≤ Int32.toNatClampNeg (v3 + (1 : Int32))) then (if ¬ ((v3 + (2 : Int32)) < 0 ∨ L ≤ Int32.toNatClampNeg (v3 + (2 : Int32))) then (if ¬ ((v3 + (3 : Int32)) < 0 ∨ L ≤ Int32.toNatClampNeg (v3 + (3 : Int32))) then (if ¬ ((v3 + (4 : Int32)) < 0 ∨ L ≤ Int32.toNatClampNeg (v3 + (4 : Int32))) then (Option.bind v1 fun a38 => (if gc σ a38 = 8 then (b4 (ex_X6_node d σ a38 (xs (Int32.toNatClampNeg (v3 + (1 : Int32)))) (xs (Int32.toNatClampNeg (v3 + (2 : Int32)))) (xs (Int32.toNatClampNeg (v3 + (3 : Int32)))) (xs (Int32.toNatClampNeg (v3 + (4 : Int32))))) fun r43 s42 k44 n45 => (if ¬ ((v3 + (1 : Int32)) < 0 ∨ L ≤ Int32.toNatClampNeg (v3 + (1 : Int32))) then (if ¬ ((v3 + (2 : Int32)) < 0 ∨ L ≤ Int32.toNatClampNeg (v3 + (2 : Int32))) then (if ¬ ((v3 + (3 : Int32)) < 0 ∨ L ≤ Int32.toNatClampNeg (v3 + (3 : Int32))) then (if ¬ ((v3 + (4 : Int32)) < 0 ∨ L ≤ Int32.toNatClampNeg (v3 + (4 : Int32))) then (Option.bind v2 fun a50 => (if gc s42 a50 = 9 then (b2 (ex_X7_node d s42 a50 (xs (Int32.toNatClampNeg (v3 + (1 : Int32)))) (xs (Int32.toNatClampNeg (v3 + (2 : Int32)))) (xs (Int32.toNatClampNeg (v3 + (3 : Int32)))) (xs (Int32.toNatClampNeg (v3 + (4 : Int32))))) fun r55 s54 => (if r43 = r55 then lp_L_law L xs f d s54 v1 v2 (v3 + 5) (kc + k44) (nc + n45) else none)) else none)) else none) else none) else none) else none)) else none)) else none) else none) else none) else none) else (if ((xs (Int32.toNatClampNeg v3)) &&& (15 : Int32)) = 2 then (if ¬ ((v3 + (1 : Int32)) < 0 ∨ L ≤ Int32.toNatClampNeg (v3 + (1 : Int32))) then (if ¬ ((v3 + (2 : Int32)) < 0 ∨ L ≤ Int32.toNatClampNeg (v3 + (2 : Int32))) then (if ¬ ((v3 + (3 : Int32)) < 0 ∨ L ≤ Int32.toNatClampNeg (v3 + (3 : Int32))) then (Option.bind v1 fun a61 => (if gc σ a61 = 8 then (b2 (ex_X6_part d σ a61 (xs (Int32.toNatClampNeg (v3 + (1 : Int32)))) (xs (Int32.toNatClampNeg (v3 + (2 : Int32)))) (xs (Int32.toNatClampNeg (v3 + (3 : Int32))))) fun r66 s65 => (if ¬ ((v3 + (1 : Int32)) < 0 ∨ L ≤ Int32.toNatClampNeg (v3 + (1 : Int32))) then (if ¬ ((v3 + (2 : Int32)) < 0 ∨ L ≤ Int32.toNatClampNeg (v3 + (2 : Int32))) then (if ¬ ((v3 + (3 : Int32)) < 0 ∨ L ≤ Int32.toNatClampNeg (v3 + (3 : Int32))) then (Option.bind v2 fun a70 => (if gc s65 a70 = 9 then (b2 (ex_X7_part d s65 a70 (xs (Int32.toNatClampNeg (v3 + (1 : Int32)))) (xs (Int32.toNatClampNeg (v3 + (2 : Int32)))) (xs (Int32.toNatClampNeg (v3 + (3 : Int32))))) fun r75 s74 => (if r66 = r75 then lp_L_law L xs f d s74 v1 v2 (v3 + 5) kc nc else none)) else none)) else none) else none) else none)) else none)) else none) else none) else none) else (if ((xs (Int32.toNatClampNeg v3)) &&& (15 : Int32)) = 3 then (if ¬ ((v3 + (1 : Int32)) < 0 ∨ L ≤ Int32.toNatClampNeg (v3 + (1 : Int32))) then (if ¬ ((v3 + (2 : Int32)) < 0 ∨ L ≤ Int32.toNatClampNeg (v3 + (2 : Int32))) then (Option.bind v1 fun a80 => (if gc σ a80 = 8 then (b4 (ex_X6_run d σ a80 (xs (Int32.toNatClampNeg (v3 + (1 : Int32)))) (xs (Int32.toNatClampNeg (v3 + (2 : Int32))))) fun r85 s84 k86 n87 => (if ¬ ((v3 + (1 : Int32)) < 0 ∨ L ≤ Int32.toNatClampNeg (v3 + (1 : Int32))) then (if ¬ ((v3 + (2 : Int32)) < 0 ∨ L ≤ Int32.toNatClampNeg (v3 + (2 : Int32))) then (Option.bind v2 fun a90 => (if gc s84 a90 = 9 then (b2 (ex_X7_run d s84 a90 (xs (Int32.toNatClampNeg (v3 + (1 : Int32)))) (xs (Int32.toNatClampNeg (v3 + (2 : Int32))))) fun r95 s94 => (if r85 = r95 then lp_L_law L xs f d s94 v1 v2 (v3 + 5) (kc + k86) (nc + n87) else none)) else none)) else none) else none)) else none)) else none) else none) else (if ((xs (Int32.toNatClampNeg v3)) &&& (15 : Int32)) = 4 then (if ¬ ((v3 + (1 : Int32)) < 0 ∨ L ≤ Int32.toNatClampNeg (v3 + (1 : Int32))) then (Option.bind v1 fun a99 => (if gc σ a99 = 8 then (b2 (ex_X6_value d σ a99 (xs (Int32.toNatClampNeg (v3 + (1 : Int32))))) fun r104 s103 => (if ¬ ((v3 + (1 : Int32)) < 0 ∨ L ≤ Int32.toNatClampNeg (v3 + (1 : Int32))) then (Option.bind v2 fun a106 => (if gc s103 a106 = 9 then (b2 (ex_X7_value d s103 a106 (xs (Int32.toNatClampNeg (v3 + (1 : Int32))))) fun r111 s110 => (if (lg_cmp r104 r111) = (0 : Int32) then lp_L_law L xs f d s110 v1 v2 (v3 + 5) kc nc else none)) else none)) else none)) else none)) else none) else (if ((xs (Int32.toNatClampNeg v3)) &&& (15 : Int32)) = 5 then (if ¬ ((v3 + (1 : Int32)) < 0 ∨ L ≤ Int32.toNatClampNeg (v3 + (1 : Int32))) then (if ¬ ((v3 + (2 : Int32)) < 0 ∨ L ≤ Int32.toNatClampNeg (v3 + (2 : Int32))) then (Option.bind v1 fun a116 => (if gc σ a116 = 8 then (b2 (ex_X6_thing d σ a116 (xs (Int32.toNatClampNeg (v3 + (1 : Int32)))) (xs (Int32.toNatClampNeg (v3 + (2 : Int32))))) fun r121 s120 => (if ¬ ((v3 + (1 : Int32)) < 0 ∨ L ≤ Int32.toNatClampNeg (v3 + (1 : Int32))) then (if ¬ ((v3 + (2 : Int32)) < 0 ∨ L ≤ Int32.toNatClampNeg (v3 + (2 : Int32))) then (Option.bind v2 fun a124 => (if gc s120 a124 = 9 then (b2 (ex_X7_thing d s120 a124 (xs (Int32.toNatClampNeg (v3 + (1 : Int32)))) (xs (Int32.toNatClampNeg (v3 + (2 : Int32))))) fun r129 s128 => (if r121 = r129 then lp_L_law L xs f d s128 v1 v2 (v3 + 5) kc nc else none)) else none)) else none) else none)) else none)) else none) else none) else (if ((xs (Int32.toNatClampNeg v3)) &&& (15 : Int32)) = 6 then (Option.bind v1 fun a132 => (if gc σ a132 = 8 then (b2 (ex_X6_fault d σ a132) fun r137 s136 => (Option.bind v2 fun a138 => (if gc s136 a138 = 9 then (b2 (ex_X7_fault d s136 a138) fun r143 s142 => (if r137 = r143 then lp_L_law L xs f d s142 v1 v2 (v3 + 5) kc nc else none)) else none))) else none)) else (if ((xs (Int32.toNatClampNeg v3)) &&& (15 : Int32)) = 7 then (Option.bind v1 fun a146 => (if gc σ a146 = 8 then (b2 (ex_X6_faultNode d σ a146) fun r151 s150 => (Option.bind v2 fun a152 => (if gc s150 a152 = 9 then (b2 (ex_X7_faultNode d s150 a152) fun r157 s156 => (if r151 = r157 then lp_L_law L xs f d s156 v1 v2 (v3 + 5) kc nc else none)) else none))) else none)) else (if ((xs (Int32.toNatClampNeg v3)) &&& (15 : Int32)) = 8 then (Option.bind v1 fun a160 => (if gc σ a160 = 8 then (b2 (ex_X6_steps d σ a160) fun r165 s164 => (Option.bind v2 fun a166 => (if gc s164 a166 = 9 then (b2 (ex_X7_steps d s164 a166) fun r171 s170 => (if r165 = r171 then lp_L_law L xs f d s170 v1 v2 (v3 + 5) kc nc else none)) else none))) else none)) else (if ((xs (Int32.toNatClampNeg v3)) &&& (15 : Int32)) = 9 then (Option.bind v1 fun a174 => (if gc σ a174 = 8 then (b2 (ex_X6_wipe d σ a174) fun r179 s178 => (Option.bind v2 fun a180 => (if gc s178 a180 = 9 then (b2 (ex_X7_wipe d s178 a180) fun r185 s184 => lp_L_law L xs f d s184 v1 v2 (v3 + 5) kc nc) else none))) else none)) else lp_L_law L xs f d σ v1 v2 (v3 + 5) kc nc)))))))))) else none))
set_option maxHeartbeats 4000000 in
theorem mo_lp_L_law {L : Nat} {xs : Nat → Int32} {d : Dp} {σ' : Sg} {r : Int32} {kF nF : Nat} : ∀ (f : Nat) (σ : Sg) (v1 : Option Nat) (v2 : Option Nat) (v3 : Int32) (kc nc : Nat), lp_L_law L xs f d σ v1 v2 v3 kc nc = some (r, σ', kF, nF) → kc ≤ kF ∧ nc ≤ nF := by
  intro f
  induction f with
  | zero => intro _ _ _ _ _ _ h; cases h
  | succ f ih =>
    intro σ v1 v2 v3 kc nc h
    unfold lp_L_law at h
    by_cases c11 : ((Int32.ofNat L) - (5 : Int32)) < v3
    · have h := ift c11 h
      obtain ⟨_, _, rfl, rfl⟩ := lf4 h
      exact ⟨by omega, by omega⟩
    · have h := iff' c11 h
      obtain ⟨_, h⟩ := ck h
      by_cases c13 : ((xs (Int32.toNatClampNeg v3)) &&& (15 : Int32)) = 0
      · have h := ift c13 h
        obtain ⟨_, h⟩ := ck h
        obtain ⟨_, h⟩ := ck h
        obtain ⟨a16, _, h⟩ := nn h
        obtain ⟨_, h⟩ := ck h
        obtain ⟨r21, s20, k22, n23, _, h⟩ := nb4 h
        obtain ⟨_, h⟩ := ck h
        obtain ⟨_, h⟩ := ck h
        obtain ⟨a26, _, h⟩ := nn h
        obtain ⟨_, h⟩ := ck h
        obtain ⟨r31, s30, _, h⟩ := nb2 h
        by_cases c32 : r21 = r31
        · have h := ift c32 h
          have hmo := ih _ _ _ _ _ _ h
          exact ⟨by omega, by omega⟩
        · have h := iff' c32 h
          cases h
      · have h := iff' c13 h
        by_cases c33 : ((xs (Int32.toNatClampNeg v3)) &&& (15 : Int32)) = 1
        · have h := ift c33 h
          obtain ⟨_, h⟩ := ck h
          obtain ⟨_, h⟩ := ck h
          obtain ⟨_, h⟩ := ck h
          obtain ⟨_, h⟩ := ck h
          obtain ⟨a38, _, h⟩ := nn h
          obtain ⟨_, h⟩ := ck h
          obtain ⟨r43, s42, k44, n45, _, h⟩ := nb4 h
          obtain ⟨_, h⟩ := ck h
          obtain ⟨_, h⟩ := ck h
          obtain ⟨_, h⟩ := ck h
          obtain ⟨_, h⟩ := ck h
          obtain ⟨a50, _, h⟩ := nn h
          obtain ⟨_, h⟩ := ck h
          obtain ⟨r55, s54, _, h⟩ := nb2 h
          by_cases c56 : r43 = r55
          · have h := ift c56 h
            have hmo := ih _ _ _ _ _ _ h
            exact ⟨by omega, by omega⟩
          · have h := iff' c56 h
            cases h
        · have h := iff' c33 h
          by_cases c57 : ((xs (Int32.toNatClampNeg v3)) &&& (15 : Int32)) = 2
          · have h := ift c57 h
            obtain ⟨_, h⟩ := ck h
            obtain ⟨_, h⟩ := ck h
            obtain ⟨_, h⟩ := ck h
            obtain ⟨a61, _, h⟩ := nn h
            obtain ⟨_, h⟩ := ck h
            obtain ⟨r66, s65, _, h⟩ := nb2 h
            obtain ⟨_, h⟩ := ck h
            obtain ⟨_, h⟩ := ck h
            obtain ⟨_, h⟩ := ck h
            obtain ⟨a70, _, h⟩ := nn h
            obtain ⟨_, h⟩ := ck h
            obtain ⟨r75, s74, _, h⟩ := nb2 h
            by_cases c76 : r66 = r75
            · have h := ift c76 h
              have hmo := ih _ _ _ _ _ _ h
              exact ⟨by omega, by omega⟩
            · have h := iff' c76 h
              cases h
          · have h := iff' c57 h
            by_cases c77 : ((xs (Int32.toNatClampNeg v3)) &&& (15 : Int32)) = 3
            · have h := ift c77 h
              obtain ⟨_, h⟩ := ck h
              obtain ⟨_, h⟩ := ck h
              obtain ⟨a80, _, h⟩ := nn h
              obtain ⟨_, h⟩ := ck h
              obtain ⟨r85, s84, k86, n87, _, h⟩ := nb4 h
              obtain ⟨_, h⟩ := ck h
              obtain ⟨_, h⟩ := ck h
              obtain ⟨a90, _, h⟩ := nn h
              obtain ⟨_, h⟩ := ck h
              obtain ⟨r95, s94, _, h⟩ := nb2 h
              by_cases c96 : r85 = r95
              · have h := ift c96 h
                have hmo := ih _ _ _ _ _ _ h
                exact ⟨by omega, by omega⟩
              · have h := iff' c96 h
                cases h
            · have h := iff' c77 h
              by_cases c97 : ((xs (Int32.toNatClampNeg v3)) &&& (15 : Int32)) = 4
              · have h := ift c97 h
                obtain ⟨_, h⟩ := ck h
                obtain ⟨a99, _, h⟩ := nn h
                obtain ⟨_, h⟩ := ck h
                obtain ⟨r104, s103, _, h⟩ := nb2 h
                obtain ⟨_, h⟩ := ck h
                obtain ⟨a106, _, h⟩ := nn h
                obtain ⟨_, h⟩ := ck h
                obtain ⟨r111, s110, _, h⟩ := nb2 h
                by_cases c112 : (lg_cmp r104 r111) = (0 : Int32)
                · have h := ift c112 h
                  have hmo := ih _ _ _ _ _ _ h
                  exact ⟨by omega, by omega⟩
                · have h := iff' c112 h
                  cases h
              · have h := iff' c97 h
                by_cases c113 : ((xs (Int32.toNatClampNeg v3)) &&& (15 : Int32)) = 5
                · have h := ift c113 h
                  obtain ⟨_, h⟩ := ck h
                  obtain ⟨_, h⟩ := ck h
                  obtain ⟨a116, _, h⟩ := nn h
                  obtain ⟨_, h⟩ := ck h
                  obtain ⟨r121, s120, _, h⟩ := nb2 h
                  obtain ⟨_, h⟩ := ck h
                  obtain ⟨_, h⟩ := ck h
                  obtain ⟨a124, _, h⟩ := nn h
                  obtain ⟨_, h⟩ := ck h
                  obtain ⟨r129, s128, _, h⟩ := nb2 h
                  by_cases c130 : r121 = r129
                  · have h := ift c130 h
                    have hmo := ih _ _ _ _ _ _ h
                    exact ⟨by omega, by omega⟩
                  · have h := iff' c130 h
                    cases h
                · have h := iff' c113 h
                  by_cases c131 : ((xs (Int32.toNatClampNeg v3)) &&& (15 : Int32)) = 6
                  · have h := ift c131 h
                    obtain ⟨a132, _, h⟩ := nn h
                    obtain ⟨_, h⟩ := ck h
                    obtain ⟨r137, s136, _, h⟩ := nb2 h
                    obtain ⟨a138, _, h⟩ := nn h
                    obtain ⟨_, h⟩ := ck h
                    obtain ⟨r143, s142, _, h⟩ := nb2 h
                    by_cases c144 : r137 = r143
                    · have h := ift c144 h
                      have hmo := ih _ _ _ _ _ _ h
                      exact ⟨by omega, by omega⟩
                    · have h := iff' c144 h
                      cases h
                  · have h := iff' c131 h
                    by_cases c145 : ((xs (Int32.toNatClampNeg v3)) &&& (15 : Int32)) = 7
                    · have h := ift c145 h
                      obtain ⟨a146, _, h⟩ := nn h
                      obtain ⟨_, h⟩ := ck h
                      obtain ⟨r151, s150, _, h⟩ := nb2 h
                      obtain ⟨a152, _, h⟩ := nn h
                      obtain ⟨_, h⟩ := ck h
                      obtain ⟨r157, s156, _, h⟩ := nb2 h
                      by_cases c158 : r151 = r157
                      · have h := ift c158 h
                        have hmo := ih _ _ _ _ _ _ h
                        exact ⟨by omega, by omega⟩
                      · have h := iff' c158 h
                        cases h
                    · have h := iff' c145 h
                      by_cases c159 : ((xs (Int32.toNatClampNeg v3)) &&& (15 : Int32)) = 8
                      · have h := ift c159 h
                        obtain ⟨a160, _, h⟩ := nn h
                        obtain ⟨_, h⟩ := ck h
                        obtain ⟨r165, s164, _, h⟩ := nb2 h
                        obtain ⟨a166, _, h⟩ := nn h
                        obtain ⟨_, h⟩ := ck h
                        obtain ⟨r171, s170, _, h⟩ := nb2 h
                        by_cases c172 : r165 = r171
                        · have h := ift c172 h
                          have hmo := ih _ _ _ _ _ _ h
                          exact ⟨by omega, by omega⟩
                        · have h := iff' c172 h
                          cases h
                      · have h := iff' c159 h
                        by_cases c173 : ((xs (Int32.toNatClampNeg v3)) &&& (15 : Int32)) = 9
                        · have h := ift c173 h
                          obtain ⟨a174, _, h⟩ := nn h
                          obtain ⟨_, h⟩ := ck h
                          obtain ⟨r179, s178, _, h⟩ := nb2 h
                          obtain ⟨a180, _, h⟩ := nn h
                          obtain ⟨_, h⟩ := ck h
                          obtain ⟨r185, s184, _, h⟩ := nb2 h
                          have hmo := ih _ _ _ _ _ _ h
                          exact ⟨by omega, by omega⟩
                        · have h := iff' c173 h
                          have hmo := ih _ _ _ _ _ _ h
                          exact ⟨by omega, by omega⟩
set_option maxHeartbeats 8000000 in
set_option maxRecDepth 20000 in
theorem wlp_L_law {p : Program} {l : Launch} {e : Env} {s : State} {m : MethodId} {below : List Frame} {meth : Method} {c : Code} {d : Dp} {bS L : Nat} {xs : Nat → Int32} {σ' : Sg} {r : Int32} {kF nF : Nat} (E : Ev p s m #[Value.ref bS] meth c RL code 4 ret d (fun q => s.heap.size ≤ q)) (hX : va_X bS L xs s s.heap) (hbl : bS < s.heap.size) (hkF : kF ≤ 600000) (hnF : nF ≤ 7302250) : ∀ (f : Nat) (σ : Sg) (v1 : Option Nat) (v2 : Option Nat) (v3 : Int32) (kc nc : Nat), lp_L_law L xs f d σ v1 v2 v3 kc nc = some (r, σ', kF, nF) → Gk p l e room_1 s m #[Value.ref bS] below meth c d (fun q => s.heap.size ≤ q) (lw_Z below #[Value.ref bS] s) 4 σ kc nc 18 [(0, va_rf (some bS)), (1, va_rf (v1)), (2, va_rf (v2)), (3, .int (v3))] [] := by
  intro f
  induction f with
  | zero => intro _ _ _ _ _ _ h; cases h
  | succ f ih =>
    intro σ v1 v2 v3 kc nc h
    unfold lp_L_law at h
    have hmo : kc ≤ kF ∧ nc ≤ nF := by
      by_cases c11 : ((Int32.ofNat L) - (5 : Int32)) < v3
      · have h := ift c11 h
        obtain ⟨_, _, rfl, rfl⟩ := lf4 h
        exact ⟨by omega, by omega⟩
      · have h := iff' c11 h
        obtain ⟨_, h⟩ := ck h
        by_cases c13 : ((xs (Int32.toNatClampNeg v3)) &&& (15 : Int32)) = 0
        · have h := ift c13 h
          obtain ⟨_, h⟩ := ck h
          obtain ⟨_, h⟩ := ck h
          obtain ⟨a16, _, h⟩ := nn h
          obtain ⟨_, h⟩ := ck h
          obtain ⟨r21, s20, k22, n23, _, h⟩ := nb4 h
          obtain ⟨_, h⟩ := ck h
          obtain ⟨_, h⟩ := ck h
          obtain ⟨a26, _, h⟩ := nn h
          obtain ⟨_, h⟩ := ck h
          obtain ⟨r31, s30, _, h⟩ := nb2 h
          by_cases c32 : r21 = r31
          · have h := ift c32 h
            have hmo := mo_lp_L_law f _ _ _ _ _ _ h
            exact ⟨by omega, by omega⟩
          · have h := iff' c32 h
            cases h
        · have h := iff' c13 h
          by_cases c33 : ((xs (Int32.toNatClampNeg v3)) &&& (15 : Int32)) = 1
          · have h := ift c33 h
            obtain ⟨_, h⟩ := ck h
            obtain ⟨_, h⟩ := ck h
            obtain ⟨_, h⟩ := ck h
            obtain ⟨_, h⟩ := ck h
            obtain ⟨a38, _, h⟩ := nn h
            obtain ⟨_, h⟩ := ck h
            obtain ⟨r43, s42, k44, n45, _, h⟩ := nb4 h
            obtain ⟨_, h⟩ := ck h
            obtain ⟨_, h⟩ := ck h
            obtain ⟨_, h⟩ := ck h
            obtain ⟨_, h⟩ := ck h
            obtain ⟨a50, _, h⟩ := nn h
            obtain ⟨_, h⟩ := ck h
            obtain ⟨r55, s54, _, h⟩ := nb2 h
            by_cases c56 : r43 = r55
            · have h := ift c56 h
              have hmo := mo_lp_L_law f _ _ _ _ _ _ h
              exact ⟨by omega, by omega⟩
            · have h := iff' c56 h
              cases h
          · have h := iff' c33 h
            by_cases c57 : ((xs (Int32.toNatClampNeg v3)) &&& (15 : Int32)) = 2
            · have h := ift c57 h
              obtain ⟨_, h⟩ := ck h
              obtain ⟨_, h⟩ := ck h
              obtain ⟨_, h⟩ := ck h
              obtain ⟨a61, _, h⟩ := nn h
              obtain ⟨_, h⟩ := ck h
              obtain ⟨r66, s65, _, h⟩ := nb2 h
              obtain ⟨_, h⟩ := ck h
              obtain ⟨_, h⟩ := ck h
              obtain ⟨_, h⟩ := ck h
              obtain ⟨a70, _, h⟩ := nn h
              obtain ⟨_, h⟩ := ck h
              obtain ⟨r75, s74, _, h⟩ := nb2 h
              by_cases c76 : r66 = r75
              · have h := ift c76 h
                have hmo := mo_lp_L_law f _ _ _ _ _ _ h
                exact ⟨by omega, by omega⟩
              · have h := iff' c76 h
                cases h
            · have h := iff' c57 h
              by_cases c77 : ((xs (Int32.toNatClampNeg v3)) &&& (15 : Int32)) = 3
              · have h := ift c77 h
                obtain ⟨_, h⟩ := ck h
                obtain ⟨_, h⟩ := ck h
                obtain ⟨a80, _, h⟩ := nn h
                obtain ⟨_, h⟩ := ck h
                obtain ⟨r85, s84, k86, n87, _, h⟩ := nb4 h
                obtain ⟨_, h⟩ := ck h
                obtain ⟨_, h⟩ := ck h
                obtain ⟨a90, _, h⟩ := nn h
                obtain ⟨_, h⟩ := ck h
                obtain ⟨r95, s94, _, h⟩ := nb2 h
                by_cases c96 : r85 = r95
                · have h := ift c96 h
                  have hmo := mo_lp_L_law f _ _ _ _ _ _ h
                  exact ⟨by omega, by omega⟩
                · have h := iff' c96 h
                  cases h
              · have h := iff' c77 h
                by_cases c97 : ((xs (Int32.toNatClampNeg v3)) &&& (15 : Int32)) = 4
                · have h := ift c97 h
                  obtain ⟨_, h⟩ := ck h
                  obtain ⟨a99, _, h⟩ := nn h
                  obtain ⟨_, h⟩ := ck h
                  obtain ⟨r104, s103, _, h⟩ := nb2 h
                  obtain ⟨_, h⟩ := ck h
                  obtain ⟨a106, _, h⟩ := nn h
                  obtain ⟨_, h⟩ := ck h
                  obtain ⟨r111, s110, _, h⟩ := nb2 h
                  by_cases c112 : (lg_cmp r104 r111) = (0 : Int32)
                  · have h := ift c112 h
                    have hmo := mo_lp_L_law f _ _ _ _ _ _ h
                    exact ⟨by omega, by omega⟩
                  · have h := iff' c112 h
                    cases h
                · have h := iff' c97 h
                  by_cases c113 : ((xs (Int32.toNatClampNeg v3)) &&& (15 : Int32)) = 5
                  · have h := ift c113 h
                    obtain ⟨_, h⟩ := ck h
                    obtain ⟨_, h⟩ := ck h
                    obtain ⟨a116, _, h⟩ := nn h
                    obtain ⟨_, h⟩ := ck h
                    obtain ⟨r121, s120, _, h⟩ := nb2 h
                    obtain ⟨_, h⟩ := ck h
                    obtain ⟨_, h⟩ := ck h
                    obtain ⟨a124, _, h⟩ := nn h
                    obtain ⟨_, h⟩ := ck h
                    obtain ⟨r129, s128, _, h⟩ := nb2 h
                    by_cases c130 : r121 = r129
                    · have h := ift c130 h
                      have hmo := mo_lp_L_law f _ _ _ _ _ _ h
                      exact ⟨by omega, by omega⟩
                    · have h := iff' c130 h
                      cases h
                  · have h := iff' c113 h
                    by_cases c131 : ((xs (Int32.toNatClampNeg v3)) &&& (15 : Int32)) = 6
                    · have h := ift c131 h
                      obtain ⟨a132, _, h⟩ := nn h
                      obtain ⟨_, h⟩ := ck h
                      obtain ⟨r137, s136, _, h⟩ := nb2 h
                      obtain ⟨a138, _, h⟩ := nn h
                      obtain ⟨_, h⟩ := ck h
                      obtain ⟨r143, s142, _, h⟩ := nb2 h
                      by_cases c144 : r137 = r143
                      · have h := ift c144 h
                        have hmo := mo_lp_L_law f _ _ _ _ _ _ h
                        exact ⟨by omega, by omega⟩
                      · have h := iff' c144 h
                        cases h
                    · have h := iff' c131 h
                      by_cases c145 : ((xs (Int32.toNatClampNeg v3)) &&& (15 : Int32)) = 7
                      · have h := ift c145 h
                        obtain ⟨a146, _, h⟩ := nn h
                        obtain ⟨_, h⟩ := ck h
                        obtain ⟨r151, s150, _, h⟩ := nb2 h
                        obtain ⟨a152, _, h⟩ := nn h
                        obtain ⟨_, h⟩ := ck h
                        obtain ⟨r157, s156, _, h⟩ := nb2 h
                        by_cases c158 : r151 = r157
                        · have h := ift c158 h
                          have hmo := mo_lp_L_law f _ _ _ _ _ _ h
                          exact ⟨by omega, by omega⟩
                        · have h := iff' c158 h
                          cases h
                      · have h := iff' c145 h
                        by_cases c159 : ((xs (Int32.toNatClampNeg v3)) &&& (15 : Int32)) = 8
                        · have h := ift c159 h
                          obtain ⟨a160, _, h⟩ := nn h
                          obtain ⟨_, h⟩ := ck h
                          obtain ⟨r165, s164, _, h⟩ := nb2 h
                          obtain ⟨a166, _, h⟩ := nn h
                          obtain ⟨_, h⟩ := ck h
                          obtain ⟨r171, s170, _, h⟩ := nb2 h
                          by_cases c172 : r165 = r171
                          · have h := ift c172 h
                            have hmo := mo_lp_L_law f _ _ _ _ _ _ h
                            exact ⟨by omega, by omega⟩
                          · have h := iff' c172 h
                            cases h
                        · have h := iff' c159 h
                          by_cases c173 : ((xs (Int32.toNatClampNeg v3)) &&& (15 : Int32)) = 9
                          · have h := ift c173 h
                            obtain ⟨a174, _, h⟩ := nn h
                            obtain ⟨_, h⟩ := ck h
                            obtain ⟨r179, s178, _, h⟩ := nb2 h
                            obtain ⟨a180, _, h⟩ := nn h
                            obtain ⟨_, h⟩ := ck h
                            obtain ⟨r185, s184, _, h⟩ := nb2 h
                            have hmo := mo_lp_L_law f _ _ _ _ _ _ h
                            exact ⟨by omega, by omega⟩
                          · have h := iff' c173 h
                            have hmo := mo_lp_L_law f _ _ _ _ _ _ h
                            exact ⟨by omega, by omega⟩
    refine r_iload_n E (i := 3) (j := 3) dL_law_18 rfl rfl ?_
    refine r_aload_n E (x := some bS) (i := 0) (j := 0) dL_law_19 rfl rfl ?_
    refine r_slen E hX hbl dL_law_20 ?_
    refine r_iconst E dL_law_21 (v := 5) (by decide) ?_
    refine r_isub E dL_law_22 ?_
    refine r_icmp_gt E (tgt := 383) dL_law_23 (by decide) (fun c11 => ?_) (fun c11 => ?_)
    · have h := ift c11 h
      obtain ⟨rfl, rfl, rfl, rfl⟩ := lf4 h
      refine r_iconst E dL_law_383 (v := 1) (by decide) ?_
      exact r_lawret E hkF hnF dL_law_384
    · have h := iff' c11 h
      obtain ⟨g12, h⟩ := ck h
      have hmo : kc ≤ kF ∧ nc ≤ nF := by
        by_cases c13 : ((xs (Int32.toNatClampNeg v3)) &&& (15 : Int32)) = 0
        · have h := ift c13 h
          obtain ⟨_, h⟩ := ck h
          obtain ⟨_, h⟩ := ck h
          obtain ⟨a16, _, h⟩ := nn h
          obtain ⟨_, h⟩ := ck h
          obtain ⟨r21, s20, k22, n23, _, h⟩ := nb4 h
          obtain ⟨_, h⟩ := ck h
          obtain ⟨_, h⟩ := ck h
          obtain ⟨a26, _, h⟩ := nn h
          obtain ⟨_, h⟩ := ck h
          obtain ⟨r31, s30, _, h⟩ := nb2 h
          by_cases c32 : r21 = r31
          · have h := ift c32 h
            have hmo := mo_lp_L_law f _ _ _ _ _ _ h
            exact ⟨by omega, by omega⟩
          · have h := iff' c32 h
            cases h
        · have h := iff' c13 h
          by_cases c33 : ((xs (Int32.toNatClampNeg v3)) &&& (15 : Int32)) = 1
          · have h := ift c33 h
            obtain ⟨_, h⟩ := ck h
            obtain ⟨_, h⟩ := ck h
            obtain ⟨_, h⟩ := ck h
            obtain ⟨_, h⟩ := ck h
            obtain ⟨a38, _, h⟩ := nn h
            obtain ⟨_, h⟩ := ck h
            obtain ⟨r43, s42, k44, n45, _, h⟩ := nb4 h
            obtain ⟨_, h⟩ := ck h
            obtain ⟨_, h⟩ := ck h
            obtain ⟨_, h⟩ := ck h
            obtain ⟨_, h⟩ := ck h
            obtain ⟨a50, _, h⟩ := nn h
            obtain ⟨_, h⟩ := ck h
            obtain ⟨r55, s54, _, h⟩ := nb2 h
            by_cases c56 : r43 = r55
            · have h := ift c56 h
              have hmo := mo_lp_L_law f _ _ _ _ _ _ h
              exact ⟨by omega, by omega⟩
            · have h := iff' c56 h
              cases h
          · have h := iff' c33 h
            by_cases c57 : ((xs (Int32.toNatClampNeg v3)) &&& (15 : Int32)) = 2
            · have h := ift c57 h
              obtain ⟨_, h⟩ := ck h
              obtain ⟨_, h⟩ := ck h
              obtain ⟨_, h⟩ := ck h
              obtain ⟨a61, _, h⟩ := nn h
              obtain ⟨_, h⟩ := ck h
              obtain ⟨r66, s65, _, h⟩ := nb2 h
              obtain ⟨_, h⟩ := ck h
              obtain ⟨_, h⟩ := ck h
              obtain ⟨_, h⟩ := ck h
              obtain ⟨a70, _, h⟩ := nn h
              obtain ⟨_, h⟩ := ck h
              obtain ⟨r75, s74, _, h⟩ := nb2 h
              by_cases c76 : r66 = r75
              · have h := ift c76 h
                have hmo := mo_lp_L_law f _ _ _ _ _ _ h
                exact ⟨by omega, by omega⟩
              · have h := iff' c76 h
                cases h
            · have h := iff' c57 h
              by_cases c77 : ((xs (Int32.toNatClampNeg v3)) &&& (15 : Int32)) = 3
              · have h := ift c77 h
                obtain ⟨_, h⟩ := ck h
                obtain ⟨_, h⟩ := ck h
                obtain ⟨a80, _, h⟩ := nn h
                obtain ⟨_, h⟩ := ck h
                obtain ⟨r85, s84, k86, n87, _, h⟩ := nb4 h
                obtain ⟨_, h⟩ := ck h
                obtain ⟨_, h⟩ := ck h
                obtain ⟨a90, _, h⟩ := nn h
                obtain ⟨_, h⟩ := ck h
                obtain ⟨r95, s94, _, h⟩ := nb2 h
                by_cases c96 : r85 = r95
                · have h := ift c96 h
                  have hmo := mo_lp_L_law f _ _ _ _ _ _ h
                  exact ⟨by omega, by omega⟩
                · have h := iff' c96 h
                  cases h
              · have h := iff' c77 h
                by_cases c97 : ((xs (Int32.toNatClampNeg v3)) &&& (15 : Int32)) = 4
                · have h := ift c97 h
                  obtain ⟨_, h⟩ := ck h
                  obtain ⟨a99, _, h⟩ := nn h
                  obtain ⟨_, h⟩ := ck h
                  obtain ⟨r104, s103, _, h⟩ := nb2 h
                  obtain ⟨_, h⟩ := ck h
                  obtain ⟨a106, _, h⟩ := nn h
                  obtain ⟨_, h⟩ := ck h
                  obtain ⟨r111, s110, _, h⟩ := nb2 h
                  by_cases c112 : (lg_cmp r104 r111) = (0 : Int32)
                  · have h := ift c112 h
                    have hmo := mo_lp_L_law f _ _ _ _ _ _ h
                    exact ⟨by omega, by omega⟩
                  · have h := iff' c112 h
                    cases h
                · have h := iff' c97 h
                  by_cases c113 : ((xs (Int32.toNatClampNeg v3)) &&& (15 : Int32)) = 5
                  · have h := ift c113 h
                    obtain ⟨_, h⟩ := ck h
                    obtain ⟨_, h⟩ := ck h
                    obtain ⟨a116, _, h⟩ := nn h
                    obtain ⟨_, h⟩ := ck h
                    obtain ⟨r121, s120, _, h⟩ := nb2 h
                    obtain ⟨_, h⟩ := ck h
                    obtain ⟨_, h⟩ := ck h
                    obtain ⟨a124, _, h⟩ := nn h
                    obtain ⟨_, h⟩ := ck h
                    obtain ⟨r129, s128, _, h⟩ := nb2 h
                    by_cases c130 : r121 = r129
                    · have h := ift c130 h
                      have hmo := mo_lp_L_law f _ _ _ _ _ _ h
                      exact ⟨by omega, by omega⟩
                    · have h := iff' c130 h
                      cases h
                  · have h := iff' c113 h
                    by_cases c131 : ((xs (Int32.toNatClampNeg v3)) &&& (15 : Int32)) = 6
                    · have h := ift c131 h
                      obtain ⟨a132, _, h⟩ := nn h
                      obtain ⟨_, h⟩ := ck h
                      obtain ⟨r137, s136, _, h⟩ := nb2 h
                      obtain ⟨a138, _, h⟩ := nn h
                      obtain ⟨_, h⟩ := ck h
                      obtain ⟨r143, s142, _, h⟩ := nb2 h
                      by_cases c144 : r137 = r143
                      · have h := ift c144 h
                        have hmo := mo_lp_L_law f _ _ _ _ _ _ h
                        exact ⟨by omega, by omega⟩
                      · have h := iff' c144 h
                        cases h
                    · have h := iff' c131 h
                      by_cases c145 : ((xs (Int32.toNatClampNeg v3)) &&& (15 : Int32)) = 7
                      · have h := ift c145 h
                        obtain ⟨a146, _, h⟩ := nn h
                        obtain ⟨_, h⟩ := ck h
                        obtain ⟨r151, s150, _, h⟩ := nb2 h
                        obtain ⟨a152, _, h⟩ := nn h
                        obtain ⟨_, h⟩ := ck h
                        obtain ⟨r157, s156, _, h⟩ := nb2 h
                        by_cases c158 : r151 = r157
                        · have h := ift c158 h
                          have hmo := mo_lp_L_law f _ _ _ _ _ _ h
                          exact ⟨by omega, by omega⟩
                        · have h := iff' c158 h
                          cases h
                      · have h := iff' c145 h
                        by_cases c159 : ((xs (Int32.toNatClampNeg v3)) &&& (15 : Int32)) = 8
                        · have h := ift c159 h
                          obtain ⟨a160, _, h⟩ := nn h
                          obtain ⟨_, h⟩ := ck h
                          obtain ⟨r165, s164, _, h⟩ := nb2 h
                          obtain ⟨a166, _, h⟩ := nn h
                          obtain ⟨_, h⟩ := ck h
                          obtain ⟨r171, s170, _, h⟩ := nb2 h
                          by_cases c172 : r165 = r171
                          · have h := ift c172 h
                            have hmo := mo_lp_L_law f _ _ _ _ _ _ h
                            exact ⟨by omega, by omega⟩
                          · have h := iff' c172 h
                            cases h
                        · have h := iff' c159 h
                          by_cases c173 : ((xs (Int32.toNatClampNeg v3)) &&& (15 : Int32)) = 9
                          · have h := ift c173 h
                            obtain ⟨a174, _, h⟩ := nn h
                            obtain ⟨_, h⟩ := ck h
                            obtain ⟨r179, s178, _, h⟩ := nb2 h
                            obtain ⟨a180, _, h⟩ := nn h
                            obtain ⟨_, h⟩ := ck h
                            obtain ⟨r185, s184, _, h⟩ := nb2 h
                            have hmo := mo_lp_L_law f _ _ _ _ _ _ h
                            exact ⟨by omega, by omega⟩
                          · have h := iff' c173 h
                            have hmo := mo_lp_L_law f _ _ _ _ _ _ h
                            exact ⟨by omega, by omega⟩
      refine r_aload_n E (x := some bS) (i := 0) (j := 0) dL_law_26 rfl rfl ?_
      refine r_iload_n E (i := 3) (j := 3) dL_law_27 rfl rfl ?_
      refine r_sld E hX hbl g12 dL_law_28 ?_
      refine r_bipush E dL_law_29 (v := 15) (by decide) ?_
      refine r_iand E dL_law_31 ?_
      by_cases c13 : ((xs (Int32.toNatClampNeg v3)) &&& (15 : Int32)) = 0
      · have h := ift c13 h
        obtain ⟨g14, h⟩ := ck h
        obtain ⟨g15, h⟩ := ck h
        obtain ⟨a16, e17, h⟩ := nn h
        obtain ⟨g18, h⟩ := ck h
        obtain ⟨r21, s20, k22, n23, hc19, h⟩ := nb4 h
        obtain ⟨g24, h⟩ := ck h
        obtain ⟨g25, h⟩ := ck h
        obtain ⟨a26, e27, h⟩ := nn h
        obtain ⟨g28, h⟩ := ck h
        obtain ⟨r31, s30, hc29, h⟩ := nb2 h
        have hmo : kc + k22 ≤ kF ∧ nc + n23 ≤ nF := by
          by_cases c32 : r21 = r31
          · have h := ift c32 h
            have hmo := mo_lp_L_law f _ _ _ _ _ _ h
            exact ⟨by omega, by omega⟩
          · have h := iff' c32 h
            cases h
        refine r_tab E (off := 56) (tgt := 88) dL_law_32 (by rw [c13]; decide) (fun w1 w2 => by show _ < 10; omega) (by decide) ?_
        refine r_aload_n E (x := v1) (i := 1) (j := 1) dL_law_88 rfl rfl ?_
        refine r_aload_n E (x := some bS) (i := 0) (j := 0) dL_law_89 rfl rfl ?_
        refine r_iload_n E (i := 3) (j := 3) dL_law_90 rfl rfl ?_
        refine r_iconst E dL_law_91 (v := 1) (by decide) ?_
        refine r_iadd E dL_law_92 ?_
        refine r_sld E hX hbl g14 dL_law_93 ?_
        refine r_i2l E dL_law_94 ?_
        refine r_bipush E dL_law_95 (v := 32) (by decide) ?_
        refine r_lshl E dL_law_97 ?_
        refine r_aload_n E (x := some bS) (i := 0) (j := 0) dL_law_98 rfl rfl ?_
        refine r_iload_n E (i := 3) (j := 3) dL_law_99 rfl rfl ?_
        refine r_iconst E dL_law_100 (v := 2) (by decide) ?_
        refine r_iadd E dL_law_101 ?_
        refine r_sld E hX hbl g15 dL_law_102 ?_
        refine r_i2l E dL_law_103 ?_
        refine r_ldc2 E dL_law_104 (v := 4294967295) wm_4_119 ?_
        refine r_land E dL_law_107 ?_
        refine r_lor E dL_law_108 ?_
        refine cl_L_15 E (m_X6_lit hc19) dL_law_109 ⟨Nat.le_of_ble_eq_true rfl, Nat.le_of_ble_eq_true rfl⟩ ⟨by show _ ≤ 600000; omega, by show _ ≤ 7302250; omega⟩ (by decide) e17 g18 ?_
        refine r_aload_n E (x := v2) (i := 2) (j := 2) dL_law_112 rfl rfl ?_
        refine r_aload_n E (x := some bS) (i := 0) (j := 0) dL_law_113 rfl rfl ?_
        refine r_iload_n E (i := 3) (j := 3) dL_law_114 rfl rfl ?_
        refine r_iconst E dL_law_115 (v := 1) (by decide) ?_
        refine r_iadd E dL_law_116 ?_
        refine r_sld E hX hbl g24 dL_law_117 ?_
        refine r_i2l E dL_law_118 ?_
        refine r_bipush E dL_law_119 (v := 32) (by decide) ?_
        refine r_lshl E dL_law_121 ?_
        refine r_aload_n E (x := some bS) (i := 0) (j := 0) dL_law_122 rfl rfl ?_
        refine r_iload_n E (i := 3) (j := 3) dL_law_123 rfl rfl ?_
        refine r_iconst E dL_law_124 (v := 2) (by decide) ?_
        refine r_iadd E dL_law_125 ?_
        refine r_sld E hX hbl g25 dL_law_126 ?_
        refine r_i2l E dL_law_127 ?_
        refine r_ldc2 E dL_law_128 (v := 4294967295) wm_4_119 ?_
        refine r_land E dL_law_131 ?_
        refine r_lor E dL_law_132 ?_
        refine cl_L_19 E (m_X7_lit hc29) dL_law_133 ⟨Nat.le_of_ble_eq_true rfl, Nat.le_of_ble_eq_true rfl⟩ ⟨by show _ ≤ 600000; omega, by show _ ≤ 7302250; omega⟩ (Nat.le_of_ble_eq_true rfl) e27 g28 ?_
        refine r_icmp_eq E (tgt := 377) dL_law_136 (by decide) (fun c32 => ?_) (fun c32 => ?_)
        · have h := ift c32 h
          have hmo := mo_lp_L_law f _ _ _ _ _ _ h
          refine r_iinc E (j := 3) (v := v3 + 5) (lv' := [(3, .int (v3 + 5)), (0, va_rf (some bS)), (1, va_rf (v1)), (2, va_rf (v2))]) dL_law_377 rfl rfl (by decide) (by first | rfl | (simp only [List.filter_cons, List.filter_nil, va_rf_cat]; rfl)) ?_
          refine r_goto E (tgt := 18) dL_law_380 (by decide) ?_
          refine r_sub [1, 2, 3, 0] (lv' := [(0, va_rf (some bS)), (1, va_rf (v1)), (2, va_rf (v2)), (3, .int (v3 + 5))]) rfl ?_
          exact ih _ _ _ _ _ _ h
        · have h := iff' c32 h
          cases h
      · have h := iff' c13 h
        by_cases c33 : ((xs (Int32.toNatClampNeg v3)) &&& (15 : Int32)) = 1
        · have h := ift c33 h
          obtain ⟨g34, h⟩ := ck h
          obtain ⟨g35, h⟩ := ck h
          obtain ⟨g36, h⟩ := ck h
          obtain ⟨g37, h⟩ := ck h
          obtain ⟨a38, e39, h⟩ := nn h
          obtain ⟨g40, h⟩ := ck h
          obtain ⟨r43, s42, k44, n45, hc41, h⟩ := nb4 h
          obtain ⟨g46, h⟩ := ck h
          obtain ⟨g47, h⟩ := ck h
          obtain ⟨g48, h⟩ := ck h
          obtain ⟨g49, h⟩ := ck h
          obtain ⟨a50, e51, h⟩ := nn h
          obtain ⟨g52, h⟩ := ck h
          obtain ⟨r55, s54, hc53, h⟩ := nb2 h
          have hmo : kc + k44 ≤ kF ∧ nc + n45 ≤ nF := by
            by_cases c56 : r43 = r55
            · have h := ift c56 h
              have hmo := mo_lp_L_law f _ _ _ _ _ _ h
              exact ⟨by omega, by omega⟩
            · have h := iff' c56 h
              cases h
          refine r_tab E (off := 109) (tgt := 141) dL_law_32 (by rw [c33]; decide) (fun w1 w2 => by show _ < 10; omega) (by decide) ?_
          refine r_aload_n E (x := v1) (i := 1) (j := 1) dL_law_141 rfl rfl ?_
          refine r_aload_n E (x := some bS) (i := 0) (j := 0) dL_law_142 rfl rfl ?_
          refine r_iload_n E (i := 3) (j := 3) dL_law_143 rfl rfl ?_
          refine r_iconst E dL_law_144 (v := 1) (by decide) ?_
          refine r_iadd E dL_law_145 ?_
          refine r_sld E hX hbl g34 dL_law_146 ?_
          refine r_aload_n E (x := some bS) (i := 0) (j := 0) dL_law_147 rfl rfl ?_
          refine r_iload_n E (i := 3) (j := 3) dL_law_148 rfl rfl ?_
          refine r_iconst E dL_law_149 (v := 2) (by decide) ?_
          refine r_iadd E dL_law_150 ?_
          refine r_sld E hX hbl g35 dL_law_151 ?_
          refine r_aload_n E (x := some bS) (i := 0) (j := 0) dL_law_152 rfl rfl ?_
          refine r_iload_n E (i := 3) (j := 3) dL_law_153 rfl rfl ?_
          refine r_iconst E dL_law_154 (v := 3) (by decide) ?_
          refine r_iadd E dL_law_155 ?_
          refine r_sld E hX hbl g36 dL_law_156 ?_
          refine r_aload_n E (x := some bS) (i := 0) (j := 0) dL_law_157 rfl rfl ?_
          refine r_iload_n E (i := 3) (j := 3) dL_law_158 rfl rfl ?_
          refine r_iconst E dL_law_159 (v := 4) (by decide) ?_
          refine r_iadd E dL_law_160 ?_
          refine r_sld E hX hbl g37 dL_law_161 ?_
          refine cl_L_20 E (m_X6_node hc41) dL_law_162 ⟨Nat.le_of_ble_eq_true rfl, Nat.le_of_ble_eq_true rfl⟩ ⟨by show _ ≤ 600000; omega, by show _ ≤ 7302250; omega⟩ (by decide) e39 g40 ?_
          refine r_aload_n E (x := v2) (i := 2) (j := 2) dL_law_165 rfl rfl ?_
          refine r_aload_n E (x := some bS) (i := 0) (j := 0) dL_law_166 rfl rfl ?_
          refine r_iload_n E (i := 3) (j := 3) dL_law_167 rfl rfl ?_
          refine r_iconst E dL_law_168 (v := 1) (by decide) ?_
          refine r_iadd E dL_law_169 ?_
          refine r_sld E hX hbl g46 dL_law_170 ?_
          refine r_aload_n E (x := some bS) (i := 0) (j := 0) dL_law_171 rfl rfl ?_
          refine r_iload_n E (i := 3) (j := 3) dL_law_172 rfl rfl ?_
          refine r_iconst E dL_law_173 (v := 2) (by decide) ?_
          refine r_iadd E dL_law_174 ?_
          refine r_sld E hX hbl g47 dL_law_175 ?_
          refine r_aload_n E (x := some bS) (i := 0) (j := 0) dL_law_176 rfl rfl ?_
          refine r_iload_n E (i := 3) (j := 3) dL_law_177 rfl rfl ?_
          refine r_iconst E dL_law_178 (v := 3) (by decide) ?_
          refine r_iadd E dL_law_179 ?_
          refine r_sld E hX hbl g48 dL_law_180 ?_
          refine r_aload_n E (x := some bS) (i := 0) (j := 0) dL_law_181 rfl rfl ?_
          refine r_iload_n E (i := 3) (j := 3) dL_law_182 rfl rfl ?_
          refine r_iconst E dL_law_183 (v := 4) (by decide) ?_
          refine r_iadd E dL_law_184 ?_
          refine r_sld E hX hbl g49 dL_law_185 ?_
          refine cl_L_24 E (m_X7_node hc53) dL_law_186 ⟨Nat.le_of_ble_eq_true rfl, Nat.le_of_ble_eq_true rfl⟩ ⟨by show _ ≤ 600000; omega, by show _ ≤ 7302250; omega⟩ (Nat.le_of_ble_eq_true rfl) e51 g52 ?_
          refine r_icmp_eq E (tgt := 377) dL_law_189 (by decide) (fun c56 => ?_) (fun c56 => ?_)
          · have h := ift c56 h
            have hmo := mo_lp_L_law f _ _ _ _ _ _ h
            refine r_iinc E (j := 3) (v := v3 + 5) (lv' := [(3, .int (v3 + 5)), (0, va_rf (some bS)), (1, va_rf (v1)), (2, va_rf (v2))]) dL_law_377 rfl rfl (by decide) (by first | rfl | (simp only [List.filter_cons, List.filter_nil, va_rf_cat]; rfl)) ?_
            refine r_goto E (tgt := 18) dL_law_380 (by decide) ?_
            refine r_sub [1, 2, 3, 0] (lv' := [(0, va_rf (some bS)), (1, va_rf (v1)), (2, va_rf (v2)), (3, .int (v3 + 5))]) rfl ?_
            exact ih _ _ _ _ _ _ h
          · have h := iff' c56 h
            cases h
        · have h := iff' c33 h
          by_cases c57 : ((xs (Int32.toNatClampNeg v3)) &&& (15 : Int32)) = 2
          · have h := ift c57 h
            obtain ⟨g58, h⟩ := ck h
            obtain ⟨g59, h⟩ := ck h
            obtain ⟨g60, h⟩ := ck h
            obtain ⟨a61, e62, h⟩ := nn h
            obtain ⟨g63, h⟩ := ck h
            obtain ⟨r66, s65, hc64, h⟩ := nb2 h
            obtain ⟨g67, h⟩ := ck h
            obtain ⟨g68, h⟩ := ck h
            obtain ⟨g69, h⟩ := ck h
            obtain ⟨a70, e71, h⟩ := nn h
            obtain ⟨g72, h⟩ := ck h
            obtain ⟨r75, s74, hc73, h⟩ := nb2 h
            have hmo : kc ≤ kF ∧ nc ≤ nF := by
              by_cases c76 : r66 = r75
              · have h := ift c76 h
                have hmo := mo_lp_L_law f _ _ _ _ _ _ h
                exact ⟨by omega, by omega⟩
              · have h := iff' c76 h
                cases h
            refine r_tab E (off := 162) (tgt := 194) dL_law_32 (by rw [c57]; decide) (fun w1 w2 => by show _ < 10; omega) (by decide) ?_
            refine r_aload_n E (x := v1) (i := 1) (j := 1) dL_law_194 rfl rfl ?_
            refine r_aload_n E (x := some bS) (i := 0) (j := 0) dL_law_195 rfl rfl ?_
            refine r_iload_n E (i := 3) (j := 3) dL_law_196 rfl rfl ?_
            refine r_iconst E dL_law_197 (v := 1) (by decide) ?_
            refine r_iadd E dL_law_198 ?_
            refine r_sld E hX hbl g58 dL_law_199 ?_
            refine r_aload_n E (x := some bS) (i := 0) (j := 0) dL_law_200 rfl rfl ?_
            refine r_iload_n E (i := 3) (j := 3) dL_law_201 rfl rfl ?_
            refine r_iconst E dL_law_202 (v := 2) (by decide) ?_
            refine r_iadd E dL_law_203 ?_
            refine r_sld E hX hbl g59 dL_law_204 ?_
            refine r_aload_n E (x := some bS) (i := 0) (j := 0) dL_law_205 rfl rfl ?_
            refine r_iload_n E (i := 3) (j := 3) dL_law_206 rfl rfl ?_
            refine r_iconst E dL_law_207 (v := 3) (by decide) ?_
            refine r_iadd E dL_law_208 ?_
            refine r_sld E hX hbl g60 dL_law_209 ?_
            refine cl_L_25 E (m_X6_part hc64) dL_law_210 ⟨Nat.le_of_ble_eq_true rfl, Nat.le_of_ble_eq_true rfl⟩ ⟨by show _ ≤ 600000; omega, by show _ ≤ 7302250; omega⟩ (by decide) e62 g63 ?_
            refine r_aload_n E (x := v2) (i := 2) (j := 2) dL_law_213 rfl rfl ?_
            refine r_aload_n E (x := some bS) (i := 0) (j := 0) dL_law_214 rfl rfl ?_
            refine r_iload_n E (i := 3) (j := 3) dL_law_215 rfl rfl ?_
            refine r_iconst E dL_law_216 (v := 1) (by decide) ?_
            refine r_iadd E dL_law_217 ?_
            refine r_sld E hX hbl g67 dL_law_218 ?_
            refine r_aload_n E (x := some bS) (i := 0) (j := 0) dL_law_219 rfl rfl ?_
            refine r_iload_n E (i := 3) (j := 3) dL_law_220 rfl rfl ?_
            refine r_iconst E dL_law_221 (v := 2) (by decide) ?_
            refine r_iadd E dL_law_222 ?_
            refine r_sld E hX hbl g68 dL_law_223 ?_
            refine r_aload_n E (x := some bS) (i := 0) (j := 0) dL_law_224 rfl rfl ?_
            refine r_iload_n E (i := 3) (j := 3) dL_law_225 rfl rfl ?_
            refine r_iconst E dL_law_226 (v := 3) (by decide) ?_
            refine r_iadd E dL_law_227 ?_
            refine r_sld E hX hbl g69 dL_law_228 ?_
            refine cl_L_29 E (m_X7_part hc73) dL_law_229 ⟨Nat.le_of_ble_eq_true rfl, Nat.le_of_ble_eq_true rfl⟩ ⟨by show _ ≤ 600000; omega, by show _ ≤ 7302250; omega⟩ (Nat.le_of_ble_eq_true rfl) e71 g72 ?_
            refine r_icmp_eq E (tgt := 377) dL_law_232 (by decide) (fun c76 => ?_) (fun c76 => ?_)
            · have h := ift c76 h
              have hmo := mo_lp_L_law f _ _ _ _ _ _ h
              refine r_iinc E (j := 3) (v := v3 + 5) (lv' := [(3, .int (v3 + 5)), (0, va_rf (some bS)), (1, va_rf (v1)), (2, va_rf (v2))]) dL_law_377 rfl rfl (by decide) (by first | rfl | (simp only [List.filter_cons, List.filter_nil, va_rf_cat]; rfl)) ?_
              refine r_goto E (tgt := 18) dL_law_380 (by decide) ?_
              refine r_sub [1, 2, 3, 0] (lv' := [(0, va_rf (some bS)), (1, va_rf (v1)), (2, va_rf (v2)), (3, .int (v3 + 5))]) rfl ?_
              exact ih _ _ _ _ _ _ h
            · have h := iff' c76 h
              cases h
          · have h := iff' c57 h
            by_cases c77 : ((xs (Int32.toNatClampNeg v3)) &&& (15 : Int32)) = 3
            · have h := ift c77 h
              obtain ⟨g78, h⟩ := ck h
              obtain ⟨g79, h⟩ := ck h
              obtain ⟨a80, e81, h⟩ := nn h
              obtain ⟨g82, h⟩ := ck h
              obtain ⟨r85, s84, k86, n87, hc83, h⟩ := nb4 h
              obtain ⟨g88, h⟩ := ck h
              obtain ⟨g89, h⟩ := ck h
              obtain ⟨a90, e91, h⟩ := nn h
              obtain ⟨g92, h⟩ := ck h
              obtain ⟨r95, s94, hc93, h⟩ := nb2 h
              have hmo : kc + k86 ≤ kF ∧ nc + n87 ≤ nF := by
                by_cases c96 : r85 = r95
                · have h := ift c96 h
                  have hmo := mo_lp_L_law f _ _ _ _ _ _ h
                  exact ⟨by omega, by omega⟩
                · have h := iff' c96 h
                  cases h
              refine r_tab E (off := 205) (tgt := 237) dL_law_32 (by rw [c77]; decide) (fun w1 w2 => by show _ < 10; omega) (by decide) ?_
              refine r_aload_n E (x := v1) (i := 1) (j := 1) dL_law_237 rfl rfl ?_
              refine r_aload_n E (x := some bS) (i := 0) (j := 0) dL_law_238 rfl rfl ?_
              refine r_iload_n E (i := 3) (j := 3) dL_law_239 rfl rfl ?_
              refine r_iconst E dL_law_240 (v := 1) (by decide) ?_
              refine r_iadd E dL_law_241 ?_
              refine r_sld E hX hbl g78 dL_law_242 ?_
              refine r_aload_n E (x := some bS) (i := 0) (j := 0) dL_law_243 rfl rfl ?_
              refine r_iload_n E (i := 3) (j := 3) dL_law_244 rfl rfl ?_
              refine r_iconst E dL_law_245 (v := 2) (by decide) ?_
              refine r_iadd E dL_law_246 ?_
              refine r_sld E hX hbl g79 dL_law_247 ?_
              refine cl_L_30 E (m_X6_run hc83) dL_law_248 ⟨Nat.le_of_ble_eq_true rfl, Nat.le_of_ble_eq_true rfl⟩ ⟨by show _ ≤ 600000; omega, by show _ ≤ 7302250; omega⟩ (by decide) e81 g82 ?_
              refine r_aload_n E (x := v2) (i := 2) (j := 2) dL_law_251 rfl rfl ?_
              refine r_aload_n E (x := some bS) (i := 0) (j := 0) dL_law_252 rfl rfl ?_
              refine r_iload_n E (i := 3) (j := 3) dL_law_253 rfl rfl ?_
              refine r_iconst E dL_law_254 (v := 1) (by decide) ?_
              refine r_iadd E dL_law_255 ?_
              refine r_sld E hX hbl g88 dL_law_256 ?_
              refine r_aload_n E (x := some bS) (i := 0) (j := 0) dL_law_257 rfl rfl ?_
              refine r_iload_n E (i := 3) (j := 3) dL_law_258 rfl rfl ?_
              refine r_iconst E dL_law_259 (v := 2) (by decide) ?_
              refine r_iadd E dL_law_260 ?_
              refine r_sld E hX hbl g89 dL_law_261 ?_
              refine cl_L_34 E (m_X7_run hc93) dL_law_262 ⟨Nat.le_of_ble_eq_true rfl, Nat.le_of_ble_eq_true rfl⟩ ⟨by show _ ≤ 600000; omega, by show _ ≤ 7302250; omega⟩ (Nat.le_of_ble_eq_true rfl) e91 g92 ?_
              refine r_icmp_eq E (tgt := 377) dL_law_265 (by decide) (fun c96 => ?_) (fun c96 => ?_)
              · have h := ift c96 h
                have hmo := mo_lp_L_law f _ _ _ _ _ _ h
                refine r_iinc E (j := 3) (v := v3 + 5) (lv' := [(3, .int (v3 + 5)), (0, va_rf (some bS)), (1, va_rf (v1)), (2, va_rf (v2))]) dL_law_377 rfl rfl (by decide) (by first | rfl | (simp only [List.filter_cons, List.filter_nil, va_rf_cat]; rfl)) ?_
                refine r_goto E (tgt := 18) dL_law_380 (by decide) ?_
                refine r_sub [1, 2, 3, 0] (lv' := [(0, va_rf (some bS)), (1, va_rf (v1)), (2, va_rf (v2)), (3, .int (v3 + 5))]) rfl ?_
                exact ih _ _ _ _ _ _ h
              · have h := iff' c96 h
                cases h
            · have h := iff' c77 h
              by_cases c97 : ((xs (Int32.toNatClampNeg v3)) &&& (15 : Int32)) = 4
              · have h := ift c97 h
                obtain ⟨g98, h⟩ := ck h
                obtain ⟨a99, e100, h⟩ := nn h
                obtain ⟨g101, h⟩ := ck h
                obtain ⟨r104, s103, hc102, h⟩ := nb2 h
                obtain ⟨g105, h⟩ := ck h
                obtain ⟨a106, e107, h⟩ := nn h
                obtain ⟨g108, h⟩ := ck h
                obtain ⟨r111, s110, hc109, h⟩ := nb2 h
                have hmo : kc ≤ kF ∧ nc ≤ nF := by
                  by_cases c112 : (lg_cmp r104 r111) = (0 : Int32)
                  · have h := ift c112 h
                    have hmo := mo_lp_L_law f _ _ _ _ _ _ h
                    exact ⟨by omega, by omega⟩
                  · have h := iff' c112 h
                    cases h
                refine r_tab E (off := 238) (tgt := 270) dL_law_32 (by rw [c97]; decide) (fun w1 w2 => by show _ < 10; omega) (by decide) ?_
                refine r_aload_n E (x := v1) (i := 1) (j := 1) dL_law_270 rfl rfl ?_
                refine r_aload_n E (x := some bS) (i := 0) (j := 0) dL_law_271 rfl rfl ?_
                refine r_iload_n E (i := 3) (j := 3) dL_law_272 rfl rfl ?_
                refine r_iconst E dL_law_273 (v := 1) (by decide) ?_
                refine r_iadd E dL_law_274 ?_
                refine r_sld E hX hbl g98 dL_law_275 ?_
                refine cl_L_35 E (m_X6_value hc102) dL_law_276 ⟨Nat.le_of_ble_eq_true rfl, Nat.le_of_ble_eq_true rfl⟩ ⟨by show _ ≤ 600000; omega, by show _ ≤ 7302250; omega⟩ (by decide) e100 g101 ?_
                refine r_aload_n E (x := v2) (i := 2) (j := 2) dL_law_279 rfl rfl ?_
                refine r_aload_n E (x := some bS) (i := 0) (j := 0) dL_law_280 rfl rfl ?_
                refine r_iload_n E (i := 3) (j := 3) dL_law_281 rfl rfl ?_
                refine r_iconst E dL_law_282 (v := 1) (by decide) ?_
                refine r_iadd E dL_law_283 ?_
                refine r_sld E hX hbl g105 dL_law_284 ?_
                refine cl_L_39 E (m_X7_value hc109) dL_law_285 ⟨Nat.le_of_ble_eq_true rfl, Nat.le_of_ble_eq_true rfl⟩ ⟨by show _ ≤ 600000; omega, by show _ ≤ 7302250; omega⟩ (Nat.le_of_ble_eq_true rfl) e107 g108 ?_
                refine r_lcmp E dL_law_288 ?_
                refine r_if_eq E (tgt := 377) dL_law_289 (by decide) (fun c112 => ?_) (fun c112 => ?_)
                · have h := ift c112 h
                  have hmo := mo_lp_L_law f _ _ _ _ _ _ h
                  refine r_iinc E (j := 3) (v := v3 + 5) (lv' := [(3, .int (v3 + 5)), (0, va_rf (some bS)), (1, va_rf (v1)), (2, va_rf (v2))]) dL_law_377 rfl rfl (by decide) (by first | rfl | (simp only [List.filter_cons, List.filter_nil, va_rf_cat]; rfl)) ?_
                  refine r_goto E (tgt := 18) dL_law_380 (by decide) ?_
                  refine r_sub [1, 2, 3, 0] (lv' := [(0, va_rf (some bS)), (1, va_rf (v1)), (2, va_rf (v2)), (3, .int (v3 + 5))]) rfl ?_
                  exact ih _ _ _ _ _ _ h
                · have h := iff' c112 h
                  cases h
              · have h := iff' c97 h
                by_cases c113 : ((xs (Int32.toNatClampNeg v3)) &&& (15 : Int32)) = 5
                · have h := ift c113 h
                  obtain ⟨g114, h⟩ := ck h
                  obtain ⟨g115, h⟩ := ck h
                  obtain ⟨a116, e117, h⟩ := nn h
                  obtain ⟨g118, h⟩ := ck h
                  obtain ⟨r121, s120, hc119, h⟩ := nb2 h
                  obtain ⟨g122, h⟩ := ck h
                  obtain ⟨g123, h⟩ := ck h
                  obtain ⟨a124, e125, h⟩ := nn h
                  obtain ⟨g126, h⟩ := ck h
                  obtain ⟨r129, s128, hc127, h⟩ := nb2 h
                  have hmo : kc ≤ kF ∧ nc ≤ nF := by
                    by_cases c130 : r121 = r129
                    · have h := ift c130 h
                      have hmo := mo_lp_L_law f _ _ _ _ _ _ h
                      exact ⟨by omega, by omega⟩
                    · have h := iff' c130 h
                      cases h
                  refine r_tab E (off := 262) (tgt := 294) dL_law_32 (by rw [c113]; decide) (fun w1 w2 => by show _ < 10; omega) (by decide) ?_
                  refine r_aload_n E (x := v1) (i := 1) (j := 1) dL_law_294 rfl rfl ?_
                  refine r_aload_n E (x := some bS) (i := 0) (j := 0) dL_law_295 rfl rfl ?_
                  refine r_iload_n E (i := 3) (j := 3) dL_law_296 rfl rfl ?_
                  refine r_iconst E dL_law_297 (v := 1) (by decide) ?_
                  refine r_iadd E dL_law_298 ?_
                  refine r_sld E hX hbl g114 dL_law_299 ?_
                  refine r_aload_n E (x := some bS) (i := 0) (j := 0) dL_law_300 rfl rfl ?_
                  refine r_iload_n E (i := 3) (j := 3) dL_law_301 rfl rfl ?_
                  refine r_iconst E dL_law_302 (v := 2) (by decide) ?_
                  refine r_iadd E dL_law_303 ?_
                  refine r_sld E hX hbl g115 dL_law_304 ?_
                  refine cl_L_40 E (m_X6_thing hc119) dL_law_305 ⟨Nat.le_of_ble_eq_true rfl, Nat.le_of_ble_eq_true rfl⟩ ⟨by show _ ≤ 600000; omega, by show _ ≤ 7302250; omega⟩ (by decide) e117 g118 ?_
                  refine r_aload_n E (x := v2) (i := 2) (j := 2) dL_law_308 rfl rfl ?_
                  refine r_aload_n E (x := some bS) (i := 0) (j := 0) dL_law_309 rfl rfl ?_
                  refine r_iload_n E (i := 3) (j := 3) dL_law_310 rfl rfl ?_
                  refine r_iconst E dL_law_311 (v := 1) (by decide) ?_
                  refine r_iadd E dL_law_312 ?_
                  refine r_sld E hX hbl g122 dL_law_313 ?_
                  refine r_aload_n E (x := some bS) (i := 0) (j := 0) dL_law_314 rfl rfl ?_
                  refine r_iload_n E (i := 3) (j := 3) dL_law_315 rfl rfl ?_
                  refine r_iconst E dL_law_316 (v := 2) (by decide) ?_
                  refine r_iadd E dL_law_317 ?_
                  refine r_sld E hX hbl g123 dL_law_318 ?_
                  refine cl_L_43 E (m_X7_thing hc127) dL_law_319 ⟨Nat.le_of_ble_eq_true rfl, Nat.le_of_ble_eq_true rfl⟩ ⟨by show _ ≤ 600000; omega, by show _ ≤ 7302250; omega⟩ (Nat.le_of_ble_eq_true rfl) e125 g126 ?_
                  refine r_icmp_eq E (tgt := 377) dL_law_322 (by decide) (fun c130 => ?_) (fun c130 => ?_)
                  · have h := ift c130 h
                    have hmo := mo_lp_L_law f _ _ _ _ _ _ h
                    refine r_iinc E (j := 3) (v := v3 + 5) (lv' := [(3, .int (v3 + 5)), (0, va_rf (some bS)), (1, va_rf (v1)), (2, va_rf (v2))]) dL_law_377 rfl rfl (by decide) (by first | rfl | (simp only [List.filter_cons, List.filter_nil, va_rf_cat]; rfl)) ?_
                    refine r_goto E (tgt := 18) dL_law_380 (by decide) ?_
                    refine r_sub [1, 2, 3, 0] (lv' := [(0, va_rf (some bS)), (1, va_rf (v1)), (2, va_rf (v2)), (3, .int (v3 + 5))]) rfl ?_
                    exact ih _ _ _ _ _ _ h
                  · have h := iff' c130 h
                    cases h
                · have h := iff' c113 h
                  by_cases c131 : ((xs (Int32.toNatClampNeg v3)) &&& (15 : Int32)) = 6
                  · have h := ift c131 h
                    obtain ⟨a132, e133, h⟩ := nn h
                    obtain ⟨g134, h⟩ := ck h
                    obtain ⟨r137, s136, hc135, h⟩ := nb2 h
                    obtain ⟨a138, e139, h⟩ := nn h
                    obtain ⟨g140, h⟩ := ck h
                    obtain ⟨r143, s142, hc141, h⟩ := nb2 h
                    have hmo : kc ≤ kF ∧ nc ≤ nF := by
                      by_cases c144 : r137 = r143
                      · have h := ift c144 h
                        have hmo := mo_lp_L_law f _ _ _ _ _ _ h
                        exact ⟨by omega, by omega⟩
                      · have h := iff' c144 h
                        cases h
                    refine r_tab E (off := 295) (tgt := 327) dL_law_32 (by rw [c131]; decide) (fun w1 w2 => by show _ < 10; omega) (by decide) ?_
                    refine r_aload_n E (x := v1) (i := 1) (j := 1) dL_law_327 rfl rfl ?_
                    refine cl_L_44 E (m_X6_fault hc135) dL_law_328 ⟨Nat.le_of_ble_eq_true rfl, Nat.le_of_ble_eq_true rfl⟩ ⟨by show _ ≤ 600000; omega, by show _ ≤ 7302250; omega⟩ (by decide) e133 g134 ?_
                    refine r_aload_n E (x := v2) (i := 2) (j := 2) dL_law_331 rfl rfl ?_
                    refine cl_L_48 E (m_X7_fault hc141) dL_law_332 ⟨Nat.le_of_ble_eq_true rfl, Nat.le_of_ble_eq_true rfl⟩ ⟨by show _ ≤ 600000; omega, by show _ ≤ 7302250; omega⟩ (Nat.le_of_ble_eq_true rfl) e139 g140 ?_
                    refine r_icmp_eq E (tgt := 377) dL_law_335 (by decide) (fun c144 => ?_) (fun c144 => ?_)
                    · have h := ift c144 h
                      have hmo := mo_lp_L_law f _ _ _ _ _ _ h
                      refine r_iinc E (j := 3) (v := v3 + 5) (lv' := [(3, .int (v3 + 5)), (0, va_rf (some bS)), (1, va_rf (v1)), (2, va_rf (v2))]) dL_law_377 rfl rfl (by decide) (by first | rfl | (simp only [List.filter_cons, List.filter_nil, va_rf_cat]; rfl)) ?_
                      refine r_goto E (tgt := 18) dL_law_380 (by decide) ?_
                      refine r_sub [1, 2, 3, 0] (lv' := [(0, va_rf (some bS)), (1, va_rf (v1)), (2, va_rf (v2)), (3, .int (v3 + 5))]) rfl ?_
                      exact ih _ _ _ _ _ _ h
                    · have h := iff' c144 h
                      cases h
                  · have h := iff' c131 h
                    by_cases c145 : ((xs (Int32.toNatClampNeg v3)) &&& (15 : Int32)) = 7
                    · have h := ift c145 h
                      obtain ⟨a146, e147, h⟩ := nn h
                      obtain ⟨g148, h⟩ := ck h
                      obtain ⟨r151, s150, hc149, h⟩ := nb2 h
                      obtain ⟨a152, e153, h⟩ := nn h
                      obtain ⟨g154, h⟩ := ck h
                      obtain ⟨r157, s156, hc155, h⟩ := nb2 h
                      have hmo : kc ≤ kF ∧ nc ≤ nF := by
                        by_cases c158 : r151 = r157
                        · have h := ift c158 h
                          have hmo := mo_lp_L_law f _ _ _ _ _ _ h
                          exact ⟨by omega, by omega⟩
                        · have h := iff' c158 h
                          cases h
                      refine r_tab E (off := 308) (tgt := 340) dL_law_32 (by rw [c145]; decide) (fun w1 w2 => by show _ < 10; omega) (by decide) ?_
                      refine r_aload_n E (x := v1) (i := 1) (j := 1) dL_law_340 rfl rfl ?_
                      refine cl_L_49 E (m_X6_faultNode hc149) dL_law_341 ⟨Nat.le_of_ble_eq_true rfl, Nat.le_of_ble_eq_true rfl⟩ ⟨by show _ ≤ 600000; omega, by show _ ≤ 7302250; omega⟩ (by decide) e147 g148 ?_
                      refine r_aload_n E (x := v2) (i := 2) (j := 2) dL_law_344 rfl rfl ?_
                      refine cl_L_52 E (m_X7_faultNode hc155) dL_law_345 ⟨Nat.le_of_ble_eq_true rfl, Nat.le_of_ble_eq_true rfl⟩ ⟨by show _ ≤ 600000; omega, by show _ ≤ 7302250; omega⟩ (Nat.le_of_ble_eq_true rfl) e153 g154 ?_
                      refine r_icmp_eq E (tgt := 377) dL_law_348 (by decide) (fun c158 => ?_) (fun c158 => ?_)
                      · have h := ift c158 h
                        have hmo := mo_lp_L_law f _ _ _ _ _ _ h
                        refine r_iinc E (j := 3) (v := v3 + 5) (lv' := [(3, .int (v3 + 5)), (0, va_rf (some bS)), (1, va_rf (v1)), (2, va_rf (v2))]) dL_law_377 rfl rfl (by decide) (by first | rfl | (simp only [List.filter_cons, List.filter_nil, va_rf_cat]; rfl)) ?_
                        refine r_goto E (tgt := 18) dL_law_380 (by decide) ?_
                        refine r_sub [1, 2, 3, 0] (lv' := [(0, va_rf (some bS)), (1, va_rf (v1)), (2, va_rf (v2)), (3, .int (v3 + 5))]) rfl ?_
                        exact ih _ _ _ _ _ _ h
                      · have h := iff' c158 h
                        cases h
                    · have h := iff' c145 h
                      by_cases c159 : ((xs (Int32.toNatClampNeg v3)) &&& (15 : Int32)) = 8
                      · have h := ift c159 h
                        obtain ⟨a160, e161, h⟩ := nn h
                        obtain ⟨g162, h⟩ := ck h
                        obtain ⟨r165, s164, hc163, h⟩ := nb2 h
                        obtain ⟨a166, e167, h⟩ := nn h
                        obtain ⟨g168, h⟩ := ck h
                        obtain ⟨r171, s170, hc169, h⟩ := nb2 h
                        have hmo : kc ≤ kF ∧ nc ≤ nF := by
                          by_cases c172 : r165 = r171
                          · have h := ift c172 h
                            have hmo := mo_lp_L_law f _ _ _ _ _ _ h
                            exact ⟨by omega, by omega⟩
                          · have h := iff' c172 h
                            cases h
                        refine r_tab E (off := 321) (tgt := 353) dL_law_32 (by rw [c159]; decide) (fun w1 w2 => by show _ < 10; omega) (by decide) ?_
                        refine r_aload_n E (x := v1) (i := 1) (j := 1) dL_law_353 rfl rfl ?_
                        refine cl_L_53 E (m_X6_steps hc163) dL_law_354 ⟨Nat.le_of_ble_eq_true rfl, Nat.le_of_ble_eq_true rfl⟩ ⟨by show _ ≤ 600000; omega, by show _ ≤ 7302250; omega⟩ (by decide) e161 g162 ?_
                        refine r_aload_n E (x := v2) (i := 2) (j := 2) dL_law_357 rfl rfl ?_
                        refine cl_L_56 E (m_X7_steps hc169) dL_law_358 ⟨Nat.le_of_ble_eq_true rfl, Nat.le_of_ble_eq_true rfl⟩ ⟨by show _ ≤ 600000; omega, by show _ ≤ 7302250; omega⟩ (Nat.le_of_ble_eq_true rfl) e167 g168 ?_
                        refine r_icmp_eq E (tgt := 377) dL_law_361 (by decide) (fun c172 => ?_) (fun c172 => ?_)
                        · have h := ift c172 h
                          have hmo := mo_lp_L_law f _ _ _ _ _ _ h
                          refine r_iinc E (j := 3) (v := v3 + 5) (lv' := [(3, .int (v3 + 5)), (0, va_rf (some bS)), (1, va_rf (v1)), (2, va_rf (v2))]) dL_law_377 rfl rfl (by decide) (by first | rfl | (simp only [List.filter_cons, List.filter_nil, va_rf_cat]; rfl)) ?_
                          refine r_goto E (tgt := 18) dL_law_380 (by decide) ?_
                          refine r_sub [1, 2, 3, 0] (lv' := [(0, va_rf (some bS)), (1, va_rf (v1)), (2, va_rf (v2)), (3, .int (v3 + 5))]) rfl ?_
                          exact ih _ _ _ _ _ _ h
                        · have h := iff' c172 h
                          cases h
                      · have h := iff' c159 h
                        by_cases c173 : ((xs (Int32.toNatClampNeg v3)) &&& (15 : Int32)) = 9
                        · have h := ift c173 h
                          obtain ⟨a174, e175, h⟩ := nn h
                          obtain ⟨g176, h⟩ := ck h
                          obtain ⟨r179, s178, hc177, h⟩ := nb2 h
                          obtain ⟨a180, e181, h⟩ := nn h
                          obtain ⟨g182, h⟩ := ck h
                          obtain ⟨r185, s184, hc183, h⟩ := nb2 h
                          have hmo := mo_lp_L_law f _ _ _ _ _ _ h
                          refine r_tab E (off := 334) (tgt := 366) dL_law_32 (by rw [c173]; decide) (fun w1 w2 => by show _ < 10; omega) (by decide) ?_
                          refine r_aload_n E (x := v1) (i := 1) (j := 1) dL_law_366 rfl rfl ?_
                          refine cl_L_57 E (m_X6_wipe hc177) dL_law_367 ⟨Nat.le_of_ble_eq_true rfl, Nat.le_of_ble_eq_true rfl⟩ ⟨by show _ ≤ 600000; omega, by show _ ≤ 7302250; omega⟩ (by decide) e175 g176 ?_
                          refine r_aload_n E (x := v2) (i := 2) (j := 2) dL_law_370 rfl rfl ?_
                          refine cl_L_60 E (m_X7_wipe hc183) dL_law_371 ⟨Nat.le_of_ble_eq_true rfl, Nat.le_of_ble_eq_true rfl⟩ ⟨by show _ ≤ 600000; omega, by show _ ≤ 7302250; omega⟩ (by decide) e181 g182 ?_
                          refine r_goto E (tgt := 377) dL_law_374 (by decide) ?_
                          refine r_iinc E (j := 3) (v := v3 + 5) (lv' := [(3, .int (v3 + 5)), (0, va_rf (some bS)), (1, va_rf (v1)), (2, va_rf (v2))]) dL_law_377 rfl rfl (by decide) (by first | rfl | (simp only [List.filter_cons, List.filter_nil, va_rf_cat]; rfl)) ?_
                          refine r_goto E (tgt := 18) dL_law_380 (by decide) ?_
                          refine r_sub [1, 2, 3, 0] (lv' := [(0, va_rf (some bS)), (1, va_rf (v1)), (2, va_rf (v2)), (3, .int (v3 + 5))]) rfl ?_
                          exact ih _ _ _ _ _ _ h
                        · have h := iff' c173 h
                          have hmo := mo_lp_L_law f _ _ _ _ _ _ h
                          refine r_tab E (off := 345) (tgt := 377) dL_law_32 (by have z0 := lv_neT (x := (xs (Int32.toNatClampNeg v3)) &&& (15 : Int32)) (k := 0) (a := 0) c13 (by decide); have z1 := lv_neT (x := (xs (Int32.toNatClampNeg v3)) &&& (15 : Int32)) (k := 1) (a := 1) c33 (by decide); have z2 := lv_neT (x := (xs (Int32.toNatClampNeg v3)) &&& (15 : Int32)) (k := 2) (a := 2) c57 (by decide); have z3 := lv_neT (x := (xs (Int32.toNatClampNeg v3)) &&& (15 : Int32)) (k := 3) (a := 3) c77 (by decide); have z4 := lv_neT (x := (xs (Int32.toNatClampNeg v3)) &&& (15 : Int32)) (k := 4) (a := 4) c97 (by decide); have z5 := lv_neT (x := (xs (Int32.toNatClampNeg v3)) &&& (15 : Int32)) (k := 5) (a := 5) c113 (by decide); have z6 := lv_neT (x := (xs (Int32.toNatClampNeg v3)) &&& (15 : Int32)) (k := 6) (a := 6) c131 (by decide); have z7 := lv_neT (x := (xs (Int32.toNatClampNeg v3)) &&& (15 : Int32)) (k := 7) (a := 7) c145 (by decide); have z8 := lv_neT (x := (xs (Int32.toNatClampNeg v3)) &&& (15 : Int32)) (k := 8) (a := 8) c159 (by decide); have z9 := lv_neT (x := (xs (Int32.toNatClampNeg v3)) &&& (15 : Int32)) (k := 9) (a := 9) c173 (by decide); by_cases w1 : Int32.toInt ((xs (Int32.toNatClampNeg v3)) &&& (15 : Int32)) < 0 <;> by_cases w2 : 9 < Int32.toInt ((xs (Int32.toNatClampNeg v3)) &&& (15 : Int32)) <;> first | (simp [w1, w2]; done) | (exfalso; omega)) (fun w1 w2 => by show _ < 10; omega) (by decide) ?_
                          refine r_iinc E (j := 3) (v := v3 + 5) (lv' := [(3, .int (v3 + 5)), (0, va_rf (some bS)), (1, va_rf (v1)), (2, va_rf (v2))]) dL_law_377 rfl rfl (by decide) (by first | rfl | (simp only [List.filter_cons, List.filter_nil, va_rf_cat]; rfl)) ?_
                          refine r_goto E (tgt := 18) dL_law_380 (by decide) ?_
                          refine r_sub [1, 2, 3, 0] (lv' := [(0, va_rf (some bS)), (1, va_rf (v1)), (2, va_rf (v2)), (3, .int (v3 + 5))]) rfl ?_
                          exact ih _ _ _ _ _ _ h
def ex_L_law (L : Nat) (xs : Nat → Int32) (d : Dp) (σ : Sg) : Option (Int32 × Sg × Nat × Nat) := (b4 (ex_X6_init d (nw σ 8) (hs σ)) fun r3 s2 k4 n5 => (b4 (ex_X7_init d (nw s2 9) (hs s2)) fun r8 s7 k9 n10 => lp_L_law L xs 600 d s7 (some (hs σ)) (some (hs s2)) (0 : Int32) (0 + 1 + k4 + 1 + k9) (0 + 2 + n5 + 28 + n10)))
set_option maxHeartbeats 4000000 in
set_option maxRecDepth 20000 in
theorem w_L_law {p : Program} {l : Launch} {e : Env} {s : State} {m : MethodId} {below : List Frame} {meth : Method} {c : Code} {d : Dp} {bS L : Nat} {xs : Nat → Int32} {σ' : Sg} {r : Int32} {kF nF : Nat} (E : Ev p s m #[Value.ref bS] meth c RL code 4 ret d (fun q => s.heap.size ≤ q)) (hX : va_X bS L xs s s.heap) (hbl : bS < s.heap.size) (hkF : kF ≤ 600000) (hnF : nF ≤ 7302250) {σ : Sg} (h : ex_L_law L xs d σ = some (r, σ', kF, nF)) : Gk p l e room_1 s m #[Value.ref bS] below meth c d (fun q => s.heap.size ≤ q) (lw_Z below #[Value.ref bS] s) 4 σ 0 0 0 [(0, va_rf (some bS))] [] := by
  unfold ex_L_law at h
  obtain ⟨r3, s2, k4, n5, hc1, h⟩ := nb4 h
  obtain ⟨r8, s7, k9, n10, hc6, h⟩ := nb4 h
  have hmo := mo_lp_L_law _ _ _ _ _ _ _ h
  refine nw_L_7 E dL_law_0 ⟨by show _ ≤ 600000; omega, by show _ ≤ 7302250; omega⟩ ?_
  refine r_dup E dL_law_3 (va_rf_cat _) ?_
  refine cl_L_9 E (m_X6_init hc1) dL_law_4 ⟨Nat.le_of_ble_eq_true rfl, Nat.le_of_ble_eq_true rfl⟩ ⟨by show _ ≤ 600000; omega, by show _ ≤ 7302250; omega⟩ (by simp only [List.map_cons, List.map_nil, va_rf_cat]; exact Nat.le_of_ble_eq_true rfl) rfl ?_
  refine r_astore_n E (i := 1) (lv' := [(1, va_rf (some (hs σ))), (0, va_rf (some bS))]) dL_law_7 rfl (by decide) (by first | rfl | (simp only [List.filter_cons, List.filter_nil, va_rf_cat]; rfl)) ?_
  refine nw_L_10 E dL_law_8 ⟨by show _ ≤ 600000; omega, by show _ ≤ 7302250; omega⟩ ?_
  refine r_dup E dL_law_11 (va_rf_cat _) ?_
  refine cl_L_12 E (m_X7_init hc6) dL_law_12 ⟨Nat.le_of_ble_eq_true rfl, Nat.le_of_ble_eq_true rfl⟩ ⟨by show _ ≤ 600000; omega, by show _ ≤ 7302250; omega⟩ (by simp only [List.map_cons, List.map_nil, va_rf_cat]; exact Nat.le_of_ble_eq_true rfl) rfl ?_
  refine r_astore_n E (i := 2) (lv' := [(2, va_rf (some (hs s2))), (1, va_rf (some (hs σ))), (0, va_rf (some bS))]) dL_law_15 rfl (by decide) (by first | rfl | (simp only [List.filter_cons, List.filter_nil, va_rf_cat]; rfl)) ?_
  refine r_iconst E dL_law_16 (v := 0) (by decide) ?_
  refine r_istore_n E (i := 3) (lv' := [(3, .int ((0 : Int32))), (2, va_rf (some (hs s2))), (1, va_rf (some (hs σ))), (0, va_rf (some bS))]) dL_law_17 rfl (by decide) (by first | rfl | (simp only [List.filter_cons, List.filter_nil, va_rf_cat]; rfl)) ?_
  refine r_sub [3, 2, 1, 0] (lv' := [(0, va_rf (some bS)), (1, va_rf (some (hs σ))), (2, va_rf (some (hs s2))), (3, .int ((0 : Int32)))]) rfl ?_
  exact wlp_L_law E hX hbl hkF hnF _ _ _ _ _ _ _ h
