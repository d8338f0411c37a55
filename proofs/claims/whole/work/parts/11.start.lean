
/-! THE CLAIM OUT OF ONE WALK OF THE LAW'S BODY. Your part is whole_start (and what it stands on); all else here is the same for every law, but numbers. -/
def R_law : String := "WaterShouldersLaw"
def lw_P (b : Addr) (xs : List Int32) (args : Array Value) (s : State) : Prop := args = #[.ref b] ∧ s.IntsAt b xs ∧ xs.length ≤ 384 ∧ (Jvm.Cond.and given_1 narrow_1).before args s = true
def lw_Q (_ : Array Value) (s : State) (o : Outcome) (t : State) : Prop := o = .returned (some (.int 1)) ∧ Framed s o t [] 600000 7302250
def lw_Z (below : List Frame) (a : Array Value) (s : State) : State → Prop := fun t => ∃ o, t.status = .running ∧ Ended t below o ∧ lw_Q a s o t
/-- the law's own end, with 1 on the stack, nothing written that was there before, its room as the claim has it -/
theorem lw_ret {p : Program} {l : Launch} {e : Env} {s : State} {m : MethodId} {below : List Frame} {meth : Method} {c : Code} {b : Nat} (hx : p.tables.exec = Jvm.exec) (hb : c.code = code) (hr : meth.sig.returnType = ret) (hlocks : meth.locks = false) {pc : Nat} {H : Heap} {ls : Array Slot} (hdg : decode code pc = .ok (.ireturn, 1)) : W p l e room_1 s m #[Value.ref b] below meth c H [] 600000 7302250 (lw_Z below #[Value.ref b] s) (F0 m pc ls [.int 1]) := by
  intro T hT X
  obtain ⟨fs, hret, hrun, hended, hW, hframe⟩ := X.leave (v := some (.int 1)) (hlocks := hlocks) (fun h => by rw [hr] at h; cases h)
  have hmeth' : T.vm.method? m = some meth := X.method'
  refine ⟨T.setFrames fs, ?_, .returned (some (.int 1)), hrun, hended, rfl, ⟨_, rfl⟩, hW, hframe⟩
  jvm_step X.here [X.here.top, hx, hb, hdg, hmeth', hr, ret, narrow_b1]
  (try refine ⟨rfl, ?_⟩); (try refine ⟨rfl, ?_⟩)
  first | (intro acts; rw [hret _ acts rfl rfl rfl]) | rw [hret _ _ rfl rfl rfl]
  exact Steps.refl _
/-- what holds at the law's entry: the machine, the code, the tables' words (any of lw_tbl by 'hts w (by decide +kernel)'), the script of L ints xs at the cell b, what the Statement gives of the start (any of its parts by flat_of_before) -/
def lw_At (p : Program) (s : State) (m : MethodId) (meth : Method) (c : Code) (b L : Nat) (xs : Nat → Int32) : Prop :=
  p.tables.exec = Jvm.exec ∧ c.code = code ∧ meth.sig.returnType = ret ∧ c.maxLocals = 4 ∧ s.vm.findClass R_law = some m.cls ∧ (∀ w ∈ lw_tbl, w.before #[Value.ref b] s = true) ∧ va_X b L xs s s.heap ∧ b < s.heap.size ∧ meth.locks = false ∧ (Jvm.Cond.and given_1 narrow_1).before #[Value.ref b] s = true
/-- the pure heap at the law's entry: the script alone -/
def p_h0 (L : Nat) (xs : Nat → Int32) : pH := (1, 0, fun k => if k = 0 then some (.inl (4, L, .inl xs)) else none)
def p_Q (v : Option Value) (h : pH) : Prop := v = some (.int 1) ∧ h.1 ≤ 600001 ∧ h.2.1 ≤ 7302250
theorem p_yes {s : State} {C : String} {cC : ClassId} (h : ClassAt s C cC) : p_Yc C C s := ⟨cC, cC, h.1, h.1, va_assign h⟩
theorem p_cast {args : Array Value} {s : State} {C T : String} (h : (Cond.castable C T).before args s = true) : p_Yc C T s := by
  obtain ⟨c0, t0, f1, f2, f3⟩ := Cond.castable_spec h
  exact ⟨c0, t0, f1, f2, f3⟩
set_option maxRecDepth 20000 in
theorem p_Gs {s : State} {b : Nat} (hts : ∀ w ∈ lw_tbl, w.before #[Value.ref b] s = true) (hgv : (Jvm.Cond.and given_1 narrow_1).before #[Value.ref b] s = true) (hbl : b < s.heap.size) : ∃ D : va_G, p_G s b (s.heap.size - 1) D := by
  have hpT : ∀ w ∈ pT, w.before #[Value.ref b] s = true := fun w hw => hts w (List.mem_filter.mp hw).1
  have hex : ∀ c : Nat, ∃ d : ClassId × (Nat → Nat), ∀ q : vw_C, vwCl[c]? = some q → u_Kn s q.1 q.2.1 q.2.2 d.1 d.2 := by
    intro c
    cases hc : vwCl[c]? with
    | none => exact ⟨(0, fun _ => 0), fun q h => by cases h⟩
    | some q =>
      obtain ⟨c1, c2, -⟩ := p_cls c q hc
      obtain ⟨cC, iS, hk⟩ := u_known hpT c1 (hpT _ c2)
      exact ⟨(cC, iS), fun q2 h => by cases h; exact hk⟩
  let D : va_G := (fun c => (Classical.choose (hex c)).1, fun c => (Classical.choose (hex c)).2)
  have hD : ∀ (c : Nat) (q : vw_C), vwCl[c]? = some q → u_Kn s q.1 q.2.1 q.2.2 (D.1 c) (D.2 c) := fun c q h => Classical.choose_spec (hex c) q h
  have hat : ∀ (c : Nat) (q : vw_C), vwCl[c]? = some q → p_Yc q.1 q.1 s := fun c q h => p_yes (hD c q h).2
  have hs := flat_of_before _ hgv
  have nc : ∀ C T : String, Cond.not (.castable C T) ∈ flatC (Jvm.Cond.and given_1 narrow_1) → va_Nc C T s := fun C T h => va_Nc.of (hs _ h)
  refine ⟨D, by omega, hD, va_AO.of (hts _ (by decide +kernel)), ?_, ?_⟩
  · intro ci t hci ht
    have hci : ci = 0 ∨ ci = 1 ∨ ci = 2 ∨ ci = 7 ∨ ci = 10 := by
      unfold p_bt at hci
      simp only [Bool.or_eq_true, beq_iff_eq] at hci
      omega
    have ht : t = 0 ∨ t = 2 ∨ t = 7 ∨ t = 10 := by
      simp only [Bool.or_eq_true, beq_iff_eq] at ht
      omega
    rcases hci with rfl | rfl | rfl | rfl | rfl <;> rcases ht with rfl | rfl | rfl | rfl
    · exact ⟨fun _ => hat 0 _ rfl, fun h => by cases h⟩
    · exact ⟨(fun h => by cases h), fun _ => nc _ _ (by decide +kernel)⟩
    · exact ⟨(fun h => by cases h), fun _ => nc _ _ (by decide +kernel)⟩
    · exact ⟨(fun h => by cases h), fun _ => nc _ _ (by decide +kernel)⟩
    · exact ⟨(fun h => by cases h), fun _ => nc _ _ (by decide +kernel)⟩
    · exact ⟨(fun h => by cases h), fun _ => nc _ _ (by decide +kernel)⟩
    · exact ⟨(fun h => by cases h), fun _ => nc _ _ (by decide +kernel)⟩
    · exact ⟨(fun h => by cases h), fun _ => nc _ _ (by decide +kernel)⟩
    · exact ⟨(fun h => by cases h), fun _ => nc _ _ (by decide +kernel)⟩
    · exact ⟨fun _ => hat 2 _ rfl, fun h => by cases h⟩
    · exact ⟨(fun h => by cases h), fun _ => nc _ _ (by decide +kernel)⟩
    · exact ⟨(fun h => by cases h), fun _ => nc _ _ (by decide +kernel)⟩
    · exact ⟨(fun h => by cases h), fun _ => nc _ _ (by decide +kernel)⟩
    · exact ⟨(fun h => by cases h), fun _ => nc _ _ (by decide +kernel)⟩
    · exact ⟨fun _ => hat 7 _ rfl, fun h => by cases h⟩
    · exact ⟨(fun h => by cases h), fun _ => nc _ _ (by decide +kernel)⟩
    · exact ⟨(fun h => by cases h), fun _ => nc _ _ (by decide +kernel)⟩
    · exact ⟨fun _ => p_cast (hts (.castable "WaterShoulders$Tub" "WaterShoulders$Carrier") (by decide +kernel)), fun h => by cases h⟩
    · exact ⟨(fun h => by cases h), fun _ => nc _ _ (by decide +kernel)⟩
    · exact ⟨fun _ => hat 10 _ rfl, fun h => by cases h⟩
  · intro ci hci
    have hci : ci = 0 ∨ ci = 1 ∨ ci = 2 ∨ ci = 7 ∨ ci = 10 := by
      unfold p_bt at hci
      simp only [Bool.or_eq_true, beq_iff_eq] at hci
      omega
    rcases hci with rfl | rfl | rfl | rfl | rfl
    · exact p_cast (hts (.castable "WaterShoulders$Barge" "WaterShoulders$Boat") (by decide +kernel))
    · exact hat 1 _ rfl
    · exact p_cast (hts (.castable "WaterShoulders$Carrier" "WaterShoulders$Boat") (by decide +kernel))
    · exact p_cast (hts (.castable "WaterShoulders$Punt" "WaterShoulders$Boat") (by decide +kernel))
    · exact p_cast (hts (.castable "WaterShoulders$Tub" "WaterShoulders$Boat") (by decide +kernel))
/-- the claim's walk out of the pure machine's run of the law -/
theorem p_start {p : Program} {e : Env} {s : State} {m : MethodId} {below : List Frame} {meth : Method} {c : Code} (l : Launch) {b L : Nat} {xs : Nat → Int32} (hV : Vm 170 [.ref 0] (p_h0 L xs) p_Q) (C0 : lw_At p s m meth c b L xs) : W p l e room_1 s m #[Value.ref b] below meth c s.heap [] 0 0 (lw_Z below #[Value.ref b] s) (entryFrame m ([Value.ref b] : List Value).toArray 4) := by
  obtain ⟨hx, hb, hr, hml, hown, hts, hX, hbl, hlocks, hgv⟩ := C0
  obtain ⟨D, G⟩ := p_Gs hts hgv hbl
  obtain ⟨n, v, h1, hrun, rfl, hs1, hs2⟩ := hV
  have hC : p_C s 170 p room_1 s m #[Value.ref b] meth c := ⟨hx, hb, hml, hown, fun w hw => hts w (List.mem_filter.mp hw).1, Vm.Alike.refl _, rfl, rfl, fun q => absurd q (by decide)⟩
  obtain ⟨g1, g2, g3⟩ := p_sound (l := l) G n _ _ _ _ _ _ _ hrun
  have K := g3 p e room_1 s m #[Value.ref b] below meth c (lw_Z below #[Value.ref b] s) (p_h0 L xs) hC (Nat.le_refl _) (Nat.le_refl _) (by show h1.1 - 1 ≤ 600000; omega) (by show h1.2.1 - 0 ≤ 7302250; omega) ?_
  · have hrel : p_rel s b (s.heap.size - 1) D (p_h0 L xs) s.heap := by
      refine ⟨by show s.heap.size = s.heap.size - 1 + 1; omega, Nat.le_refl _, fun k e hk => ?_⟩
      have hk : (if k = 0 then some (.inl (4, L, .inl xs)) else none) = some e := hk
      by_cases h0 : k = 0
      · rw [if_pos h0] at hk
        cases hk
        subst h0
        exact ⟨Nat.lt_succ_self 0, Or.inl ⟨rfl, rfl, hX⟩⟩
      · rw [if_neg h0] at hk
        cases hk
    have := K _ [] s.heap (p_entry (b := b) (o := s.heap.size - 1) (z := 170) (as := [.ref 0]) (by decide)) hrel (fun q hq => by cases hq)
    rw [Nat.sub_self, Nat.sub_self] at this
    rw [lg_entry_eq]
    exact this
  · intro H' locs' pc' ls' hrel' hlo' hret
    have hd : decode code pc' = .ok (.ireturn, 1) := by
      rcases hret with ⟨hd, -⟩ | ⟨-, -, x, hv⟩ | ⟨-, -, hv⟩ | ⟨-, -, hv⟩
      · exact hd
      · cases hv
      · rcases hv with hv | ⟨a, hv⟩ <;> cases hv
      · cases hv
    refine va_forget (fun q hq => ?_) (W.widen (k := 600000) (n := 7302250) (by show h1.1 - 1 ≤ 600000; omega) (by show h1.2.1 - 0 ≤ 7302250; omega) (lw_ret hx hb hr hlocks hd))
    have := hlo' q hq
    omega
