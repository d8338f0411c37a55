def p_ret (y pc : Nat) (v : Option Value) : Prop :=
  (decode (p_c y) pc = .ok (.ireturn, 1) ∧ ∃ x : Int32, v = some (.int x) ∧ p_rt y x = true) ∨ (decode (p_c y) pc = .ok (.lreturn, 1) ∧ p_r y = some .long ∧ ∃ x : Int64, v = some (.long x)) ∨
  (decode (p_c y) pc = .ok (.areturn, 1) ∧ p_r y = some (.object "WaterShoulders$Boat") ∧ (v = some .null ∨ ∃ a, v = some (.ref a))) ∨ (decode (p_c y) pc = .ok (.return_, 1) ∧ p_r y = none ∧ v = none)
theorem p_rets {y pc k : Nat} {I : Instr} {L : pL} {st : List Value} {h : pH} {v : Option Value} (hd : decode (p_c y) pc = .ok (I, k)) (hk : p_ck I k = true) (hs : p_st y I pc L st h = some (.inr (.inr v))) : p_ret y pc v ∧ st = v.toList := by
  cases I <;> simp only [p_st, p_nx, p_li, p_ll, p_la, p_si, p_sl, p_sa, p_ii, p_id, p_jj, p_jd, p_js, p_ic, p_if, p_br, p_tg, p_gf, p_pf, p_ial, p_bal, p_lal, p_aal, p_ias, p_bas, p_las, p_aas, p_len, p_na, p_nq, p_nw, p_io, p_iv, p_is1, p_iq, p_cl, p_mm, p_ac, p_rv, reduceCtorEq] at hs
  all_goals (repeat' split at hs)
  all_goals (first | (cases hs; done) | skip)
  all_goals (simp only [p_ck, beq_iff_eq] at hk; subst hk; cases hs)
  · rename_i hr
    exact ⟨Or.inr (Or.inr (Or.inl ⟨hd, hr, Or.inr ⟨_, rfl⟩⟩)), rfl⟩
  · rename_i hr
    exact ⟨Or.inr (Or.inr (Or.inl ⟨hd, hr, Or.inl rfl⟩)), rfl⟩
  · rename_i hr
    exact ⟨Or.inl ⟨hd, _, rfl, hr⟩, rfl⟩
  · rename_i hr
    exact ⟨Or.inr (Or.inl ⟨hd, hr, _, rfl⟩), rfl⟩
  · rename_i hr
    exact ⟨Or.inr (Or.inr (Or.inr ⟨hd, hr, rfl⟩)), rfl⟩
section SD
variable {p : Program} {l : Launch} {e : Env} {R : Room} {s : State} {m : MethodId} {args : Array Value} {below : List Frame} {meth : Method} {c : Code} {H : Heap} {locs : List Loc} {cells slots : Nat} {Z : State → Prop} {S0 : State} {b o : Nat} {D : va_G} {hi : pH} {y pc pc1 : Nat} {L L1 : pL} {st st1 : List Value} {h h1 : pH} {ls : Array Slot}
theorem p_goes {mc ms : Nat} {st0 rest : List Value} {Qa : State → Outcome → State → Prop} {w : Option Value} (hr : va_Run p l e R s m args below meth c H locs cells slots mc ms (F0 m pc ls st0) rest Qa (fun q => o < q)) (hQ : ∀ (st₀ : State) (v : Option Value) (t : State), Qa st₀ (.returned v) t → v = w ∧ p_rel S0 b o D h1 t.heap) (hlo : ∀ q ∈ locs, o < q.base)
    (kk : ∀ (H1 : Heap) (locs1 : List Loc), p_rel S0 b o D h1 H1 → (∀ q ∈ locs1, o < q.base) → W p l e R s m args below meth c H1 locs1 (cells + mc) (slots + ms) Z (F0 m (pc + 3) ls (w.toList ++ rest))) : W p l e R s m args below meth c H locs cells slots Z (F0 m pc ls st0) := by
  intro T hT X
  obtain ⟨v, st₀, t, T', L, h0, X', hL, e1, e2, hq, st⟩ := hr T hT X
  obtain ⟨rfl, hrel⟩ := hQ _ _ _ hq
  obtain ⟨t2, a1, b1⟩ := kk T'.heap (locs ++ L) (by rw [e1]; exact hrel) (fun q hq => by
    rcases List.mem_append.mp hq with h | h
    · exact hlo q h
    · exact hL q h) T' rfl X'
  exact ⟨t2, st t2 a1, b1⟩
def p_ws (z : Nat) : List Cond := Cond.code (p_y z) (p_c z) (p_x z) (p_r z) :: pT
def p_Pc (S0 : State) (b o : Nat) (D : va_G) (as : List Value) (h : pH) : Array Value → State → Prop := va_Pc (as.map (p_tr b o)) (fun U => p_rel S0 b o D h U.heap ∧ S0.vm.Alike U.vm)
def p_Qc (S0 : State) (b o : Nat) (D : va_G) (w : Option Value) (h : pH) : Array Value → State → Outcome → State → Prop := fun _ _ oc t => oc = .returned (w.map (p_tr b o)) ∧ p_rel S0 b o D h t.heap
def p_rm (z : Nat) (h h1 : pH) : Room := { frames := p_dep z, cells := h1.1 - h.1, slots := h1.2.1 - h.2.1, locals := p_wds z }
theorem p_blind (S0 : State) (b o : Nat) (D : va_G) (as : List Value) (h : pH) : FrameBlind (p_Pc S0 b o D as h) := by
  intro a U g mk q
  obtain ⟨q0, q1, q2⟩ := q
  exact ⟨q0, q1, q2⟩
theorem p_wsG (z : Nat) (hz : z < 170) : GoodIn pT (p_ws z) := by
  intro w hw
  have hw2 : w ∈ pT := by
    rcases List.mem_cons.mp hw with rfl | hw
    · exact k_all z hz
    · exact hw
  exact ⟨hw2, p_goodT w hw2⟩
/-- what a run of a method gives: its contract from this start -/
def p_Snd (S0 : State) (b o : Nat) (D : va_G) (l : Launch) (n : Nat) : Prop := ∀ (y pc : Nat) (L : pL) (st : List Value) (h : pH) (v : Option Value) (h1 : pH), p_run n y pc L st h = some (v, h1) → h.1 ≤ h1.1 ∧ h.2.1 ≤ h1.2.1 ∧
  ∀ (p : Program) (e : Env) (R : Room) (s : State) (m : MethodId) (args : Array Value) (below : List Frame) (meth : Method) (c : Code) (Z : State → Prop) (hi : pH), p_C S0 y p R s m args meth c → hi.1 ≤ h.1 → hi.2.1 ≤ h.2.1 → h1.1 - hi.1 ≤ R.cells → h1.2.1 - hi.2.1 ≤ R.slots →
    (∀ (H' : Heap) (locs' : List Loc) (pc' : Nat) (ls' : Array Slot), p_rel S0 b o D h1 H' → (∀ q ∈ locs', o < q.base) → p_ret y pc' v → W p l e R s m args below meth c H' locs' (h1.1 - hi.1) (h1.2.1 - hi.2.1) Z (F0 m pc' ls' (v.toList.map (p_tr b o)))) →
    p_K S0 b o D p l e R s m args below meth c Z hi y pc L st h
theorem p_met {n z : Nat} {as : List Value} {w : Option Value} (ih : p_Snd S0 b o D l n) (hz : z < 170) (hrun : p_run n z 0 (p_en z as) [] h = some (w, h1)) (hlen : (p_en1 as).length ≤ p_x z) : Met l (p_y z) (p_ws z) (p_rm z h h1) (p_Pc S0 b o D as h) (p_Qc S0 b o D w h1) (h1.1 - h.1) (h1.2.1 - h.2.1) (fun q => o < q) := by
  have hown0 := List.all_eq_true.mp p_own z (List.mem_range.mpr hz)
  rw [Bool.and_eq_true, decide_eq_true_eq] at hown0
  obtain ⟨ho1, ho2⟩ := hown0
  refine Met.ofW (cc := p_c z) (maxL := p_x z) (ret := p_r z) ho2 rfl ?_
  intro p e s m args below meth c s₁ B hml hv
  obtain ⟨rfl, hrel, hal⟩ := hv
  have hts := atoms_spec (ws := p_ws z) B.pre
  have hown : s.vm.findClass (p_y z).cls = some m.cls := findClass_of_methodNamed B.named
  have hlocks := B.notSynchronized
  have hnm : meth.name = (p_y z).name := (name_of_methodNamed B.named B.method).1
  have hC : p_C S0 z p (headSpec (p_ws z) (p_rm z h h1)).room s m (as.map (p_tr b o)).toArray meth c := ⟨B.exec, B.bytes, hml, by rw [← ho1]; exact hown, fun w hw => hts w (List.mem_cons_of_mem _ hw), hal, rfl, rfl, fun q => by rw [hnm]; exact q⟩
  have hr := B.returns
  have hx := B.exec
  have hb := B.bytes
  obtain ⟨-, -, ih⟩ := ih z 0 (p_en z as) [] h w h1 hrun
  have K := ih p e (headSpec (p_ws z) (p_rm z h h1)).room s m (as.map (p_tr b o)).toArray below meth c (MQ below (p_Qc S0 b o D w h1) (as.map (p_tr b o)).toArray s (h1.1 - h.1) (h1.2.1 - h.2.1) (fun q => o < q)) h hC (Nat.le_refl _) (Nat.le_refl _) (Nat.le_refl _) (Nat.le_refl _) ?_
  · have := K _ [] s.heap (p_entry hlen) hrel (fun q hq => by cases hq)
    rw [Nat.sub_self, Nat.sub_self] at this
    rw [lg_entry_eq]
    exact this
  · intro H' locs' pc' ls' hrel' hlo' hret
    rcases hret with ⟨hd, x, rfl, hrt⟩ | ⟨hd, hry, x, rfl⟩ | ⟨hd, hry, hv⟩ | ⟨hd, hry, rfl⟩
    · unfold p_rt at hrt
      split at hrt
      · rename_i hry
        rw [hry] at hr
        exact W.iret (v := x) hx hb hr (fun t ht hW => ⟨rfl, by rw [ht]; exact hrel'⟩) hlo' hd
      · rename_i hry
        rw [hry] at hr
        rw [decide_eq_true_eq] at hrt
        exact W.zret (v := x) hx hb hr (by rcases hrt with rfl | rfl <;> rfl) (fun t ht hW => ⟨rfl, by rw [ht]; exact hrel'⟩) hlo' hd
      · cases hrt
    · rw [hry] at hr
      exact W.lret (v := x) hx hb hr (fun t ht hW => ⟨rfl, by rw [ht]; exact hrel'⟩) hlo' hd
    · rw [hry] at hr
      rcases hv with rfl | ⟨a, rfl⟩
      · exact W.aret (v := .null) hx hb hr (Or.inl ⟨_, rfl⟩) (Or.inl rfl) (fun t ht hW => ⟨rfl, by rw [ht]; exact hrel'⟩) hlo' hd
      · exact W.aret (v := .ref (p_rho b o a)) hx hb hr (Or.inl ⟨_, rfl⟩) (Or.inr ⟨_, rfl⟩) (fun t ht hW => ⟨rfl, by rw [ht]; exact hrel'⟩) hlo' hd
    · rw [hry] at hr
      exact W.vret hx hb hr (fun t ht hW => ⟨rfl, by rw [ht]; exact hrel'⟩) hlo' hd
theorem p_QcE {w : Option Value} {a : Array Value} (st₀ : State) (v : Option Value) (t : State) (hq : p_Qc S0 b o D w h1 a st₀ (.returned v) t) : v = w.map (p_tr b o) ∧ p_rel S0 b o D h1 t.heap := ⟨Outcome.returned.inj hq.1, hq.2⟩
theorem p_cat2 {r : List Value} (h8 : p_cs r ≤ 8) : 2 * (F0 m pc ls ((r.map (p_tr b o)))).monitorRoom + ((r.map (p_tr b o)).map fun v => v.category).sum ≤ 8 := by
  rw [p_tr_cs]
  show 2 * 0 + _ ≤ 8
  omega
theorem p_fits2 {y z : Nat} {r : List Value} (hf : p_fit y z r = true) : p_dep z + 1 ≤ p_dep y ∧ 8 + (p_x z + 11) + p_wds z ≤ p_wds y ∧ p_cs r ≤ 8 := by
  unfold p_fit at hf
  simp only [Bool.and_eq_true, decide_eq_true_eq] at hf
  exact ⟨hf.1.1, hf.1.2, hf.2⟩
theorem p_nm1 {y : MethodName} {n : Nat} (h : p_nm y n = true) : y.cls ≠ "java/lang/invoke/MethodHandle" ∧ y.cls ≠ "java/lang/invoke/VarHandle" ∧ (parseMethodDescriptor y.desc).map (fun d => d.parameters.length) = some n := by
  unfold p_nm at h
  simp only [Bool.and_eq_true, decide_eq_true_eq] at h
  exact ⟨h.1.1, h.1.2, h.2⟩
set_option maxHeartbeats 1000000 in
/-- a call: the callee's contract, and what goes on behind it -/
theorem p_calls (G : p_G S0 b o D) (C : p_C S0 y p R s m args meth c) {I : Instr} {k n z : Nat} {as : List Value} {w : Option Value} (hd : decode (p_c y) pc = .ok (I, k)) (hk : p_ck I k = true) (hs : p_st y I pc L st h = some (.inr (.inl (z, as, pc1, st1)))) (ih : p_Snd S0 b o D l n) (hrun : p_run n z 0 (p_en z as) [] h = some (w, h1))
    (h01 : hi.1 ≤ h.1) (h02 : hi.2.1 ≤ h.2.1) (hR1 : h1.1 - hi.1 ≤ R.cells) (hR2 : h1.2.1 - hi.2.1 ≤ R.slots) (K : p_K S0 b o D p l e R s m args below meth c Z hi y pc1 L (w.toList ++ st1) h1) : p_K S0 b o D p l e R s m args below meth c Z hi y pc L st h := by
  obtain ⟨hm1, hm2, -⟩ := ih z 0 (p_en z as) [] h w h1 hrun
  obtain ⟨hx, hb, hml, hown, hts, hal, hF1, hF2, -⟩ := id C
  intro ls locs H hl hr hlo
  have hcells : h.1 - hi.1 + (h1.1 - h.1) = h1.1 - hi.1 := by omega
  have hslots : h.2.1 - hi.2.1 + (h1.2.1 - h.2.1) = h1.2.1 - hi.2.1 := by omega
  have hroom : h.1 - hi.1 + (h1.1 - h.1) ≤ R.cells ∧ h.2.1 - hi.2.1 + (h1.2.1 - h.2.1) ≤ R.slots := ⟨by omega, by omega⟩
  have hPcU : ∀ U : State, U.heap = H → s.WarmedH U.vm → p_Pc S0 b o D as h (as.map (p_tr b o)).toArray U := fun U hU hW => ⟨rfl, by rw [hU]; exact hr, hal.trans hW.alike⟩
  have hfix : CallFix p m c (p_c y) (p_x y) s args pT (p_on1 (p_o y)) := ⟨hx, hb, hml, hown, hts⟩
  have K2 : ∀ (H1 : Heap) (locs1 : List Loc), p_rel S0 b o D h1 H1 → (∀ q ∈ locs1, o < q.base) → pc1 = pc + 3 → W p l e R s m args below meth c H1 locs1 (h.1 - hi.1 + (h1.1 - h.1)) (h.2.1 - hi.2.1 + (h1.2.1 - h.2.1)) Z (F0 m (pc + 3) ls ((w.map (p_tr b o)).toList ++ st1.map (p_tr b o))) := by
    intro H1 locs1 r1 l1 e1
    have := K ls locs1 H1 hl r1 l1
    rw [hcells, hslots]
    rw [e1, List.map_append] at this
    cases w <;> exact this
  cases I <;> simp only [p_st, p_nx, p_li, p_ll, p_la, p_si, p_sl, p_sa, p_ii, p_id, p_jj, p_jd, p_js, p_ic, p_if, p_br, p_tg, p_gf, p_pf, p_ial, p_bal, p_lal, p_aal, p_ias, p_bas, p_las, p_aas, p_len, p_na, p_nq, p_nw, p_io, p_rv, reduceCtorEq] at hs
  case invokevirtual idx =>
    have hk : k = 3 := by simpa [p_ck] using hk
    subst hk
    simp only [p_iv] at hs
    split at hs
    · rename_i n0 tl hlk
      split at hs
      · rename_i a r hdr
        split at hs
        · rename_i ci fs hg
          split at hs
          · rename_i z2 hz
            split at hs
            · rename_i hn0
              unfold p_cl at hs
              split at hs
              · rename_i hfit
                rw [Bool.and_eq_true, decide_eq_true_eq] at hfit
                cases hs
                obtain ⟨hf1, hf2, hf3⟩ := p_fits2 hfit.1
                obtain ⟨hin, hq1, hq2⟩ := p_lu_in hlk
                obtain ⟨t, ht⟩ := vT_in _ hin
                unfold p_vo at ht
                dsimp only at ht
                rw [hq1, hq2, Bool.and_eq_true] at ht
                obtain ⟨ht1, ht2⟩ := ht
                obtain ⟨j, hj⟩ := List.getElem?_of_mem (p_lk hz)
                have hjt : j < t.length := by
                  have h1 := (List.getElem?_eq_some_iff.mp hj).1
                  rw [beq_iff_eq] at ht1
                  omega
                have hzip : (tl.zip t)[j]? = some ((ci, z), t[j]) := by
                  rw [List.getElem?_zip_eq_some]
                  exact ⟨hj, List.getElem?_eq_getElem _⟩
                have hv := List.all_eq_true.mp ht2 _ (List.mem_of_getElem? hzip)
                unfold p_vo1 at hv
                dsimp only at hv
                simp only [Bool.and_eq_true, decide_eq_true_eq] at hv
                obtain ⟨⟨⟨v1, v2⟩, v3⟩, v4⟩ := hv
                have hM := p_met (b := b) ih v3 hrun hfit.2
                have hrecv := p_recv G C (hr.2.2 _ _ hg).2
                have hst : st.map (p_tr b o) = ((((st.take n0).reverse).map (p_tr b o)).reverse ++ .ref (p_rho b o a) :: st1.map (p_tr b o)) := by
                  conv => lhs; rw [← List.take_append_drop n0 st, hdr]
                  rw [List.map_append, List.map_reverse, List.reverse_reverse]
                  rfl
                have hlenA : (((st.take n0).reverse).map (p_tr b o)).length = n0 := by
                  rw [List.length_map, List.length_reverse]
                  exact hn0
                rw [hst]
                split at v4
                · rename_i i1 i2 i3 i4 _
                  unfold p_vA at v4
                  simp only [Bool.and_eq_true, beq_iff_eq] at v4
                  obtain ⟨⟨⟨⟨w1, w2⟩, w3⟩, w4⟩, w5⟩ := v4
                  have hT : GoodIn pT (wsV (p_on1 (p_o y)) idx (p_cn ci) (p_y z) (p_ws z)) := by
                    intro w hw
                    have hw2 : w ∈ pT := by
                      unfold wsV at hw
                      rcases List.mem_append.mp hw with hw | hw
                      · simp only [List.mem_cons, List.not_mem_nil, or_false] at hw
                        rcases hw with rfl | rfl | rfl | rfl
                        · exact p_wT w1
                        · exact p_wT w3
                        · exact p_wT w4
                        · exact p_wT w5
                      · exact (p_wsG z v3 w hw).1
                    exact ⟨hw2, p_goodT w hw2⟩
                  refine p_goes (va_runV (As := ((st.take n0).reverse).map (p_tr b o)) (rest := st1.map (p_tr b o)) hfix hM (cwV n0 hts hT rfl rfl rfl ⟨w2, p_nm1 v1⟩ ⟨by rw [hF1]; exact hf1, by rw [hF2]; exact hf2⟩) ⟨p_blind _ _ _ _ _ _, hrecv, hPcU⟩ rfl hlenA hl.2.1 rfl (lv_room (by rw [p_tr_cs]; exact hf3)) hd hroom) p_QcE hlo (fun H1 locs1 r1 l1 => K2 H1 locs1 r1 l1 rfl)
                · rename_i i1 i2 i3 i4 i5 i6 _
                  unfold p_vB at v4
                  simp only [Bool.and_eq_true, Bool.or_eq_true, decide_eq_true_eq] at v4
                  obtain ⟨⟨⟨⟨⟨⟨w1, w2⟩, w3⟩, w4⟩, w5⟩, w6⟩, w7⟩ := v4
                  have hc0 : ∃ (b0 : ByteArray) (m0 : Nat) (r0 : Option FieldType), Cond.code (p_bx (p_y z)) b0 m0 r0 ∈ pT := by
                    rcases w4 with (w4 | w4) | w4
                    · rw [w4]; exact ⟨_, _, _, k_4⟩
                    · rw [w4]; exact ⟨_, _, _, k_5⟩
                    · rw [w4]; exact ⟨_, _, _, k_6⟩
                  obtain ⟨b0, m0, r0, hc0⟩ := hc0
                  have hCU : va_CU R s args (p_on1 (p_o y)) (p_cn ci) "WaterShoulders$Boat" idx (p_bx (p_y z)) (p_y z) (p_c z) (p_x z) (p_r z) (p_ws z) (p_rm z h h1) (h1.1 - h.1) (h1.2.1 - h.2.1) n0 := by
                    refine ⟨⟨rfl, rfl, by rw [hF1]; exact hf1, by rw [hF2]; exact hf2, pay_in hts (p_wsG z v3), List.mem_cons_self⟩, hts _ (k_all z v3), hts _ (p_wT w7), ⟨by decide, by decide⟩, fun sig hsig => ?_, hts _ (p_wT w1), hts _ (p_wT w2), va_Decl.of (hts _ (p_wT w3)) (hts _ hc0), hts _ (p_wT w5), hts _ (p_wT w6)⟩
                    have h2 := (p_nm1 v1).2.2
                    have hsig : parseMethodDescriptor (p_y z).desc = some sig := hsig
                    rw [hsig] at h2
                    exact (Option.some.inj h2).symm
                  refine p_goes (va_runU (As := ((st.take n0).reverse).map (p_tr b o)) (rest := st1.map (p_tr b o)) hfix hM hCU ⟨p_blind _ _ _ _ _ _, hrecv, hPcU⟩ rfl hlenA hl.2.1 rfl (lv_room (by rw [p_tr_cs]; exact hf3)) hd hroom) p_QcE hlo (fun H1 locs1 r1 l1 => K2 H1 locs1 r1 l1 rfl)
                · cases v4
              · cases hs
            · cases hs
          · cases hs
        · cases hs
      · cases hs
    · cases hs
  case invokestatic idx =>
    have hk : k = 3 := by simpa [p_ck] using hk
    subst hk
    simp only [p_is1] at hs
    split at hs
    · rename_i n0 z2 hlk
      split at hs
      · rename_i hn0
        unfold p_cl at hs
        split at hs
        · rename_i hfit
          rw [Bool.and_eq_true, decide_eq_true_eq] at hfit
          cases hs
          obtain ⟨hf1, hf2, hf3⟩ := p_fits2 hfit.1
          obtain ⟨hin, hq1, hq2⟩ := p_lu_in hlk
          obtain ⟨t, ht⟩ := sT_in _ hin
          unfold p_so at ht
          dsimp only at ht
          rw [hq1, hq2] at ht
          simp only [Bool.and_eq_true, decide_eq_true_eq] at ht
          obtain ⟨⟨⟨⟨v1, v3⟩, w1⟩, w2⟩, w3⟩ := ht
          have hM := p_met (b := b) ih v3 hrun hfit.2
          have hst : st.map (p_tr b o) = ((((st.take n0).reverse).map (p_tr b o)).reverse ++ (st.drop n0).map (p_tr b o)) := by
            conv => lhs; rw [← List.take_append_drop n0 st]
            rw [List.map_append, List.map_reverse, List.reverse_reverse]
          have hlenA : (((st.take n0).reverse).map (p_tr b o)).length = n0 := by
            rw [List.length_map, List.length_reverse]
            exact hn0
          rw [hst]
          refine p_goes (va_runS (As := ((st.take n0).reverse).map (p_tr b o)) (rest := (st.drop n0).map (p_tr b o)) hfix hM ⟨callB_of n0 hts (p_wsG z v3) rfl rfl rfl (hts _ (p_wT w3)) (hts _ (p_wT w1)) (p_nm1 v1) ⟨by rw [hF1]; exact hf1, by rw [hF2]; exact hf2⟩, hts _ (p_wT w2)⟩ ⟨p_blind _ _ _ _ _ _, hPcU⟩ rfl hlenA hl.2.1 rfl (lv_room (by rw [p_tr_cs]; exact hf3)) hd hroom) p_QcE hlo (fun H1 locs1 r1 l1 => K2 H1 locs1 r1 l1 rfl)
        · cases hs
      · cases hs
    · simp only [p_mm, p_ac, p_nx] at hs
      (repeat' split at hs) <;> cases hs
  case invokespecial idx =>
    have hk : k = 3 := by simpa [p_ck] using hk
    subst hk
    simp only [p_iq] at hs
    split at hs
    · rename_i n0 z2 hlk
      split at hs
      · rename_i a r hdr
        split at hs
        · rename_i hn0
          unfold p_cl at hs
          split at hs
          · rename_i hfit
            rw [Bool.and_eq_true, decide_eq_true_eq] at hfit
            cases hs
            obtain ⟨hf1, hf2, hf3⟩ := p_fits2 hfit.1
            obtain ⟨hin, hq1, hq2⟩ := p_lu_in hlk
            obtain ⟨t, ht⟩ := qT_in _ hin
            unfold p_qo at ht
            dsimp only at ht
            rw [hq1, hq2] at ht
            simp only [Bool.and_eq_true, decide_eq_true_eq, beq_iff_eq] at ht
            obtain ⟨⟨⟨⟨⟨⟨v1, v3⟩, w1⟩, w2⟩, w3⟩, w4⟩, w5⟩ := ht
            have hM := p_met (b := b) ih v3 hrun hfit.2
            have hst : st.map (p_tr b o) = ((((st.take n0).reverse).map (p_tr b o)).reverse ++ .ref (p_rho b o a) :: st1.map (p_tr b o)) := by
              conv => lhs; rw [← List.take_append_drop n0 st, hdr]
              rw [List.map_append, List.map_reverse, List.reverse_reverse]
              rfl
            have hlenA : (((st.take n0).reverse).map (p_tr b o)).length = n0 := by
              rw [List.length_map, List.length_reverse]
              exact hn0
            rw [hst]
            have hwz : p_ws z = Cond.code (p_y z) (p_c z) (p_x z) none :: pT := by
              unfold p_ws
              rw [w5]
            refine p_goes (va_runI (As := ((st.take n0).reverse).map (p_tr b o)) (rest := st1.map (p_tr b o)) hfix hM (cwI n0 hts (p_wsG z v3) hwz rfl rfl (hts _ (p_wT w3)) (hts _ (p_wT w1)) (hts _ (p_wT w2)) w4 (p_nm1 v1) ⟨by rw [hF1]; exact hf1, by rw [hF2]; exact hf2⟩) ⟨p_blind _ _ _ _ _ _, hPcU⟩ rfl hlenA hl.2.1 rfl (lv_room (by rw [p_tr_cs]; exact hf3)) hd hroom) p_QcE hlo (fun H1 locs1 r1 l1 => K2 H1 locs1 r1 l1 rfl)
          · cases hs
        · cases hs
      · cases hs
    · (repeat' split at hs) <;> cases hs
  all_goals ((repeat' split at hs) <;> cases hs)
set_option maxHeartbeats 1000000 in
theorem p_sound (G : p_G S0 b o D) : ∀ n : Nat, p_Snd S0 b o D l n := by
  intro n
  induction n with
  | zero => intro y pc L st h v h1 hrun; cases hrun
  | succ n ih =>
    intro y pc L st h v h1 hrun
    rw [p_run] at hrun
    cases hd : decode (p_c y) pc with
    | error _ => rw [hd] at hrun; cases hrun
    | ok q =>
      obtain ⟨I, k⟩ := q
      rw [hd] at hrun
      dsimp only at hrun
      by_cases hk : p_ck I k = true
      · rw [if_pos hk] at hrun
        cases hs : p_st y I pc L st h with
        | none => rw [hs] at hrun; cases hrun
        | some q =>
          rw [hs] at hrun
          rcases q with ⟨pc2, L2, st2, h2⟩ | ⟨z, as, pc2, st2⟩ | v2
          · dsimp only at hrun
            obtain ⟨m1, m2⟩ := p_st_mono hs
            obtain ⟨i1, i2, i3⟩ := ih _ _ _ _ _ _ _ hrun
            refine ⟨by omega, by omega, ?_⟩
            intro p e R s m args below meth c Z hi C h01 h02 hR1 hR2 hfin
            exact p_step G C hd hk hs h01 h02 (by omega) (by omega) (i3 p e R s m args below meth c Z hi C (by omega) (by omega) hR1 hR2 hfin)
          · dsimp only at hrun
            cases hr2 : p_run n z 0 (p_en z as) [] h with
            | none => rw [hr2] at hrun; cases hrun
            | some q =>
              obtain ⟨w, h2⟩ := q
              rw [hr2] at hrun
              dsimp only at hrun
              obtain ⟨j1, j2, -⟩ := ih _ _ _ _ _ _ _ hr2
              obtain ⟨i1, i2, i3⟩ := ih _ _ _ _ _ _ _ hrun
              refine ⟨by omega, by omega, ?_⟩
              intro p e R s m args below meth c Z hi C h01 h02 hR1 hR2 hfin
              exact p_calls G C hd hk hs ih hr2 h01 h02 (by omega) (by omega) (i3 p e R s m args below meth c Z hi C (by omega) (by omega) hR1 hR2 hfin)
          · dsimp only at hrun
            cases hrun
            obtain ⟨hret, hst⟩ := p_rets hd hk hs
            refine ⟨Nat.le_refl _, Nat.le_refl _, ?_⟩
            intro p e R s m args below meth c Z hi C h01 h02 hR1 hR2 hfin ls locs H hl hr hlo
            rw [hst]
            exact hfin H locs pc ls hr hlo hret
      · rw [if_neg hk] at hrun
        cases hrun
end SD
