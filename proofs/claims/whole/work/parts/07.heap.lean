/-! instructions of the heap -/
theorem p_lk {α : Type} : ∀ {l : List (Nat × α)} {k : Nat} {v : α}, l.lookup k = some v → (k, v) ∈ l
  | [], k, v, h => by cases h
  | (a, x) :: r, k, v, h => by
    rw [List.lookup_cons] at h
    by_cases hk : k == a
    · rw [hk] at h
      cases h
      rw [beq_iff_eq] at hk
      subst hk
      exact List.mem_cons_self
    · rw [Bool.not_eq_true] at hk
      rw [hk] at h
      exact List.mem_cons_of_mem _ (p_lk h)
theorem p_lu_in {α : Type} {l : List (Nat × α)} {y idx : Nat} {v : α} (h : p_lu l y idx = some v) : (p_o y * 1000 + idx, v) ∈ l ∧ (p_o y * 1000 + idx) / 1000 = p_o y ∧ (p_o y * 1000 + idx) % 1000 = idx := by
  unfold p_lu at h
  by_cases hi : idx < 1000
  · rw [if_pos hi] at h
    exact ⟨p_lk h, by omega, by omega⟩
  · rw [if_neg hi] at h
    cases h
/-- what is known of each class -/
theorem p_cls : ∀ (ci : Nat) (q : vw_C), vwCl[ci]? = some q → (∀ w ∈ u_ws q.1 q.2.1 q.2.2, w ∈ pT) ∧ Cond.instantiable q.1 q.2.2 ∈ pT ∧ Cond.initialized q.1 ∈ pT ∧
    (∃ ty : Nat → FieldType, (∀ k, k < q.2.2 → parseFieldDescriptor (q.2.1 k).2.2.1 = some (ty k)) ∧ ∀ j, j < q.2.2 → defaultValue (ty j) = vp_V (p_df ci) j) ∧
    (∀ a, a < q.2.2 → ∀ b, b < q.2.2 → a ≠ b → (q.2.1 a).2.1 ≠ (q.2.1 b).2.1) ∧ (p_df ci).length = q.2.2 ∧ p_cn ci = q.1
  | 0, q, h => by cases h; exact ⟨y_0_in, y_0_t, y_0_z, ⟨tyX0, tyX0_ok, by decide +kernel⟩, nmX0, rfl, rfl⟩
  | 1, q, h => by cases h; exact ⟨y_1_in, y_1_t, y_1_z, ⟨tyX1, tyX1_ok, by decide +kernel⟩, nmX1, rfl, rfl⟩
  | 2, q, h => by cases h; exact ⟨y_2_in, y_2_t, y_2_z, ⟨tyX2, tyX2_ok, by decide +kernel⟩, nmX2, rfl, rfl⟩
  | 3, q, h => by cases h; exact ⟨y_3_in, y_3_t, y_3_z, ⟨tyX3, tyX3_ok, by decide +kernel⟩, nmX3, rfl, rfl⟩
  | 4, q, h => by cases h; exact ⟨y_4_in, y_4_t, y_4_z, ⟨tyX4, tyX4_ok, by decide +kernel⟩, nmX4, rfl, rfl⟩
  | 5, q, h => by cases h; exact ⟨y_5_in, y_5_t, y_5_z, ⟨tyX5, tyX5_ok, by decide +kernel⟩, nmX5, rfl, rfl⟩
  | 6, q, h => by cases h; exact ⟨y_6_in, y_6_t, y_6_z, ⟨tyX6, tyX6_ok, by decide +kernel⟩, nmX6, rfl, rfl⟩
  | 7, q, h => by cases h; exact ⟨y_7_in, y_7_t, y_7_z, ⟨tyX7, tyX7_ok, by decide +kernel⟩, nmX7, rfl, rfl⟩
  | 8, q, h => by cases h; exact ⟨y_8_in, y_8_t, y_8_z, ⟨tyX8, tyX8_ok, by decide +kernel⟩, nmX8, rfl, rfl⟩
  | 9, q, h => by cases h; exact ⟨y_9_in, y_9_t, y_9_z, ⟨tyX9, tyX9_ok, by decide +kernel⟩, nmX9, rfl, rfl⟩
  | 10, q, h => by cases h; exact ⟨y_10_in, y_10_t, y_10_z, ⟨tyX10, tyX10_ok, by decide +kernel⟩, nmX10, rfl, rfl⟩
  | 11, q, h => by cases h; exact ⟨y_11_in, y_11_t, y_11_z, ⟨tyX11, tyX11_ok, by decide +kernel⟩, nmX11, rfl, rfl⟩
  | 12, q, h => by cases h; exact ⟨y_12_in, y_12_t, y_12_z, ⟨tyX12, tyX12_ok, by decide +kernel⟩, nmX12, rfl, rfl⟩
  | _ + 13, q, h => by cases h
theorem p_fits {tc : Nat} {v : Value} (b o : Nat) (hv : p_okv tc v = true) {ty : FieldType} (ht : (match (some ty : Option FieldType) with
      | some .int => tc == 0
      | some .boolean => tc == 1
      | some .long => tc == 2
      | some (.object _) => tc == 3
      | some (.array _) => tc == 3
      | _ => false) = true) : narrow ty (p_tr b o v) = p_tr b o v ∧ fits ty (p_tr b o v) = true := by
  cases ty <;> simp only [beq_iff_eq, Bool.false_eq_true] at ht <;> subst ht <;> cases v <;> first | (cases hv; done) | exact ⟨rfl, rfl⟩ | skip
  simp only [p_okv, decide_eq_true_eq] at hv
  rcases hv with rfl | rfl
  · exact ⟨rfl, rfl⟩
  · exact ⟨rfl, rfl⟩
section HP
variable {p : Program} {l : Launch} {e : Env} {R : Room} {s : State} {m : MethodId} {args : Array Value} {below : List Frame} {meth : Method} {c : Code} {H : Heap} {locs : List Loc} {cells slots : Nat} {Z : State → Prop} {S0 : State} {b o : Nat} {D : va_G} {y pc : Nat} {ls : Array Slot} {h : pH}
theorem p_KK (G : p_G S0 b o D) (C : p_C S0 y p R s m args meth c) : va_K D vwCl [] s := ⟨fun c q hq => u_Kn_moved C.2.2.2.2.2.1 (G.2.1 c q hq), fun k q hk => by cases hk⟩
theorem p_recv (G : p_G S0 b o D) (C : p_C S0 y p R s m args meth c) {a ci : Nat} {fs : List Value} (he : p_at S0 b o D a (.inr (ci, fs)) H) : ∃ cell : Cell, H[p_rho b o a]? = some cell ∧ cell.vm.isStatics = false ∧ s.vm.findClass (p_cn ci) = some cell.cls := by
  obtain ⟨r, h1, ⟨cell, q1, q2, q3, -⟩, -⟩ := he
  obtain ⟨-, -, -, -, -, -, hcn⟩ := p_cls ci r h1
  exact ⟨cell, q1, by rw [q3]; rfl, by rw [q2, hcn]; exact ((p_KK G C).1 ci r h1).2.1⟩
theorem p_gets (G : p_G S0 b o D) (C : p_C S0 y p R s m args meth c) {idx a k ci : Nat} {cis : List Nat} {t : Nat × Nat × String} {fs rest : List Value} {v : Value} (hf : p_lu fT y idx = some (k, cis, t)) (he : p_at S0 b o D a (.inr (ci, fs)) H) (hci : cis.contains ci = true) (hv : fs[k]? = some v)
    (hdg : decode (p_c y) pc = .ok (.getfield idx, 3)) (kk : W p l e R s m args below meth c H locs cells slots Z (F0 m (pc + 3) ls (p_tr b o v :: rest))) : W p l e R s m args below meth c H locs cells slots Z (F0 m pc ls (.ref (p_rho b o a) :: rest)) := by
  obtain ⟨tc, fin, ref⟩ := t
  obtain ⟨hx, hb, hml, hown, hts, hal, -⟩ := id C
  obtain ⟨hin, hq1, hq2⟩ := p_lu_in hf
  obtain ⟨⟨t1, t2⟩, ht⟩ := fT_in _ hin
  have ht := List.all_eq_true.mp ht ci (by simpa using hci)
  dsimp only at ht
  rw [hq1, hq2] at ht
  obtain ⟨r, h1, h2, h3, -⟩ := he
  obtain ⟨C1, T1, N1⟩ := r
  unfold p_fo at ht
  rw [h1] at ht
  simp only [Bool.and_eq_true, decide_eq_true_eq, Bool.or_eq_true, beq_iff_eq] at ht
  obtain ⟨⟨⟨⟨⟨g1, g2⟩, g3⟩, g4⟩, g5⟩, g6⟩ := ht
  obtain ⟨c1, -⟩ := p_cls ci _ h1
  refine va_get (D := D) (cl := vwCl) (tys := []) (ws := [(p_rho b o a, .inr (ci, fs.map (p_tr b o)))]) (C := C1) (T := T1) (N := N1) hx hb hts c1 hown (p_KK G C) ?_ 0 rfl h1 k g1 (hts _ (p_wT g2)) ?_ (v := p_tr b o v) ?_ hdg kk
  · intro j q hj
    match j, hj with
    | 0, hj =>
      cases hj
      exact ⟨_, h1, h2⟩
    | _ + 1, hj => cases hj
  · intro x hx
    rcases g3 with g3 | g3
    · rw [← g3]; exact hx
    · exact u_same (hts _ (p_wT g3)) x hx
  · rw [List.getElem?_map, hv]
    rfl
theorem p_puts (G : p_G S0 b o D) (C : p_C S0 y p R s m args meth c) {idx a k ci tc fin : Nat} {ref : String} {cis : List Nat} {fs rest : List Value} {v : Value} (hf : p_lu fT y idx = some (k, cis, tc, fin, ref)) (hr : p_rel S0 b o D h H) (hlo : ∀ q ∈ locs, o < q.base) (hg : p_get h a = some (.inr (ci, fs))) (hci : cis.contains ci = true) (hok : p_okv tc v = true) (hkl : k < fs.length) (hfin : (fin == 0 || (fin == 1 && p_in y)) = true)
    (hdg : decode (p_c y) pc = .ok (.putfield idx, 3)) (kk : ∀ (H1 : Heap) (locs1 : List Loc), p_rel S0 b o D (p_set h a (.inr (ci, fs.set k v))) H1 → (∀ q ∈ locs1, o < q.base) → W p l e R s m args below meth c H1 locs1 cells slots Z (F0 m (pc + 3) ls rest)) : W p l e R s m args below meth c H locs cells slots Z (F0 m pc ls (p_tr b o v :: .ref (p_rho b o a) :: rest)) := by
  obtain ⟨hx, hb, hml, hown, hts, hal, -, -, hnm0⟩ := id C
  obtain ⟨hin, hq1, hq2⟩ := p_lu_in hf
  obtain ⟨⟨t1, t2⟩, ht⟩ := fT_in _ hin
  have ht := List.all_eq_true.mp ht ci (by simpa using hci)
  dsimp only at ht
  rw [hq1, hq2] at ht
  have he := (hr.2.2 _ _ hg).2
  obtain ⟨r, h1, h2, h3, ha1⟩ := he
  obtain ⟨C1, T1, N1⟩ := r
  unfold p_fo at ht
  rw [h1] at ht
  simp only [Bool.and_eq_true, decide_eq_true_eq, Bool.or_eq_true, beq_iff_eq] at ht
  obtain ⟨⟨⟨⟨⟨g1, g2⟩, g3⟩, g4⟩, g5⟩, g6⟩ := ht
  obtain ⟨c1, -, -, ⟨ty0, hty, -⟩, hnm, -, -⟩ := p_cls ci _ h1
  have hK := p_KK G C
  have hap := va_apart (own := C1) hts c1 ty0 hty hnm hK h1
  have hsame : ∀ x, s.fieldFound? (T1 k).1 (T1 k).2.1 (T1 k).2.2.1 = some x → s.fieldFound? ref (T1 k).2.1 (T1 k).2.2.1 = some x := by
    intro x hx
    rcases g3 with g3 | g3
    · rw [← g3]; exact hx
    · exact u_same (hts _ (p_wT g3)) x hx
  have hlink := hts _ (p_wT g2)
  have hd := hty k g1
  rw [hd] at g4
  obtain ⟨hn, hfit⟩ := p_fits b o hok g4
  obtain ⟨cell, q1, q2, q3, q4⟩ := h2
  obtain ⟨hS, hfc, kC, hkC, hkind⟩ := hK.1 ci _ h1
  obtain ⟨cf, kf, fi, f, hi, hsl⟩ := hS k g1
  have hst := (u_facts hfc hkC (u_lays hts c1 g1) hi).1
  have fin' : ∀ H1 : Heap, H1[p_rho b o a]? = some (cell.setSlot ((D.2 ci) k) (p_tr b o v)) → H1.size = H.size → (∀ q, q ≠ p_rho b o a → H1[q]? = H[q]?) → W p l e R s m args below meth c H1 (locs ++ [⟨p_rho b o a, f.slot⟩]) cells slots Z (F0 m (pc + 3) ls rest) := by
    intro H1 e1 e2 e3
    refine kk H1 _ (hr.set G.1 hg e2 e3 ?_) ?_
    · refine ⟨_, h1, ?_, by rw [List.length_set]; exact h3, ha1⟩
      rw [List.map_set]
      exact t_OB.to (V := updV (vp_V (fs.map (p_tr b o))) k (p_tr b o v)) ⟨_, e1, q2, q3, t_set q4 hap g1 (p_tr b o v)⟩ (fun j _ => vp_updV_set (by rw [List.length_map]; exact hkl) (p_tr b o v) j)
    · intro q hq
      rcases List.mem_append.mp hq with hq | hq
      · exact hlo q hq
      · rw [List.mem_singleton.mp hq]
        show o < p_rho b o a
        rw [p_rho_pos ha1]
        omega
  have hlay := hts _ (c1 _ (u_in_lay g1))
  unfold u_lay at hlay
  by_cases hf0 : fin = 0
  · subst hf0
    have g5 : (T1 k).2.2.2 = false := by simpa using g5
    rw [if_neg (by rw [g5]; decide)] at hlay
    have h6 := u_store hfc hkC hkind hlay hi hd hn hfit
    refine W.putK hx hb (f := f) ⟨hown, hlink, ⟨_, _, _, hsame _ hi⟩, hst⟩ (by rw [q2]; exact h6) q1 q3 (by rw [hsl]; exact k2_hasslot (q4 k g1)) rfl rfl hdg fun H' e1 e2 e3 => ?_
    rw [hsl] at e1
    exact fin' H' e1 e2 e3
  · have hf1 : fin = 1 ∧ p_in y = true := by
      simp only [Bool.or_eq_true, beq_iff_eq, Bool.and_eq_true] at hfin
      rcases hfin with hfin | hfin
      · exact absurd hfin hf0
      · exact hfin
    obtain ⟨hf1, hini⟩ := hf1
    subst hf1
    have g6 : (T1 k).2.2.2 = true ∧ (T1 k).1 = p_on1 (p_o y) := by simpa using g6
    rw [if_pos g6.1] at hlay
    have hcf : m.cls = cf := by
      obtain ⟨_, _, c', _, _, _, -, -, hf', -, -, -, hown2, -⟩ := Cond.laysFinal_spec hlay
      have e1 : c' = cf := by have := hi.symm.trans hf'; simp at this; exact this.1.symm
      rw [g6.2] at hown2
      rw [← e1]; exact Option.some.inj (hown.symm.trans hown2)
    have h6 := u_fits hfc hkC hkind (Or.inr hlay) hi hd hn hfit
    have hname : meth.name = "<init>" := hnm0 (by
      unfold p_in at hini
      simpa using hini)
    refine W.putFinK hx hb hown hlink (hsame _ hi) hst hcf hname (by rw [q2]; exact h6) q1 q3 (by rw [hsl]; exact k2_hasslot (q4 k g1)) rfl rfl hdg fun H' e1 e2 e3 => ?_
    rw [hsl] at e1
    exact fin' H' e1 e2 e3
end HP
