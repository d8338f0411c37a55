/-! the pure machine's cells and the real heap -/
def p_rho (b o k : Nat) : Nat := if k = 0 then b else o + k
theorem p_rho_inj {b o j k : Nat} (hb : b ≤ o) (h : p_rho b o j = p_rho b o k) : j = k := by
  unfold p_rho at h
  split at h <;> split at h <;> omega
theorem p_rho_pos {b o k : Nat} (hk : 1 ≤ k) : p_rho b o k = o + k := by
  unfold p_rho
  rw [if_neg (by omega)]
def p_tr (b o : Nat) : Value → Value
  | .ref k => .ref (p_rho b o k)
  | v => v
theorem p_tr_cat (b o : Nat) (v : Value) : (p_tr b o v).category = v.category := by cases v <;> rfl
theorem p_tr_rf (b o : Nat) (r : Option Nat) : p_tr b o (va_rf r) = va_rf (r.map (p_rho b o)) := by cases r <;> rfl
theorem p_tr_cs (b o : Nat) (st : List Value) : ((st.map (p_tr b o)).map fun v => v.category).sum = p_cs st := by
  rw [List.map_map, p_cs]
  congr 1
  apply List.map_congr_left
  intro v _
  exact p_tr_cat b o v
def p_Yc (C T : String) (U : State) : Prop := ∃ c t : ClassId, U.vm.findClass C = some c ∧ U.vm.findClass T = some t ∧ U.vm.assignable c t = true
theorem p_Yc.moved {C T : String} {u U : State} (hvm : u.vm.Alike U.vm) (h : p_Yc C T u) : p_Yc C T U := by
  obtain ⟨c, t, h1, h2, h3⟩ := h
  exact ⟨c, t, by rw [hvm.findClass]; exact h1, by rw [hvm.findClass]; exact h2, by rw [hvm.assignable]; exact h3⟩
def p_G (S0 : State) (b o : Nat) (D : va_G) : Prop :=
  b ≤ o ∧ (∀ (c : Nat) (q : vw_C), vwCl[c]? = some q → u_Kn S0 q.1 q.2.1 q.2.2 (D.1 c) (D.2 c)) ∧ va_AO "WaterShoulders$Boat" S0 ∧
  (∀ ci t : Nat, p_bt ci = true → (t == 0 || t == 2 || t == 7 || t == 10) = true → (p_is ci t = true → p_Yc (p_cn ci) (p_cn t) S0) ∧ (p_is ci t = false → va_Nc (p_cn ci) (p_cn t) S0)) ∧
  (∀ ci : Nat, p_bt ci = true → p_Yc (p_cn ci) "WaterShoulders$Boat" S0)
def p_at (S0 : State) (b o : Nat) (D : va_G) (k : Nat) (e : pE) (H : Heap) : Prop := match e with
  | .inl (kd, n, .inl f) => (kd = 4 ∧ k = 0 ∧ va_X (p_rho b o k) n f S0 H) ∨ (kd = 0 ∧ 1 ≤ k ∧ ∃ cA : ClassId, H[p_rho b o k]? = some (arrV cA n (fun j => .int (f j))) ∧ ArrOfT S0 cA .int) ∨ (kd = 1 ∧ 1 ≤ k ∧ ∃ cA : ClassId, H[p_rho b o k]? = some (arrV cA n (fun j => .int (f j))) ∧ ArrOfT S0 cA .byte)
  | .inl (kd, n, .inr (.inl f)) => kd = 2 ∧ 1 ≤ k ∧ ∃ cA : ClassId, H[p_rho b o k]? = some (arrV cA n (fun j => .long (f j))) ∧ ArrOfT S0 cA .long
  | .inl (kd, n, .inr (.inr f)) => kd = 3 ∧ 1 ≤ k ∧ ∃ cA : ClassId, H[p_rho b o k]? = some (arrV cA n (fun j => va_rf ((f j).map (p_rho b o)))) ∧ ArrOfT S0 cA (.object "WaterShoulders$Boat") ∧ va_RA S0 cA (.object "WaterShoulders$Boat")
  | .inr (ci, fs) => ∃ r : vw_C, vwCl[ci]? = some r ∧ t_OB (p_rho b o k) (D.1 ci) r.2.2 (D.2 ci) H (vp_V (fs.map (p_tr b o))) ∧ fs.length = r.2.2 ∧ 1 ≤ k
theorem p_at.kept {S0 : State} {b o : Nat} {D : va_G} {k : Nat} {e : pE} {H H1 : Heap} (h : p_at S0 b o D k e H) (hq : H1[p_rho b o k]? = H[p_rho b o k]?) : p_at S0 b o D k e H1 := by
  match e, h with
  | .inl (kd, n, .inl f), h =>
    rcases h with ⟨h1, h0, h2⟩ | ⟨h1, h0, cA, h2, h3⟩ | ⟨h1, h0, cA, h2, h3⟩
    · exact Or.inl ⟨h1, h0, h2.kept hq⟩
    · exact Or.inr (Or.inl ⟨h1, h0, cA, hq.trans h2, h3⟩)
    · exact Or.inr (Or.inr ⟨h1, h0, cA, hq.trans h2, h3⟩)
  | .inl (kd, n, .inr (.inl f)), h =>
    obtain ⟨h1, h0, cA, h2, h3⟩ := h
    exact ⟨h1, h0, cA, hq.trans h2, h3⟩
  | .inl (kd, n, .inr (.inr f)), h =>
    obtain ⟨h1, h0, cA, h2, h3⟩ := h
    exact ⟨h1, h0, cA, hq.trans h2, h3⟩
  | .inr (ci, fs), h =>
    obtain ⟨r, h1, h2, h3⟩ := h
    exact ⟨r, h1, h2.kept hq, h3⟩
def p_rel (S0 : State) (b o : Nat) (D : va_G) (h : pH) (H : Heap) : Prop := H.size = o + h.1 ∧ 1 ≤ h.1 ∧ ∀ (k : Nat) (e : pE), p_get h k = some e → k < h.1 ∧ p_at S0 b o D k e H
theorem p_rel.set {S0 : State} {b o : Nat} {D : va_G} {h : pH} {H H1 : Heap} (hb : b ≤ o) (hr : p_rel S0 b o D h H) {k : Nat} {e0 e : pE} (hk : p_get h k = some e0) (hs : H1.size = H.size) (ho : ∀ q : Nat, q ≠ p_rho b o k → H1[q]? = H[q]?) (he : p_at S0 b o D k e H1) : p_rel S0 b o D (p_set h k e) H1 := by
  obtain ⟨h1, h2, h3⟩ := hr
  refine ⟨hs.trans h1, h2, fun j e1 hj => ?_⟩
  have hj : va_up h.2.2 k (some e) j = some e1 := hj
  unfold va_up at hj
  by_cases hjk : j = k
  · rw [if_pos hjk] at hj
    cases hj
    subst hjk
    exact ⟨(h3 _ _ hk).1, he⟩
  · rw [if_neg hjk] at hj
    obtain ⟨g1, g2⟩ := h3 j e1 hj
    exact ⟨g1, g2.kept (ho _ (fun q => hjk (p_rho_inj hb q)))⟩
theorem p_rel.new {S0 : State} {b o : Nat} {D : va_G} {h : pH} {H H1 : Heap} (hb : b ≤ o) (hr : p_rel S0 b o D h H) {e : pE} {n : Nat} (hs : H1.size = H.size + 1) (ho : ∀ q : Nat, q < H.size → H1[q]? = H[q]?) (he : p_at S0 b o D h.1 e H1) : p_rel S0 b o D (p_new h e n) H1 := by
  obtain ⟨h1, h2, h3⟩ := hr
  refine ⟨by rw [hs, h1]; rfl, Nat.le_succ_of_le h2, fun j e1 hj => ?_⟩
  have hj : va_up h.2.2 h.1 (some e) j = some e1 := hj
  unfold va_up at hj
  by_cases hjk : j = h.1
  · rw [if_pos hjk] at hj
    cases hj
    subst hjk
    exact ⟨Nat.lt_succ_self _, he⟩
  · rw [if_neg hjk] at hj
    obtain ⟨g1, g2⟩ := h3 j e1 hj
    refine ⟨Nat.lt_succ_of_lt g1, g2.kept (ho _ ?_)⟩
    rw [h1]
    unfold p_rho
    split <;> omega
theorem p_rel.addr {S0 : State} {b o : Nat} {D : va_G} {h : pH} {H : Heap} (hr : p_rel S0 b o D h H) : p_rho b o h.1 = H.size := by
  rw [p_rho_pos hr.2.1, hr.1]
/-- locals -/
def p_lr (b o nL : Nat) (ls : Array Slot) (L : pL) : Prop := L.length = nL ∧ ls.size = nL ∧ lv_wf ls ∧ ∀ (i : Nat) (v : Value), L[i]? = some (some v) → ls[i]? = some (.val (p_tr b o v))
def p_ll1 (b o : Nat) (L : pL) : List (Nat × Value) := (List.range L.length).filterMap (fun i => (p_lg L i).map (fun v => (i, p_tr b o v)))
theorem p_lg_some {L : pL} {i : Nat} {v : Value} : p_lg L i = some v ↔ L[i]? = some (some v) := by
  unfold p_lg
  rw [List.getD_eq_getElem?_getD]
  cases h : L[i]? with
  | none => simp
  | some x => simp
theorem p_ll1_mem {b o : Nat} {L : pL} {q : Nat × Value} : q ∈ p_ll1 b o L ↔ ∃ v, L[q.1]? = some (some v) ∧ q.2 = p_tr b o v := by
  unfold p_ll1
  rw [List.mem_filterMap]
  constructor
  · rintro ⟨i, -, h⟩
    cases hg : p_lg L i with
    | none => rw [hg] at h; cases h
    | some v =>
      rw [hg] at h
      cases h
      exact ⟨v, p_lg_some.mp hg, rfl⟩
  · rintro ⟨v, h1, h2⟩
    refine ⟨q.1, List.mem_range.mpr (List.getElem?_eq_some_iff.mp h1).1, ?_⟩
    rw [p_lg_some.mpr h1]
    show some (q.1, p_tr b o v) = some q
    rw [← h2]
theorem p_lr.has {b o nL : Nat} {ls : Array Slot} {L : pL} (h : p_lr b o nL ls L) : lv_has ls nL (p_ll1 b o L) := by
  refine ⟨h.2.1, h.2.2.1, fun q hq => ?_⟩
  obtain ⟨v, h1, h2⟩ := p_ll1_mem.mp hq
  rw [h2]
  exact h.2.2.2 _ _ h1
theorem p_lr.at {b o nL : Nat} {ls : Array Slot} {L : pL} (h : p_lr b o nL ls L) {i : Nat} {v : Value} (hg : p_lg L i = some v) : ls[i]? = some (.val (p_tr b o v)) := h.2.2.2 _ _ (p_lg_some.mp hg)
theorem p_s1_len : ∀ (L : pL) (i : Nat) (v : Value), (p_s1 L i v).length = L.length
  | [], i, v => by cases i <;> rfl
  | x :: r, 0, v => rfl
  | x :: r, 1, v => by show (p_s1 r 0 v).length + 1 = _; rw [p_s1_len r 0 v]; rfl
  | x :: r, k + 2, v => by show (p_s1 r (k + 1) v).length + 1 = _; rw [p_s1_len r (k + 1) v]; rfl
theorem p_s2_len : ∀ (L : pL) (i : Nat) (v : Value), (p_s2 L i v).length = L.length
  | [], i, v => by cases i <;> rfl
  | x :: [], 0, v => rfl
  | x :: y :: r, 0, v => rfl
  | x :: r, 1, v => by show (p_s2 r 0 v).length + 1 = _; rw [p_s2_len r 0 v]; rfl
  | x :: r, k + 2, v => by show (p_s2 r (k + 1) v).length + 1 = _; rw [p_s2_len r (k + 1) v]; rfl
theorem p_dl_some {x : Option Value} {w : Value} (h : p_dl x = some w) : x = some w ∧ ¬ w.category = 2 := by
  cases x with
  | none => cases h
  | some v =>
    cases v <;> first | (cases h; exact ⟨rfl, by simp [Value.category]⟩) | cases h
theorem p_s1_get : ∀ (L : pL) (i : Nat) (v : Value) (j : Nat) (w : Value), (p_s1 L i v)[j]? = some (some w) → (j = i ∧ w = v) ∨ (j ≠ i ∧ L[j]? = some (some w) ∧ ¬ (j + 1 = i ∧ w.category = 2))
  | [], i, v, j, w, h => by cases i <;> simp [p_s1] at h
  | x :: r, 0, v, 0, w, h => by
    have h : some (some v) = some (some w) := h
    cases h
    exact Or.inl ⟨rfl, rfl⟩
  | x :: r, 0, v, j + 1, w, h => by
    have h : r[j]? = some (some w) := by simpa [p_s1] using h
    exact Or.inr ⟨by omega, by simpa using h, by omega⟩
  | x :: r, 1, v, 0, w, h => by
    have h : some (p_dl x) = some (some w) := by simpa [p_s1] using h
    obtain ⟨h1, h2⟩ := p_dl_some (Option.some.inj h)
    exact Or.inr ⟨by omega, by simp [h1], fun q => h2 q.2⟩
  | x :: r, 1, v, j + 1, w, h => by
    have h : (p_s1 r 0 v)[j]? = some (some w) := by simpa [p_s1] using h
    rcases p_s1_get r 0 v j w h with ⟨a, c⟩ | ⟨a, c, d⟩
    · exact Or.inl ⟨by omega, c⟩
    · exact Or.inr ⟨by omega, by simpa using c, fun q => by omega⟩
  | x :: r, k + 2, v, 0, w, h => by
    have h : some x = some (some w) := by simpa [p_s1] using h
    exact Or.inr ⟨by omega, by simpa using h, fun q => by omega⟩
  | x :: r, k + 2, v, j + 1, w, h => by
    have h : (p_s1 r (k + 1) v)[j]? = some (some w) := by simpa [p_s1] using h
    rcases p_s1_get r (k + 1) v j w h with ⟨a, c⟩ | ⟨a, c, d⟩
    · exact Or.inl ⟨by omega, c⟩
    · exact Or.inr ⟨by omega, by simpa using c, fun q => d ⟨by omega, q.2⟩⟩
theorem p_s2_get : ∀ (L : pL) (i : Nat) (v : Value) (j : Nat) (w : Value), (p_s2 L i v)[j]? = some (some w) → (j = i ∧ w = v) ∨ (j ≠ i ∧ j ≠ i + 1 ∧ L[j]? = some (some w) ∧ ¬ (j + 1 = i ∧ w.category = 2))
  | [], i, v, j, w, h => by cases i <;> simp [p_s2] at h
  | x :: r, 0, v, 0, w, h => by
    have h : some (some v) = some (some w) := by simpa [p_s2] using h
    cases h
    exact Or.inl ⟨rfl, rfl⟩
  | x :: [], 0, v, j + 1, w, h => by simp [p_s2] at h
  | x :: z :: r, 0, v, 1, w, h => by simp [p_s2] at h
  | x :: z :: r, 0, v, j + 2, w, h => by
    have h : r[j]? = some (some w) := by simpa [p_s2] using h
    exact Or.inr ⟨by omega, by omega, by simpa using h, by omega⟩
  | x :: r, 1, v, 0, w, h => by
    have h : some (p_dl x) = some (some w) := by simpa [p_s2] using h
    obtain ⟨h1, h2⟩ := p_dl_some (Option.some.inj h)
    exact Or.inr ⟨by omega, by omega, by simp [h1], fun q => h2 q.2⟩
  | x :: r, 1, v, j + 1, w, h => by
    have h : (p_s2 r 0 v)[j]? = some (some w) := by simpa [p_s2] using h
    rcases p_s2_get r 0 v j w h with ⟨a, c⟩ | ⟨a, a2, c, d⟩
    · exact Or.inl ⟨by omega, c⟩
    · exact Or.inr ⟨by omega, by omega, by simpa using c, fun q => by omega⟩
  | x :: r, k + 2, v, 0, w, h => by
    have h : some x = some (some w) := by simpa [p_s2] using h
    exact Or.inr ⟨by omega, by omega, by simpa using h, fun q => by omega⟩
  | x :: r, k + 2, v, j + 1, w, h => by
    have h : (p_s2 r (k + 1) v)[j]? = some (some w) := by simpa [p_s2] using h
    rcases p_s2_get r (k + 1) v j w h with ⟨a, c⟩ | ⟨a, a2, c, d⟩
    · exact Or.inl ⟨by omega, c⟩
    · exact Or.inr ⟨by omega, by omega, by simpa using c, fun q => d ⟨by omega, q.2⟩⟩
theorem p_lr.s1 {b o nL : Nat} {ls ls2 : Array Slot} {L : pL} {i : Nat} {v : Value} (h : p_lr b o nL ls L) (h2 : lv_has ls2 nL ((i, p_tr b o v) :: (p_ll1 b o L).filter (fun q => !(q.1 == i) && !(q.1 + 1 == i && q.2.category == 2)))) : p_lr b o nL ls2 (p_s1 L i v) := by
  refine ⟨(p_s1_len L i v).trans h.1, h2.1, h2.2.1, fun j w hj => ?_⟩
  rcases p_s1_get L i v j w hj with ⟨rfl, rfl⟩ | ⟨a, c, d⟩
  · exact h2.2.2 (j, p_tr b o w) List.mem_cons_self
  · refine h2.2.2 (j, p_tr b o w) (List.mem_cons_of_mem _ (List.mem_filter.mpr ⟨p_ll1_mem.mpr ⟨w, c, rfl⟩, ?_⟩))
    dsimp only
    rw [p_tr_cat]
    simp only [Bool.and_eq_true, Bool.not_eq_true', beq_eq_false_iff_ne, ne_eq, Bool.and_eq_false_iff]
    refine ⟨a, ?_⟩
    by_cases q : j + 1 = i
    · exact Or.inr (fun z => d ⟨q, z⟩)
    · exact Or.inl q
theorem p_lr.s2 {b o nL : Nat} {ls ls2 : Array Slot} {L : pL} {i : Nat} {v : Value} (h : p_lr b o nL ls L) (h2 : lv_has ls2 nL ((i, p_tr b o v) :: (p_ll1 b o L).filter (fun q => !(q.1 == i) && (!(q.1 == i + 1) && !(q.1 + 1 == i && q.2.category == 2))))) : p_lr b o nL ls2 (p_s2 L i v) := by
  refine ⟨(p_s2_len L i v).trans h.1, h2.1, h2.2.1, fun j w hj => ?_⟩
  rcases p_s2_get L i v j w hj with ⟨rfl, rfl⟩ | ⟨a, a2, c, d⟩
  · exact h2.2.2 (j, p_tr b o w) List.mem_cons_self
  · refine h2.2.2 (j, p_tr b o w) (List.mem_cons_of_mem _ (List.mem_filter.mpr ⟨p_ll1_mem.mpr ⟨w, c, rfl⟩, ?_⟩))
    dsimp only
    rw [p_tr_cat]
    simp only [Bool.and_eq_true, Bool.not_eq_true', beq_eq_false_iff_ne, ne_eq, Bool.and_eq_false_iff]
    refine ⟨a, a2, ?_⟩
    by_cases q : j + 1 = i
    · exact Or.inr (fun z => d ⟨q, z⟩)
    · exact Or.inl q
/-- the locals at a method's entry -/
theorem p_en_args (b o : Nat) : ∀ (as : List Value) (k i : Nat) (v : Value), (p_en1 as)[i]? = some (some v) → (k + i, p_tr b o v) ∈ lv_args k (as.map (p_tr b o))
  | [], k, i, v, h => by simp [p_en1] at h
  | a :: r, k, i, v, h => by
    unfold p_en1 at h
    show (k + i, p_tr b o v) ∈ (k, p_tr b o a) :: lv_args (if (p_tr b o a).category = 2 then k + 2 else k + 1) (r.map (p_tr b o))
    rw [p_tr_cat]
    by_cases hc : a.category = 2
    · rw [if_pos hc] at h ⊢
      match i, h with
      | 0, h =>
        cases (Option.some.inj (Option.some.inj h) : a = v)
        exact List.mem_cons_self
      | 1, h => simp at h
      | i + 2, h =>
        have h : (p_en1 r)[i]? = some (some v) := by simpa using h
        have := p_en_args b o r (k + 2) i v h
        rw [show k + (i + 2) = k + 2 + i by omega]
        exact List.mem_cons_of_mem _ this
    · rw [if_neg hc] at h ⊢
      match i, h with
      | 0, h =>
        cases (Option.some.inj (Option.some.inj h) : a = v)
        exact List.mem_cons_self
      | i + 1, h =>
        have h : (p_en1 r)[i]? = some (some v) := by simpa using h
        have := p_en_args b o r (k + 1) i v h
        rw [show k + (i + 1) = k + 1 + i by omega]
        exact List.mem_cons_of_mem _ this
theorem p_en1_len (b o : Nat) : ∀ as : List Value, (lg_sl (as.map (p_tr b o))).length = (p_en1 as).length
  | [] => rfl
  | a :: r => by
    have ih := p_en1_len b o r
    show (lg_sl (p_tr b o a :: r.map (p_tr b o))).length = (p_en1 (a :: r)).length
    unfold p_en1
    unfold lg_sl at ih ⊢
    rw [List.flatMap_cons, List.length_append, ih, p_tr_cat]
    by_cases hc : a.category = 2
    · rw [if_pos hc, if_pos hc]
      simp
      omega
    · rw [if_neg hc, if_neg hc]
      simp
      omega
theorem p_entry {b o z : Nat} {as : List Value} (h : (p_en1 as).length ≤ p_x z) : p_lr b o (p_x z) ((lg_sl (as.map (p_tr b o)) ++ List.replicate (p_x z - (lg_sl (as.map (p_tr b o))).length) Slot.unset).toArray) (p_en z as) := by
  obtain ⟨e1, e2, e3⟩ := lv_entry (as.map (p_tr b o)) (n := p_x z) (by rw [p_en1_len]; exact h)
  refine ⟨?_, e1, e2, fun i v hi => ?_⟩
  · unfold p_en
    rw [List.length_append, List.length_replicate]
    omega
  · unfold p_en at hi
    by_cases hl : i < (p_en1 as).length
    · rw [List.getElem?_append_left hl] at hi
      have := p_en_args b o as 0 i v hi
      rw [Nat.zero_add] at this
      exact e3 _ this
    · rw [List.getElem?_append_right (by omega)] at hi
      have := List.mem_of_getElem? hi
      rw [List.mem_replicate] at this
      cases this.2
