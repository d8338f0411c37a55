section AR
variable {p : Program} {l : Launch} {e : Env} {R : Room} {s : State} {m : MethodId} {args : Array Value} {below : List Frame} {meth : Method} {c : Code} {H : Heap} {locs : List Loc} {cells slots : Nat} {Z : State → Prop} {S0 : State} {b o : Nat} {D : va_G} {y pc : Nat} {ls : Array Slot} {h : pH}
theorem p_ialds (C : p_C S0 y p R s m args meth c) {a n kd : Nat} {f : Nat → Int32} {i : Int32} {rest : List Value} (he : p_at S0 b o D a (.inl (kd, n, .inl f)) H) (hkd : kd = 0 ∨ kd = 4) (hin : ¬ (i < 0 ∨ n ≤ i.toNatClampNeg)) (hdg : decode (p_c y) pc = .ok (.iaload, 1))
    (kk : W p l e R s m args below meth c H locs cells slots Z (F0 m (pc + 1) ls (.int (f i.toNatClampNeg) :: rest))) : W p l e R s m args below meth c H locs cells slots Z (F0 m pc ls (.int i :: .ref (p_rho b o a) :: rest)) := by
  obtain ⟨hx, hb, hml, hown, hts, hal, -⟩ := id C
  have hlt : i.toNatClampNeg < n := Nat.not_le.mp fun q => hin (Or.inr q)
  rcases he with ⟨-, -, scr, h1, h2, h3, h4, h5⟩ | ⟨-, -, cA, h1, h2⟩ | ⟨h0, -⟩
  · exact W.iald (v := .int (f i.toNatClampNeg)) hx hb h1 (State.isArrayOf_alike hal h2) h3 (by rw [h4]; exact hin) (h5 _ hlt) rfl rfl hdg kk
  · exact W.iald (v := .int (f i.toNatClampNeg)) hx hb h1 (State.isArrayOf_alike hal (h2 n (fun j => .int (f j)))) (fun q => by cases q) (by rw [arrV_size]; exact hin) (by rw [arrV_read _ _ hlt]) rfl rfl hdg kk
  · omega
theorem p_balds (C : p_C S0 y p R s m args meth c) {a n : Nat} {f : Nat → Int32} {i : Int32} {rest : List Value} (he : p_at S0 b o D a (.inl (1, n, .inl f)) H) (hin : ¬ (i < 0 ∨ n ≤ i.toNatClampNeg)) (hdg : decode (p_c y) pc = .ok (.baload, 1))
    (kk : W p l e R s m args below meth c H locs cells slots Z (F0 m (pc + 1) ls (.int (f i.toNatClampNeg) :: rest))) : W p l e R s m args below meth c H locs cells slots Z (F0 m pc ls (.int i :: .ref (p_rho b o a) :: rest)) := by
  obtain ⟨hx, hb, hml, hown, hts, hal, -⟩ := id C
  have hlt : i.toNatClampNeg < n := Nat.not_le.mp fun q => hin (Or.inr q)
  rcases he with ⟨h0, -⟩ | ⟨h0, -⟩ | ⟨-, -, cA, h1, h2⟩
  · cases h0
  · cases h0
  · exact W.bald (v := .int (f i.toNatClampNeg)) hx hb h1 (State.isArrayOf_alike hal (h2 n (fun j => .int (f j)))) (fun q => by cases q) (by rw [arrV_size]; exact hin) (by rw [arrV_read _ _ hlt]) rfl rfl hdg kk
theorem p_lalds (C : p_C S0 y p R s m args meth c) {a n : Nat} {f : Nat → Int64} {i : Int32} {rest : List Value} (he : p_at S0 b o D a (.inl (2, n, .inr (.inl f))) H) (hin : ¬ (i < 0 ∨ n ≤ i.toNatClampNeg)) (hdg : decode (p_c y) pc = .ok (.laload, 1))
    (kk : W p l e R s m args below meth c H locs cells slots Z (F0 m (pc + 1) ls (.long (f i.toNatClampNeg) :: rest))) : W p l e R s m args below meth c H locs cells slots Z (F0 m pc ls (.int i :: .ref (p_rho b o a) :: rest)) := by
  obtain ⟨hx, hb, hml, hown, hts, hal, -⟩ := id C
  have hlt : i.toNatClampNeg < n := Nat.not_le.mp fun q => hin (Or.inr q)
  obtain ⟨-, -, cA, h1, h2⟩ := he
  exact W.lald (v := .long (f i.toNatClampNeg)) hx hb h1 (State.isArrayOf_alike hal (h2 n (fun j => .long (f j)))) (fun q => by cases q) (by rw [arrV_size]; exact hin) (by rw [arrV_read _ _ hlt]) rfl rfl hdg kk
theorem p_aalds (C : p_C S0 y p R s m args meth c) {a n : Nat} {f : Nat → Option Nat} {i : Int32} {rest : List Value} (he : p_at S0 b o D a (.inl (3, n, .inr (.inr f))) H) (hin : ¬ (i < 0 ∨ n ≤ i.toNatClampNeg)) (hdg : decode (p_c y) pc = .ok (.aaload, 1))
    (kk : W p l e R s m args below meth c H locs cells slots Z (F0 m (pc + 1) ls (p_tr b o (va_rf (f i.toNatClampNeg)) :: rest))) : W p l e R s m args below meth c H locs cells slots Z (F0 m pc ls (.int i :: .ref (p_rho b o a) :: rest)) := by
  obtain ⟨hx, hb, hml, hown, hts, hal, -⟩ := id C
  have hlt : i.toNatClampNeg < n := Nat.not_le.mp fun q => hin (Or.inr q)
  obtain ⟨-, -, cA, h1, h2, -⟩ := he
  rw [p_tr_rf] at kk
  exact W.aald (v := va_rf ((f i.toNatClampNeg).map (p_rho b o))) (ty := .object "WaterShoulders$Boat") hx hb h1 (State.isArrayOf_alike hal (h2 n (fun j => va_rf ((f j).map (p_rho b o))))) rfl (fun q => by cases q) (by rw [arrV_size]; exact hin) (by rw [arrV_read _ _ hlt]) rfl rfl hdg kk
theorem p_lens (C : p_C S0 y p R s m args meth c) {a n kd : Nat} {x : (Nat → Int32) ⊕ (Nat → Int64) ⊕ (Nat → Option Nat)} {rest : List Value} (he : p_at S0 b o D a (.inl (kd, n, x)) H) (hdg : decode (p_c y) pc = .ok (.arraylength, 1))
    (kk : W p l e R s m args below meth c H locs cells slots Z (F0 m (pc + 1) ls (.int (Int32.ofNat n) :: rest))) : W p l e R s m args below meth c H locs cells slots Z (F0 m pc ls (.ref (p_rho b o a) :: rest)) := by
  obtain ⟨hx, hb, hml, hown, hts, hal, -⟩ := id C
  match x, he with
  | .inl f, he =>
    rcases he with ⟨-, -, scr, h1, h2, h3, h4, h5⟩ | ⟨-, -, cA, h1, h2⟩ | ⟨-, -, cA, h1, h2⟩
    · exact W.alen (n := Int32.ofNat n) hx hb h1 (State.isArrayOf_alike hal h2) (by rw [h4] <;> rfl) rfl rfl hdg kk
    · exact W.alen (n := Int32.ofNat n) hx hb h1 (State.isArrayOf_alike hal (h2 n (fun j => .int (f j)))) (by rw [arrV_size] <;> rfl) rfl rfl hdg kk
    · exact W.alen (n := Int32.ofNat n) hx hb h1 (State.isArrayOf_alike hal (h2 n (fun j => .int (f j)))) (by rw [arrV_size] <;> rfl) rfl rfl hdg kk
  | .inr (.inl f), he =>
    obtain ⟨-, -, cA, h1, h2⟩ := he
    exact W.alen (n := Int32.ofNat n) hx hb h1 (State.isArrayOf_alike hal (h2 n (fun j => .long (f j)))) (by rw [arrV_size] <;> rfl) rfl rfl hdg kk
  | .inr (.inr f), he =>
    obtain ⟨-, -, cA, h1, h2, -⟩ := he
    exact W.alen (n := Int32.ofNat n) hx hb h1 (State.isArrayOf_alike hal (h2 n (fun j => va_rf ((f j).map (p_rho b o))))) (by rw [arrV_size] <;> rfl) rfl rfl hdg kk
theorem p_lo1 {a i : Nat} (ha : 1 ≤ a) (hlo : ∀ q ∈ locs, o < q.base) : ∀ q ∈ locs ++ [(⟨p_rho b o a, i⟩ : Loc)], o < q.base := by
  intro q hq
  rcases List.mem_append.mp hq with hq | hq
  · exact hlo q hq
  · rw [List.mem_singleton.mp hq]
    show o < p_rho b o a
    rw [p_rho_pos ha]
    omega
theorem p_updi (f : Nat → Int32) (k : Nat) (x : Int32) : updV (fun j => .int (f j)) k (.int x) = fun j => .int (upd f k x j) := by
  funext q
  by_cases hq : q = k
  · subst hq
    simp [updV, upd]
  · simp [updV, upd, hq]
theorem p_iasts (G : p_G S0 b o D) (C : p_C S0 y p R s m args meth c) {a n : Nat} {f : Nat → Int32} {i x : Int32} {rest : List Value} (hr : p_rel S0 b o D h H) (hlo : ∀ q ∈ locs, o < q.base) (hg : p_get h a = some (.inl (0, n, .inl f))) (hin : ¬ (i < 0 ∨ n ≤ i.toNatClampNeg)) (hdg : decode (p_c y) pc = .ok (.iastore, 1))
    (kk : ∀ (H1 : Heap) (locs1 : List Loc), p_rel S0 b o D (p_set h a (.inl (0, n, .inl (upd f i.toNatClampNeg x)))) H1 → (∀ q ∈ locs1, o < q.base) → W p l e R s m args below meth c H1 locs1 cells slots Z (F0 m (pc + 1) ls rest)) : W p l e R s m args below meth c H locs cells slots Z (F0 m pc ls (.int x :: .int i :: .ref (p_rho b o a) :: rest)) := by
  obtain ⟨hx, hb, hml, hown, hts, hal, -⟩ := id C
  rcases (hr.2.2 _ _ hg).2 with ⟨h0, -⟩ | ⟨-, ha, cA, h1, h2⟩ | ⟨h0, -⟩
  · cases h0
  · refine W.iast hx hb h1 (State.isArrayOf_alike hal (h2 n (fun j => .int (f j)))) (fun q => by cases q) (by rw [arrV_size]; exact hin) rfl rfl hdg fun H1 e1 z oq => ?_
    refine kk H1 _ (hr.set G.1 hg z oq (Or.inr (Or.inl ⟨rfl, ha, cA, ?_, h2⟩))) (p_lo1 ha hlo)
    rw [e1, arrV_store, p_updi]
  · cases h0
theorem p_basts (G : p_G S0 b o D) (C : p_C S0 y p R s m args meth c) {a n : Nat} {f : Nat → Int32} {i x : Int32} {rest : List Value} (hr : p_rel S0 b o D h H) (hlo : ∀ q ∈ locs, o < q.base) (hg : p_get h a = some (.inl (1, n, .inl f))) (hin : ¬ (i < 0 ∨ n ≤ i.toNatClampNeg)) (hdg : decode (p_c y) pc = .ok (.bastore, 1))
    (kk : ∀ (H1 : Heap) (locs1 : List Loc), p_rel S0 b o D (p_set h a (.inl (1, n, .inl (upd f i.toNatClampNeg (vp_nar .byte x))))) H1 → (∀ q ∈ locs1, o < q.base) → W p l e R s m args below meth c H1 locs1 cells slots Z (F0 m (pc + 1) ls rest)) : W p l e R s m args below meth c H locs cells slots Z (F0 m pc ls (.int x :: .int i :: .ref (p_rho b o a) :: rest)) := by
  obtain ⟨hx, hb, hml, hown, hts, hal, -⟩ := id C
  rcases (hr.2.2 _ _ hg).2 with ⟨h0, -⟩ | ⟨h0, -⟩ | ⟨-, ha, cA, h1, h2⟩
  · cases h0
  · cases h0
  · refine W.bast hx hb h1 (State.isArrayOf_alike hal (h2 n (fun j => .int (f j)))) (fun q => by cases q) (by rw [arrV_size]; exact hin) rfl rfl hdg fun H1 e1 z oq => ?_
    refine kk H1 _ (hr.set G.1 hg z oq (Or.inr (Or.inr ⟨rfl, ha, cA, ?_, h2⟩))) (p_lo1 ha hlo)
    rw [e1, arrV_store]
    exact congrArg (fun z => some (arrV cA n z)) (p_updi f i.toNatClampNeg (vp_nar .byte x))
theorem p_lasts (G : p_G S0 b o D) (C : p_C S0 y p R s m args meth c) {a n : Nat} {f : Nat → Int64} {i : Int32} {x : Int64} {rest : List Value} (hr : p_rel S0 b o D h H) (hlo : ∀ q ∈ locs, o < q.base) (hg : p_get h a = some (.inl (2, n, .inr (.inl f)))) (hin : ¬ (i < 0 ∨ n ≤ i.toNatClampNeg)) (hdg : decode (p_c y) pc = .ok (.lastore, 1))
    (kk : ∀ (H1 : Heap) (locs1 : List Loc), p_rel S0 b o D (p_set h a (.inl (2, n, .inr (.inl (vp_updL f i.toNatClampNeg x))))) H1 → (∀ q ∈ locs1, o < q.base) → W p l e R s m args below meth c H1 locs1 cells slots Z (F0 m (pc + 1) ls rest)) : W p l e R s m args below meth c H locs cells slots Z (F0 m pc ls (.long x :: .int i :: .ref (p_rho b o a) :: rest)) := by
  obtain ⟨hx, hb, hml, hown, hts, hal, -⟩ := id C
  obtain ⟨-, ha, cA, h1, h2⟩ := (hr.2.2 _ _ hg).2
  refine W.last hx hb h1 (State.isArrayOf_alike hal (h2 n (fun j => .long (f j)))) (fun q => by cases q) (by rw [arrV_size]; exact hin) rfl rfl hdg fun H1 e1 z oq => ?_
  refine kk H1 _ (hr.set G.1 hg z oq ⟨rfl, ha, cA, ?_, h2⟩) (p_lo1 ha hlo)
  rw [e1, arrV_store]
  congr 2
  funext q
  by_cases hq : q = i.toNatClampNeg
  · subst hq
    simp [updV, vp_updL]
  · simp [updV, vp_updL, hq]
theorem p_aasts (G : p_G S0 b o D) (C : p_C S0 y p R s m args meth c) {a n v ci : Nat} {fs : List Value} {f : Nat → Option Nat} {i : Int32} {rest : List Value} (hr : p_rel S0 b o D h H) (hlo : ∀ q ∈ locs, o < q.base) (hv : p_get h v = some (.inr (ci, fs))) (hbt : p_bt ci = true) (hg : p_get h a = some (.inl (3, n, .inr (.inr f)))) (hin : ¬ (i < 0 ∨ n ≤ i.toNatClampNeg)) (hdg : decode (p_c y) pc = .ok (.aastore, 1))
    (kk : ∀ (H1 : Heap) (locs1 : List Loc), p_rel S0 b o D (p_set h a (.inl (3, n, .inr (.inr (va_up f i.toNatClampNeg (some v)))))) H1 → (∀ q ∈ locs1, o < q.base) → W p l e R s m args below meth c H1 locs1 cells slots Z (F0 m (pc + 1) ls rest)) : W p l e R s m args below meth c H locs cells slots Z (F0 m pc ls (.ref (p_rho b o v) :: .int i :: .ref (p_rho b o a) :: rest)) := by
  obtain ⟨hx, hb, hml, hown, hts, hal, -⟩ := id C
  have hlt : i.toNatClampNeg < n := Nat.not_le.mp fun q => hin (Or.inr q)
  have h0 : ¬ i < 0 := fun q => hin (Or.inl q)
  obtain ⟨-, ha, cA, h1, h2, h3⟩ := (hr.2.2 _ _ hg).2
  obtain ⟨cellV, g1, g2, g3⟩ := p_recv G C (hr.2.2 _ _ hv).2
  have hRA := h3.moved hal
  obtain ⟨kA, comp, k1, k2, k3, -⟩ := hRA
  obtain ⟨kE, hkE, -⟩ := Vm.findClass_spec k3
  obtain ⟨c0, t1, f1, f2, f3⟩ := (G.2.2.2.2 ci hbt).moved hal
  cases g3.symm.trans f1
  cases k3.symm.trans f2
  obtain ⟨kC, hkC, -⟩ := Vm.findClass_spec g3
  refine W.aast hx hb h1 (fun q h => by cases h) (fun h => by cases h) k1 k2 rfl hkE ⟨h0, by show _ < (arrV _ _ _).slots.size; rw [arrV_size]; exact hlt⟩ g1 (fun q h => by rw [h] at g2; cases g2) hkC f3 rfl rfl hdg fun H1 e1 z oq => ?_
  refine kk H1 _ (hr.set G.1 hg z oq ⟨rfl, ha, cA, ?_, h2, h3⟩) (p_lo1 ha hlo)
  rw [e1, arrV_store]
  congr 2
  funext q
  by_cases hq : q = i.toNatClampNeg
  · subst hq
    simp [updV, va_up, va_rf]
  · simp [updV, va_up, hq]
theorem p_news (G : p_G S0 b o D) (C : p_C S0 y p R s m args meth c) {idx ci : Nat} {st : List Value} (hr : p_rel S0 b o D h H) (hn : p_lu nT y idx = some ci) (hc : cells + 1 ≤ R.cells) (hs : slots + (p_df ci).length ≤ R.slots) (hdg : decode (p_c y) pc = .ok (.new idx, 3))
    (kk : ∀ H1 : Heap, p_rel S0 b o D (p_new h (.inr (ci, p_df ci)) (p_df ci).length) H1 → W p l e R s m args below meth c H1 locs (cells + 1) (slots + (p_df ci).length) Z (F0 m (pc + 3) ls (.ref (p_rho b o h.1) :: st))) : W p l e R s m args below meth c H locs cells slots Z (F0 m pc ls st) := by
  obtain ⟨hx, hb, hml, hown, hts, hal, -⟩ := id C
  obtain ⟨hin, hq1, hq2⟩ := p_lu_in hn
  obtain ⟨t, ht⟩ := nT_in _ hin
  unfold p_no at ht
  dsimp only at ht
  rw [hq1, hq2] at ht
  simp only [Bool.and_eq_true, decide_eq_true_eq] at ht
  obtain ⟨ht1, ht2⟩ := ht
  have hci : ci < vwCl.length := ht1
  obtain ⟨q, hq⟩ : ∃ q, vwCl[ci]? = some q := ⟨_, List.getElem?_eq_getElem hci⟩
  obtain ⟨c1, c2, c3, ⟨ty, hty, hdf⟩, hnm, hlen, hcn⟩ := p_cls ci q hq
  rw [hlen] at hs kk
  rw [hcn] at ht2
  have hK := p_KK G C
  have hKn := hK.1 ci _ hq
  have hsz := hr.addr
  refine W.newcK hx hb hown (hts _ (p_wT ht2)) (hts _ c2) (hts _ c3) rfl hdg hc hs hKn.2.1 rfl fun H1 kC hkC e1 z1 o1 => ?_
  rw [← hsz] at e1
  have := kk H1 (hr.new G.1 z1 o1 ⟨q, hq, ?_, by rw [hlen], hr.2.1⟩)
  · rw [hsz] at this
    exact this
  · refine (u_born ty hts c1 hKn hkC e1 hty).to (fun j hj => ?_)
    rw [hdf j hj]
    unfold vp_V
    rw [List.getD_eq_getElem?_getD, List.getD_eq_getElem?_getD, List.getElem?_map]
    have hj2 : j < (p_df ci).length := by rw [hlen]; exact hj
    rw [List.getElem?_eq_getElem hj2]
    show (p_df ci)[j] = p_tr b o (p_df ci)[j]
    have hnr : ∀ v ∈ p_df ci, p_tr b o v = v := by
      intro v hv
      have hall : ∀ cj, cj < 13 → ∀ v ∈ p_df cj, (match v with | .ref _ => false | _ => true) = true := by decide +kernel
      have h1 := hall ci hci v hv
      cases v <;> first | rfl | cases h1
    exact (hnr _ (List.getElem_mem hj2)).symm
theorem p_newas (G : p_G S0 b o D) (C : p_C S0 y p R s m args meth c) {t : ArrayType} {ty : FieldType} {n : Int32} {st : List Value} {a0 : pE} (hr : p_rel S0 b o D h H) (hty : newarray.typeOf t = ty) (hin : Cond.arrayClass ty ∈ pT) (hbt : componentBytes ty ≤ 8) (hn : ¬ (n < 0 ∨ 100000 < n.toNatClampNeg)) (hat : ∀ (cA : ClassId) (H1 : Heap), H1[p_rho b o h.1]? = some (arrV cA n.toNatClampNeg (fun _ => defaultValue ty)) → ArrOfT S0 cA ty → p_at S0 b o D h.1 a0 H1) (hc : cells + 1 ≤ R.cells) (hs : slots + n.toNatClampNeg ≤ R.slots) (hdg : decode (p_c y) pc = .ok (.newarray t, 2))
    (kk : ∀ H1 : Heap, p_rel S0 b o D (p_new h a0 n.toNatClampNeg) H1 → W p l e R s m args below meth c H1 locs (cells + 1) (slots + n.toNatClampNeg) Z (F0 m (pc + 2) ls (.ref (p_rho b o h.1) :: st))) : W p l e R s m args below meth c H locs cells slots Z (F0 m pc ls (.int n :: st)) := by
  subst hty
  obtain ⟨hx, hb, hml, hown, hts, hal, -⟩ := id C
  have hsz := hr.addr
  have hbytes : n.toNatClampNeg * componentBytes (newarray.typeOf t) ≤ 536870912 := by
    have : n.toNatClampNeg * componentBytes (newarray.typeOf t) ≤ 100000 * 8 := Nat.mul_le_mul (by omega) hbt
    omega
  refine va_newaK hx hb (hts _ hin) rfl hdg rfl (fun q => hn (Or.inl q)) rfl hbytes hc hs hsz.symm fun H1 cA e1 z1 o1 hAr hNm => ?_
  exact kk H1 (hr.new G.1 (by rw [z1, hsz]) (fun q hq => o1 q (by rw [hsz]; exact hq)) (hat cA H1 e1 (arrOfT_moved hal.symm hAr)))
theorem p_newqs (G : p_G S0 b o D) (C : p_C S0 y p R s m args meth c) {idx : Nat} {n : Int32} {st : List Value} (hr : p_rel S0 b o D h H) (hl : p_lu nT y idx = some 1) (hn : ¬ (n < 0 ∨ 100000 < n.toNatClampNeg)) (hc : cells + 1 ≤ R.cells) (hs : slots + n.toNatClampNeg ≤ R.slots) (hdg : decode (p_c y) pc = .ok (.anewarray idx, 3))
    (kk : ∀ H1 : Heap, p_rel S0 b o D (p_new h (.inl (3, n.toNatClampNeg, .inr (.inr (fun _ => none)))) n.toNatClampNeg) H1 → W p l e R s m args below meth c H1 locs (cells + 1) (slots + n.toNatClampNeg) Z (F0 m (pc + 3) ls (.ref (p_rho b o h.1) :: st))) : W p l e R s m args below meth c H locs cells slots Z (F0 m pc ls (.int n :: st)) := by
  obtain ⟨hx, hb, hml, hown, hts, hal, -⟩ := id C
  obtain ⟨hin, hq1, hq2⟩ := p_lu_in hl
  obtain ⟨t, ht⟩ := nT_in _ hin
  unfold p_no at ht
  dsimp only at ht
  rw [hq1, hq2] at ht
  simp only [Bool.and_eq_true, decide_eq_true_eq] at ht
  have hsz := hr.addr
  refine W.anew hx hb hown (hts _ (p_wT ht.2)) (va_AO.use (G.2.2.1.moved hal)) rfl hdg rfl (fun q => hn (Or.inl q)) (by omega) hc hs fun cA kA comp f1 f2 f3 f4 => ?_
  generalize hH1 : H.push ({ cls := cA, slots := Array.replicate n.toNatClampNeg .null, vm := .none } : Cell) = H1
  have z1 : H1.size = H.size + 1 := by rw [← hH1, Array.size_push]
  have e1 : H1[H.size]? = some (arrV cA n.toNatClampNeg (fun _ => .null)) := by rw [← hH1, Array.getElem?_push_size, ← arrV_new]
  have o1 : ∀ q : Nat, q < H.size → H1[q]? = H[q]? := fun q hq => by rw [← hH1, Array.getElem?_push, if_neg (Nat.ne_of_lt hq)]
  have hAr : ArrOfT s cA (.object "WaterShoulders$Boat") := fun N z => ⟨(fun k h => by cases h), kA, f2, comp, f3⟩
  have hRA : va_RA s cA (.object "WaterShoulders$Boat") := ⟨kA, comp, f2, f3, f4, f1⟩
  rw [← hsz] at e1
  have := kk H1 (hr.new G.1 z1 o1 ⟨rfl, hr.2.1, cA, e1, arrOfT_moved hal.symm hAr, hRA.moved hal.symm⟩)
  rw [hsz] at this
  exact this
theorem p_insts (G : p_G S0 b o D) (C : p_C S0 y p R s m args meth c) {idx t ci a : Nat} {fs st : List Value} (hl : p_lu nT y idx = some t) (he : p_at S0 b o D a (.inr (ci, fs)) H) (hbt : p_bt ci = true) (ht0 : (t == 0 || t == 2 || t == 7 || t == 10) = true) (hdg : decode (p_c y) pc = .ok (.instanceof idx, 3))
    (kk : W p l e R s m args below meth c H locs cells slots Z (F0 m (pc + 3) ls (.int (if p_is ci t then 1 else 0) :: st))) : W p l e R s m args below meth c H locs cells slots Z (F0 m pc ls (.ref (p_rho b o a) :: st)) := by
  obtain ⟨hx, hb, hml, hown, hts, hal, -⟩ := id C
  obtain ⟨hin, hq1, hq2⟩ := p_lu_in hl
  obtain ⟨t1, ht⟩ := nT_in _ hin
  unfold p_no at ht
  dsimp only at ht
  rw [hq1, hq2] at ht
  simp only [Bool.and_eq_true, decide_eq_true_eq] at ht
  have hrv := p_recv G C he
  obtain ⟨g1, g2⟩ := G.2.2.2.1 ci t hbt ht0
  cases hi : p_is ci t with
  | true =>
    rw [hi] at kk
    obtain ⟨cell, h1, h2, h3⟩ := hrv
    obtain ⟨c0, t0, f1, f2, f3⟩ := (g1 hi).moved hal
    cases h3.symm.trans f1
    intro T hT X
    obtain ⟨vm', X', st'⟩ := X.instanceofYes hx hown (hts _ (p_wT ht.2)) (by rw [hT]; exact h1) h2 f2 f3 (g := F0 m pc ls (.ref (p_rho b o a) :: st)) rfl rfl (by rw [hb]; exact hdg)
    obtain ⟨t, a1, b1⟩ := kk (T.setVm vm') hT X'
    exact ⟨t, st' t a1, b1⟩
  | false =>
    rw [hi] at kk
    exact va_instNo hx hb hown (hts _ (p_wT ht.2)) ((g2 hi).moved hal) hrv hdg kk
theorem p_nn (z : Int32) (hz : ¬ z < 0) : z.toInt = (z.toNatClampNeg : Int) := by
  have hz0 : (0 : Int) ≤ z.toInt := by
    have := Int32.not_lt.mp hz
    simpa using Int32.le_iff_toInt_le.mp this
  show z.toInt = ((z.toInt.toNat : Nat) : Int)
  omega
theorem p_copyi (G : p_G S0 b o D) (C : p_C S0 y p R s m args meth c) {idx a a2 n0 n1 : Nat} {f g : Nat → Int32} {sp dp n : Int32} {rest : List Value} (hi : idx < 1000) (hl : aT.contains (p_o y * 1000 + idx) = true) (hr : p_rel S0 b o D h H) (hlo : ∀ q ∈ locs, o < q.base) (hga : p_get h a = some (.inl (0, n0, .inl f))) (hgb : p_get h a2 = some (.inl (0, n1, .inl g)))
    (h1 : ¬ sp < 0) (h2 : ¬ dp < 0) (h3 : ¬ n < 0) (h4 : sp.toNatClampNeg + n.toNatClampNeg ≤ n0) (h5 : dp.toNatClampNeg + n.toNatClampNeg ≤ n1) (hw : (rest.map fun v => v.category).sum ≤ 8) (hfr : 1 ≤ p_dep y) (hwd : 40 ≤ p_wds y) (hls : ls.size = p_x y) (hdg : decode (p_c y) pc = .ok (.invokestatic idx, 3))
    (kk : ∀ (H1 : Heap) (locs1 : List Loc), p_rel S0 b o D (p_set h a2 (.inl (0, n1, .inl (va_cpy f g sp.toNatClampNeg dp.toNatClampNeg n.toNatClampNeg)))) H1 → (∀ q ∈ locs1, o < q.base) → W p l e R s m args below meth c H1 locs1 cells slots Z (F0 m (pc + 3) ls rest)) : W p l e R s m args below meth c H locs cells slots Z (F0 m pc ls (.int n :: .int dp :: .ref (p_rho b o a2) :: .int sp :: .ref (p_rho b o a) :: rest)) := by
  obtain ⟨hx, hb, hml, hown, hts, hal, hR1, hR2, -⟩ := id C
  obtain ⟨t, ht⟩ := aT_in _ (by simpa using hl)
  unfold p_ao at ht
  rw [show (p_o y * 1000 + idx) / 1000 = p_o y by omega, show (p_o y * 1000 + idx) % 1000 = idx by omega] at ht
  rcases (hr.2.2 _ _ hga).2 with ⟨h0, -⟩ | ⟨-, ha, c0, hc0, hA0⟩ | ⟨h0, -⟩
  · cases h0
  · rcases (hr.2.2 _ _ hgb).2 with ⟨h0, -⟩ | ⟨-, hb2, c1, hc1, hA1⟩ | ⟨h0, -⟩
    · cases h0
    · intro T hT X
      obtain ⟨-, k0, hk0, cm0, hkk0⟩ := State.isArrayOf_alike hal (hA0 n0 (fun j => .int (f j)))
      obtain ⟨-, k1, hk1, cm1, hkk1⟩ := State.isArrayOf_alike hal (hA1 n1 (fun j => .int (g j)))
      obtain ⟨vm', X', step⟩ := X.arraycopy hx hown (hts _ (p_wT ht)) (hts _ j_an) (hts _ j_as) (hts _ j_ai) (src := p_rho b o a) (dst := p_rho b o a2) (cs := arrV c0 n0 (fun j => .int (f j))) (cd := arrV c1 n1 (fun j => .int (g j))) (srcPos := sp) (destPos := dp) (n := n) (by rw [hT]; exact hc0) (by rw [hT]; exact hc1)
        (fun _ h => by cases h) (fun _ h => by cases h) (fun h => by cases h) (fun h => by cases h) hk0 hk1 hkk0 hkk1 (by simp [refKind]) h1 h2 h3
        (by rw [p_nn sp h1, p_nn n h3, arrV_size]; omega)
        (by rw [p_nn dp h2, p_nn n h3, arrV_size]; omega)
        (fun vm₁ _ i hi => by
          have e : (arrV c0 n0 (fun j => .int (f j))).slots.getD (sp.toNatClampNeg + i) .null = .int (f (sp.toNatClampNeg + i)) := by
            rw [Array.getD_eq_getD_getElem?, arrV_read _ _ (by omega)]
            rfl
          refine ⟨?_, ?_⟩
          · rw [e]
            rfl
          · rw [e]
            exact trivial)
        (g := F0 m pc ls (.int n :: .int dp :: .ref (p_rho b o a2) :: .int sp :: .ref (p_rho b o a) :: rest)) rfl (by rw [hml]; exact hls) (rest := rest) rfl (by rw [hb]; exact hdg) (by rw [hR1]; exact hfr) (by show 2 * 0 + _ + _ ≤ _; rw [hR2]; simp only [nativeFrameWords]; simp; omega)
      have e1 : copied (arrV c0 n0 (fun j => .int (f j))) (arrV c1 n1 (fun j => .int (g j))) sp dp n = arrV c1 n1 (fun j => .int (va_cpy f g sp.toNatClampNeg dp.toNatClampNeg n.toNatClampNeg j)) := va_copied (fun z => .int z) c0 c1 f g h4
      rw [e1] at X' step
      have hl2 : p_rho b o a2 < H.size := (Array.getElem?_eq_some_iff.mp hc1).1
      have hheap : ((T.setVm vm').setCell (p_rho b o a2) (arrV c1 n1 (fun j => .int (va_cpy f g sp.toNatClampNeg dp.toNatClampNeg n.toNatClampNeg j)))).heap = H.setIfInBounds (p_rho b o a2) (arrV c1 n1 (fun j => .int (va_cpy f g sp.toNatClampNeg dp.toNatClampNeg n.toNatClampNeg j))) := by rw [← hT]; rfl
      have oq : ∀ q : Nat, q ≠ p_rho b o a2 → (H.setIfInBounds (p_rho b o a2) (arrV c1 n1 (fun j => .int (va_cpy f g sp.toNatClampNeg dp.toNatClampNeg n.toNatClampNeg j))))[q]? = H[q]? := fun q hq => by simp [Array.getElem?_setIfInBounds, Ne.symm hq]
      obtain ⟨t, a1, b1⟩ := kk _ _ (hr.set G.1 hgb (by simp) oq (Or.inr (Or.inl ⟨rfl, hb2, c1, by simp [Array.getElem?_setIfInBounds, hl2], hA1⟩))) (fun q hq => by
        rcases List.mem_append.mp hq with h | h
        · exact hlo q h
        · obtain ⟨z, -, hz⟩ := List.mem_map.mp h
          rw [← hz]
          show o < p_rho b o a2
          rw [p_rho_pos hb2]
          omega) _ hheap X'
      exact ⟨t, step t a1, b1⟩
    · cases h0
  · cases h0
theorem p_copyl (G : p_G S0 b o D) (C : p_C S0 y p R s m args meth c) {idx a a2 n0 n1 : Nat} {f g : Nat → Int64} {sp dp n : Int32} {rest : List Value} (hi : idx < 1000) (hl : aT.contains (p_o y * 1000 + idx) = true) (hr : p_rel S0 b o D h H) (hlo : ∀ q ∈ locs, o < q.base) (hga : p_get h a = some (.inl (2, n0, .inr (.inl f)))) (hgb : p_get h a2 = some (.inl (2, n1, .inr (.inl g))))
    (h1 : ¬ sp < 0) (h2 : ¬ dp < 0) (h3 : ¬ n < 0) (h4 : sp.toNatClampNeg + n.toNatClampNeg ≤ n0) (h5 : dp.toNatClampNeg + n.toNatClampNeg ≤ n1) (hw : (rest.map fun v => v.category).sum ≤ 8) (hfr : 1 ≤ p_dep y) (hwd : 40 ≤ p_wds y) (hls : ls.size = p_x y) (hdg : decode (p_c y) pc = .ok (.invokestatic idx, 3))
    (kk : ∀ (H1 : Heap) (locs1 : List Loc), p_rel S0 b o D (p_set h a2 (.inl (2, n1, .inr (.inl (va_cpy f g sp.toNatClampNeg dp.toNatClampNeg n.toNatClampNeg))))) H1 → (∀ q ∈ locs1, o < q.base) → W p l e R s m args below meth c H1 locs1 cells slots Z (F0 m (pc + 3) ls rest)) : W p l e R s m args below meth c H locs cells slots Z (F0 m pc ls (.int n :: .int dp :: .ref (p_rho b o a2) :: .int sp :: .ref (p_rho b o a) :: rest)) := by
  obtain ⟨hx, hb, hml, hown, hts, hal, hR1, hR2, -⟩ := id C
  obtain ⟨t, ht⟩ := aT_in _ (by simpa using hl)
  unfold p_ao at ht
  rw [show (p_o y * 1000 + idx) / 1000 = p_o y by omega, show (p_o y * 1000 + idx) % 1000 = idx by omega] at ht
  obtain ⟨-, ha, c0, hc0, hA0⟩ := (hr.2.2 _ _ hga).2
  obtain ⟨-, hb2, c1, hc1, hA1⟩ := (hr.2.2 _ _ hgb).2
  intro T hT X
  obtain ⟨-, k0, hk0, cm0, hkk0⟩ := State.isArrayOf_alike hal (hA0 n0 (fun j => .long (f j)))
  obtain ⟨-, k1, hk1, cm1, hkk1⟩ := State.isArrayOf_alike hal (hA1 n1 (fun j => .long (g j)))
  obtain ⟨vm', X', step⟩ := X.arraycopy hx hown (hts _ (p_wT ht)) (hts _ j_an) (hts _ j_as) (hts _ j_ai) (src := p_rho b o a) (dst := p_rho b o a2) (cs := arrV c0 n0 (fun j => .long (f j))) (cd := arrV c1 n1 (fun j => .long (g j))) (srcPos := sp) (destPos := dp) (n := n) (by rw [hT]; exact hc0) (by rw [hT]; exact hc1)
    (fun _ h => by cases h) (fun _ h => by cases h) (fun h => by cases h) (fun h => by cases h) hk0 hk1 hkk0 hkk1 (by simp [refKind]) h1 h2 h3
    (by rw [p_nn sp h1, p_nn n h3, arrV_size]; omega)
    (by rw [p_nn dp h2, p_nn n h3, arrV_size]; omega)
    (fun vm₁ _ i hi => by
      have e : (arrV c0 n0 (fun j => .long (f j))).slots.getD (sp.toNatClampNeg + i) .null = .long (f (sp.toNatClampNeg + i)) := by
        rw [Array.getD_eq_getD_getElem?, arrV_read _ _ (by omega)]
        rfl
      refine ⟨?_, ?_⟩
      · rw [e]
        rfl
      · rw [e]
        exact trivial)
    (g := F0 m pc ls (.int n :: .int dp :: .ref (p_rho b o a2) :: .int sp :: .ref (p_rho b o a) :: rest)) rfl (by rw [hml]; exact hls) (rest := rest) rfl (by rw [hb]; exact hdg) (by rw [hR1]; exact hfr) (by show 2 * 0 + _ + _ ≤ _; rw [hR2]; simp only [nativeFrameWords]; simp; omega)
  have e1 : copied (arrV c0 n0 (fun j => .long (f j))) (arrV c1 n1 (fun j => .long (g j))) sp dp n = arrV c1 n1 (fun j => .long (va_cpy f g sp.toNatClampNeg dp.toNatClampNeg n.toNatClampNeg j)) := va_copied (fun z => .long z) c0 c1 f g h4
  rw [e1] at X' step
  have hl2 : p_rho b o a2 < H.size := (Array.getElem?_eq_some_iff.mp hc1).1
  have hheap : ((T.setVm vm').setCell (p_rho b o a2) (arrV c1 n1 (fun j => .long (va_cpy f g sp.toNatClampNeg dp.toNatClampNeg n.toNatClampNeg j)))).heap = H.setIfInBounds (p_rho b o a2) (arrV c1 n1 (fun j => .long (va_cpy f g sp.toNatClampNeg dp.toNatClampNeg n.toNatClampNeg j))) := by rw [← hT]; rfl
  have oq : ∀ q : Nat, q ≠ p_rho b o a2 → (H.setIfInBounds (p_rho b o a2) (arrV c1 n1 (fun j => .long (va_cpy f g sp.toNatClampNeg dp.toNatClampNeg n.toNatClampNeg j))))[q]? = H[q]? := fun q hq => by simp [Array.getElem?_setIfInBounds, Ne.symm hq]
  obtain ⟨t, a1, b1⟩ := kk _ _ (hr.set G.1 hgb (by simp) oq ⟨rfl, hb2, c1, by simp [Array.getElem?_setIfInBounds, hl2], hA1⟩) (fun q hq => by
    rcases List.mem_append.mp hq with h | h
    · exact hlo q h
    · obtain ⟨z, -, hz⟩ := List.mem_map.mp h
      rw [← hz]
      show o < p_rho b o a2
      rw [p_rho_pos hb2]
      omega) _ hheap X'
  exact ⟨t, step t a1, b1⟩
end AR
