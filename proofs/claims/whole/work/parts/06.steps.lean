/-! each instruction of the pure machine is one of the real one -/
def p_C (S0 : State) (y : Nat) (p : Program) (R : Room) (s : State) (m : MethodId) (args : Array Value) (meth : Method) (c : Code) : Prop :=
  p.tables.exec = Jvm.exec ∧ c.code = p_c y ∧ c.maxLocals = p_x y ∧ s.vm.findClass (p_on1 (p_o y)) = some m.cls ∧ (∀ w ∈ pT, w.before args s = true) ∧ S0.vm.Alike s.vm ∧ R.frames = p_dep y ∧ R.locals = p_wds y ∧ ((p_y y).name = "<init>" → meth.name = "<init>")
def p_K (S0 : State) (b o : Nat) (D : va_G) (p : Program) (l : Launch) (e : Env) (R : Room) (s : State) (m : MethodId) (args : Array Value) (below : List Frame) (meth : Method) (c : Code) (Z : State → Prop) (hi : pH) (y pc : Nat) (L : pL) (st : List Value) (h : pH) : Prop :=
  ∀ (ls : Array Slot) (locs : List Loc) (H : Heap), p_lr b o (p_x y) ls L → p_rel S0 b o D h H → (∀ q ∈ locs, o < q.base) → W p l e R s m args below meth c H locs (h.1 - hi.1) (h.2.1 - hi.2.1) Z (F0 m pc ls (st.map (p_tr b o)))
theorem p_st_mono {y pc pc1 : Nat} {I : Instr} {L L1 : pL} {st st1 : List Value} {h h1 : pH} (hs : p_st y I pc L st h = some (.inl (pc1, L1, st1, h1))) : h.1 ≤ h1.1 ∧ h.2.1 ≤ h1.2.1 := by
  cases I <;> simp only [p_st, p_nx, p_li, p_ll, p_la, p_si, p_sl, p_sa, p_ii, p_id, p_jj, p_jd, p_js, p_ic, p_if, p_br, p_tg, p_gf, p_pf, p_ial, p_bal, p_lal, p_aal, p_ias, p_bas, p_las, p_aas, p_len, p_na, p_nq, p_nw, p_io, p_iv, p_is1, p_iq, p_cl, p_mm, p_ac, p_rv, reduceCtorEq] at hs
  all_goals (repeat' split at hs)
  all_goals (first | (cases hs; done) | (cases hs; exact ⟨Nat.le_refl _, Nat.le_refl _⟩) | (cases hs; exact ⟨Nat.le_succ _, Nat.le_add_right _ _⟩) | skip)
