section ST
variable {p : Program} {l : Launch} {e : Env} {R : Room} {s : State} {m : MethodId} {args : Array Value} {below : List Frame} {meth : Method} {c : Code} {Z : State → Prop} {S0 : State} {b o : Nat} {D : va_G} {hi : pH} {y pc pc1 : Nat} {L L1 : pL} {st st1 : List Value} {h h1 : pH}
theorem p_tgt {pc : Nat} {off : Int} (h0 : 0 ≤ (pc : Int) + off) : (pc : Int) + off = ((((pc : Int) + off).toNat : Nat) : Int) := by omega
theorem p_brs (cnd : Bool) {off : Int} (hs : p_br cnd pc off L st h = some (.inl (pc1, L1, st1, h1))) : L1 = L ∧ st1 = st ∧ h1 = h ∧ ∃ tgt : Nat, (pc : Int) + off = (tgt : Int) ∧ ((cnd = true ∧ pc1 = tgt) ∨ (cnd = false ∧ pc1 = pc + 3)) := by
  unfold p_br p_nx at hs
  split at hs
  · rename_i h0
    cases cnd with
    | true =>
      cases hs
      exact ⟨rfl, rfl, rfl, _, p_tgt h0, Or.inl ⟨rfl, rfl⟩⟩
    | false =>
      cases hs
      exact ⟨rfl, rfl, rfl, _, p_tgt h0, Or.inr ⟨rfl, rfl⟩⟩
  · cases hs
theorem p_tgs {off : Int} (hs : p_tg pc off L st h = some (.inl (pc1, L1, st1, h1))) : L1 = L ∧ st1 = st ∧ h1 = h ∧ (pc : Int) + off = (pc1 : Int) := by
  unfold p_tg p_nx at hs
  split at hs
  · rename_i h0
    cases hs
    exact ⟨rfl, rfl, rfl, p_tgt h0⟩
  · cases hs
set_option maxHeartbeats 4000000 in
set_option maxRecDepth 20000 in
theorem p_step (G : p_G S0 b o D) (C : p_C S0 y p R s m args meth c) {I : Instr} {k : Nat} (hd : decode (p_c y) pc = .ok (I, k)) (hk : p_ck I k = true) (hs : p_st y I pc L st h = some (.inl (pc1, L1, st1, h1))) (h01 : hi.1 ≤ h.1) (h02 : hi.2.1 ≤ h.2.1) (hR1 : h1.1 - hi.1 ≤ R.cells) (hR2 : h1.2.1 - hi.2.1 ≤ R.slots)
    (K : p_K S0 b o D p l e R s m args below meth c Z hi y pc1 L1 st1 h1) : p_K S0 b o D p l e R s m args below meth c Z hi y pc L st h := by
  obtain ⟨hx, hb, hml, hown, hts, hal, hF1, hF2, -⟩ := id C
  intro ls locs H hl hr hlo
  have hlen := hl.1
  cases I
  case iconst i =>
    have hk : k = 1 := by simpa [p_ck] using hk
    subst hk; cases hs
    exact lv_iconst hx hb hd rfl (K ls locs H hl hr hlo)
  case bipush i =>
    have hk : k = 2 := by simpa [p_ck] using hk
    subst hk; cases hs
    exact lv_bipush hx hb hd rfl (K ls locs H hl hr hlo)
  case sipush i =>
    have hk : k = 3 := by simpa [p_ck] using hk
    subst hk; cases hs
    exact lv_sipush hx hb hd rfl (K ls locs H hl hr hlo)
  case lconst i =>
    have hk : k = 1 := by simpa [p_ck] using hk
    subst hk; cases hs
    exact lv_lconst hx hb hd rfl (K ls locs H hl hr hlo)
  case aconst_null =>
    have hk : k = 1 := by simpa [p_ck] using hk
    subst hk; cases hs
    exact lv_null hx hb hd (K ls locs H hl hr hlo)
  case ldc idx =>
    have hk : k = 2 := by simpa [p_ck] using hk
    subst hk
    simp only [p_st, p_nx] at hs
    split at hs
    · rename_i v hv
      cases hs
      obtain ⟨hin, hq1, hq2⟩ := p_lu_in hv
      obtain ⟨t, ht⟩ := kT_in _ hin
      unfold p_ko at ht
      dsimp only at ht
      rw [hq1, hq2] at ht
      exact lv_ldc hx hb hown (hts _ (p_wT ht)) hd (K ls locs H hl hr hlo)
    · cases hs
  case ldc2_w idx =>
    have hk : k = 3 := by simpa [p_ck] using hk
    subst hk
    simp only [p_st, p_nx] at hs
    split at hs
    · rename_i v hv
      cases hs
      obtain ⟨hin, hq1, hq2⟩ := p_lu_in hv
      obtain ⟨t, ht⟩ := lT_in _ hin
      unfold p_lo at ht
      dsimp only at ht
      rw [hq1, hq2] at ht
      exact lv_ldc2 hx hb hown (hts _ (p_wT ht)) hd (K ls locs H hl hr hlo)
    · cases hs
  case iload i =>
    have hk : k = 2 := by simpa [p_ck] using hk
    subst hk
    simp only [p_st, p_li, p_nx] at hs
    split at hs
    · rename_i x hg
      cases hs
      exact lv_iload hx hb hd (hl.at hg) (K ls locs H hl hr hlo)
    · cases hs
  case iload_n i =>
    have hk : k = 1 := by simpa [p_ck] using hk
    subst hk
    simp only [p_st, p_li, p_nx] at hs
    split at hs
    · rename_i x hg
      cases hs
      exact lv_iload_n hx hb hd rfl (hl.at hg) (K ls locs H hl hr hlo)
    · cases hs
  case lload i =>
    have hk : k = 2 := by simpa [p_ck] using hk
    subst hk
    simp only [p_st, p_ll, p_nx] at hs
    split at hs
    · rename_i x hg
      cases hs
      exact lv_lload hx hb hd (hl.at hg) (K ls locs H hl hr hlo)
    · cases hs
  case lload_n i =>
    have hk : k = 1 := by simpa [p_ck] using hk
    subst hk
    simp only [p_st, p_ll, p_nx] at hs
    split at hs
    · rename_i x hg
      cases hs
      exact lv_lload_n hx hb hd rfl (hl.at hg) (K ls locs H hl hr hlo)
    · cases hs
  case aload i =>
    have hk : k = 2 := by simpa [p_ck] using hk
    subst hk
    simp only [p_st, p_la, p_nx] at hs
    split at hs
    · rename_i x hg
      cases hs
      exact lv_aload hx hb hd (hl.at hg) (K ls locs H hl hr hlo)
    · rename_i hg
      cases hs
      exact lv_aloadN hx hb hd (hl.at hg) (K ls locs H hl hr hlo)
    · cases hs
  case aload_n i =>
    have hk : k = 1 := by simpa [p_ck] using hk
    subst hk
    simp only [p_st, p_la, p_nx] at hs
    split at hs
    · rename_i x hg
      cases hs
      exact lv_aload_n hx hb hd rfl (hl.at hg) (K ls locs H hl hr hlo)
    · rename_i hg
      cases hs
      exact lv_aload_nN hx hb hd rfl (hl.at hg) (K ls locs H hl hr hlo)
    · cases hs
  case istore i =>
    have hk : k = 2 := by simpa [p_ck] using hk
    subst hk
    simp only [p_st, p_si, p_nx] at hs
    split at hs
    · rename_i x r
      split at hs
      · rename_i hi2
        cases hs
        exact lv_istore hx hb hd hl.has (by omega) rfl (fun ls2 h2 => K ls2 locs H (hl.s1 (v := .int x) h2) hr hlo)
      · cases hs
    · cases hs
  case istore_n i =>
    have hk : k = 1 := by simpa [p_ck] using hk
    subst hk
    simp only [p_st, p_si, p_nx] at hs
    split at hs
    · rename_i x r
      split at hs
      · rename_i hi2
        cases hs
        exact lv_istore_n hx hb hd rfl hl.has (by omega) rfl (fun ls2 h2 => K ls2 locs H (hl.s1 (v := .int x) h2) hr hlo)
      · cases hs
    · cases hs
  case lstore i =>
    have hk : k = 2 := by simpa [p_ck] using hk
    subst hk
    simp only [p_st, p_sl, p_nx] at hs
    split at hs
    · rename_i x r
      split at hs
      · rename_i hi2
        cases hs
        exact lv_lstore hx hb hd hl.has (by omega) rfl (fun ls2 h2 => K ls2 locs H (hl.s2 (v := .long x) h2) hr hlo)
      · cases hs
    · cases hs
  case lstore_n i =>
    have hk : k = 1 := by simpa [p_ck] using hk
    subst hk
    simp only [p_st, p_sl, p_nx] at hs
    split at hs
    · rename_i x r
      split at hs
      · rename_i hi2
        cases hs
        exact lv_lstore_n hx hb hd rfl hl.has (by omega) rfl (fun ls2 h2 => K ls2 locs H (hl.s2 (v := .long x) h2) hr hlo)
      · cases hs
    · cases hs
  case astore i =>
    have hk : k = 2 := by simpa [p_ck] using hk
    subst hk
    simp only [p_st, p_sa, p_nx] at hs
    split at hs
    · rename_i x r
      split at hs
      · rename_i hi2
        cases hs
        exact lv_astore hx hb hd hl.has (by omega) rfl (fun ls2 h2 => K ls2 locs H (hl.s1 (v := .ref x) h2) hr hlo)
      · cases hs
    · rename_i r
      split at hs
      · rename_i hi2
        cases hs
        exact lv_astoreN hx hb hd hl.has (by omega) rfl (fun ls2 h2 => K ls2 locs H (hl.s1 (v := .null) h2) hr hlo)
      · cases hs
    · cases hs
  case astore_n i =>
    have hk : k = 1 := by simpa [p_ck] using hk
    subst hk
    simp only [p_st, p_sa, p_nx] at hs
    split at hs
    · rename_i x r
      split at hs
      · rename_i hi2
        cases hs
        exact lv_astore_n hx hb hd rfl hl.has (by omega) rfl (fun ls2 h2 => K ls2 locs H (hl.s1 (v := .ref x) h2) hr hlo)
      · cases hs
    · rename_i r
      split at hs
      · rename_i hi2
        cases hs
        exact lv_astore_nN hx hb hd rfl hl.has (by omega) rfl (fun ls2 h2 => K ls2 locs H (hl.s1 (v := .null) h2) hr hlo)
      · cases hs
    · cases hs
  case iinc i n =>
    have hk : k = 3 := by simpa [p_ck] using hk
    subst hk
    simp only [p_st, p_nx] at hs
    split at hs
    · rename_i x hg
      split at hs
      · rename_i hi2
        cases hs
        obtain ⟨j, hj⟩ := List.getElem?_of_mem (p_ll1_mem.mpr ⟨_, p_lg_some.mp hg, rfl⟩ : (i, p_tr b o (.int x)) ∈ p_ll1 b o L)
        exact lv_iinc hx hb hd hl.has hj rfl (by omega) rfl (fun ls2 h2 => K ls2 locs H (hl.s1 (v := .int (x + Int32.ofInt n)) h2) hr hlo)
      · cases hs
    · cases hs
  case iadd =>
    have hk : k = 1 := by simpa [p_ck] using hk
    subst hk
    simp only [p_st, p_ii, p_nx] at hs
    split at hs
    · cases hs; exact lv_iadd hx hb hd (K ls locs H hl hr hlo)
    · cases hs
  case isub =>
    have hk : k = 1 := by simpa [p_ck] using hk
    subst hk
    simp only [p_st, p_ii, p_nx] at hs
    split at hs
    · cases hs; exact lv_isub hx hb hd (K ls locs H hl hr hlo)
    · cases hs
  case imul =>
    have hk : k = 1 := by simpa [p_ck] using hk
    subst hk
    simp only [p_st, p_ii, p_nx] at hs
    split at hs
    · cases hs; exact lv_imul hx hb hd (K ls locs H hl hr hlo)
    · cases hs
  case iand =>
    have hk : k = 1 := by simpa [p_ck] using hk
    subst hk
    simp only [p_st, p_ii, p_nx] at hs
    split at hs
    · cases hs; exact lv_iand hx hb hd (K ls locs H hl hr hlo)
    · cases hs
  case ior =>
    have hk : k = 1 := by simpa [p_ck] using hk
    subst hk
    simp only [p_st, p_ii, p_nx] at hs
    split at hs
    · cases hs; exact lv_ior hx hb hd (K ls locs H hl hr hlo)
    · cases hs
  case ixor =>
    have hk : k = 1 := by simpa [p_ck] using hk
    subst hk
    simp only [p_st, p_ii, p_nx] at hs
    split at hs
    · cases hs; exact lv_ixor hx hb hd (K ls locs H hl hr hlo)
    · cases hs
  case ishl =>
    have hk : k = 1 := by simpa [p_ck] using hk
    subst hk
    simp only [p_st, p_ii, p_nx] at hs
    split at hs
    · cases hs; exact lv_ishl hx hb hd (K ls locs H hl hr hlo)
    · cases hs
  case iushr =>
    have hk : k = 1 := by simpa [p_ck] using hk
    subst hk
    simp only [p_st, p_ii, p_nx] at hs
    split at hs
    · cases hs; exact lv_iushr hx hb hd rfl (K ls locs H hl hr hlo)
    · cases hs
  case idiv =>
    have hk : k = 1 := by simpa [p_ck] using hk
    subst hk
    simp only [p_st, p_id, p_nx] at hs
    split at hs
    · split at hs
      · cases hs
      · rename_i hne
        cases hs; exact lv_idiv hx hb hd hne (K ls locs H hl hr hlo)
    · cases hs
  case irem =>
    have hk : k = 1 := by simpa [p_ck] using hk
    subst hk
    simp only [p_st, p_id, p_nx] at hs
    split at hs
    · split at hs
      · cases hs
      · rename_i hne
        cases hs; exact lv_irem hx hb hd hne (K ls locs H hl hr hlo)
    · cases hs
  case ladd =>
    have hk : k = 1 := by simpa [p_ck] using hk
    subst hk
    simp only [p_st, p_jj, p_nx] at hs
    split at hs
    · cases hs; exact lv_ladd hx hb hd (K ls locs H hl hr hlo)
    · cases hs
  case lmul =>
    have hk : k = 1 := by simpa [p_ck] using hk
    subst hk
    simp only [p_st, p_jj, p_nx] at hs
    split at hs
    · cases hs; exact lv_lmul hx hb hd (K ls locs H hl hr hlo)
    · cases hs
  case land =>
    have hk : k = 1 := by simpa [p_ck] using hk
    subst hk
    simp only [p_st, p_jj, p_nx] at hs
    split at hs
    · cases hs; exact lv_land hx hb hd (K ls locs H hl hr hlo)
    · cases hs
  case lor =>
    have hk : k = 1 := by simpa [p_ck] using hk
    subst hk
    simp only [p_st, p_jj, p_nx] at hs
    split at hs
    · cases hs; exact lv_lor hx hb hd (K ls locs H hl hr hlo)
    · cases hs
  case ldiv =>
    have hk : k = 1 := by simpa [p_ck] using hk
    subst hk
    simp only [p_st, p_jd, p_nx] at hs
    split at hs
    · split at hs
      · cases hs
      · rename_i hne
        cases hs; exact lv_ldiv hx hb hd hne (K ls locs H hl hr hlo)
    · cases hs
  case lrem =>
    have hk : k = 1 := by simpa [p_ck] using hk
    subst hk
    simp only [p_st, p_jd, p_nx] at hs
    split at hs
    · split at hs
      · cases hs
      · rename_i hne
        cases hs; exact lv_lrem hx hb hd hne (K ls locs H hl hr hlo)
    · cases hs
  case lshl =>
    have hk : k = 1 := by simpa [p_ck] using hk
    subst hk
    simp only [p_st, p_js, p_nx] at hs
    split at hs
    · cases hs; exact lv_lshl hx hb hd rfl (K ls locs H hl hr hlo)
    · cases hs
  case lshr =>
    have hk : k = 1 := by simpa [p_ck] using hk
    subst hk
    simp only [p_st, p_js, p_nx] at hs
    split at hs
    · cases hs; exact lv_lshr hx hb hd rfl (K ls locs H hl hr hlo)
    · cases hs
  case lushr =>
    have hk : k = 1 := by simpa [p_ck] using hk
    subst hk
    simp only [p_st, p_js, p_nx] at hs
    split at hs
    · cases hs; exact lv_lushr hx hb hd rfl (K ls locs H hl hr hlo)
    · cases hs
  case lcmp =>
    have hk : k = 1 := by simpa [p_ck] using hk
    subst hk
    simp only [p_st, p_nx] at hs
    split at hs
    · cases hs; exact W.lcmp hx hb hd (K ls locs H hl hr hlo)
    · cases hs
  case i2l =>
    have hk : k = 1 := by simpa [p_ck] using hk
    subst hk
    simp only [p_st, p_nx] at hs
    split at hs
    · cases hs; exact lv_i2l hx hb hd rfl (K ls locs H hl hr hlo)
    · cases hs
  case l2i =>
    have hk : k = 1 := by simpa [p_ck] using hk
    subst hk
    simp only [p_st, p_nx] at hs
    split at hs
    · cases hs; exact lv_l2i hx hb hd rfl (K ls locs H hl hr hlo)
    · cases hs
  case i2b =>
    have hk : k = 1 := by simpa [p_ck] using hk
    subst hk
    simp only [p_st, p_nx] at hs
    split at hs
    · cases hs; exact lv_i2b hx hb hd rfl (K ls locs H hl hr hlo)
    · cases hs
  case dup =>
    have hk : k = 1 := by simpa [p_ck] using hk
    subst hk
    simp only [p_st, p_nx] at hs
    split at hs
    · split at hs
      · rename_i hc1
        cases hs
        exact lv_dup hx hb hd (by rw [p_tr_cat]; simpa [p_c1] using hc1) (K ls locs H hl hr hlo)
      · cases hs
    · cases hs
  case dup2 =>
    have hk : k = 1 := by simpa [p_ck] using hk
    subst hk
    simp only [p_st, p_nx] at hs
    split at hs
    · split at hs
      · rename_i hc1
        cases hs
        simp only [p_c1, Bool.and_eq_true, beq_iff_eq] at hc1
        exact lv_dup2_11 hx hb hd (by rw [p_tr_cat]; exact hc1.1) (by rw [p_tr_cat]; exact hc1.2) (K ls locs H hl hr hlo)
      · cases hs
    · cases hs
  case pop =>
    have hk : k = 1 := by simpa [p_ck] using hk
    subst hk
    simp only [p_st, p_nx] at hs
    split at hs
    · split at hs
      · rename_i hc1
        cases hs
        exact lv_pop hx hb hd (by rw [p_tr_cat]; simpa [p_c1] using hc1) (K ls locs H hl hr hlo)
      · cases hs
    · cases hs
  case goto off =>
    have hk : k = 3 := by simpa [p_ck] using hk
    subst hk
    obtain ⟨rfl, rfl, rfl, ht⟩ := p_tgs hs
    exact lv_goto hx hb hd ht (K ls locs H hl hr hlo)
  case if_icmp cnd off =>
    have hk : k = 3 := by simpa [p_ck] using hk
    subst hk
    simp only [p_st, p_ic] at hs
    split at hs
    · rename_i y1 x1 r
      obtain ⟨rfl, rfl, rfl, tgt, ht, hcase⟩ := p_brs _ hs
      have K2 := K ls locs H hl hr hlo
      rcases hcase with ⟨hc, rfl⟩ | ⟨hc, rfl⟩
      · cases cnd <;> simp only [p_cmp, decide_eq_true_eq] at hc
        · exact lv_icmp_eq hx hb hd ht (fun _ => K2) (fun q => absurd hc q)
        · exact lv_icmp_ne hx hb hd ht (fun _ => K2) (fun q => absurd q hc)
        · exact lv_icmp_lt hx hb hd ht (fun _ => K2) (fun q => absurd hc q)
        · exact lv_icmp_ge hx hb hd ht (fun _ => K2) (fun q => absurd hc q)
        · exact lv_icmp_gt hx hb hd ht (fun _ => K2) (fun q => absurd hc q)
        · exact lv_icmp_le hx hb hd ht (fun _ => K2) (fun q => absurd hc q)
      · cases cnd <;> simp only [p_cmp, decide_eq_false_iff_not, Decidable.not_not] at hc
        · exact lv_icmp_eq hx hb hd ht (fun q => absurd q hc) (fun _ => K2)
        · exact lv_icmp_ne hx hb hd ht (fun q => absurd hc q) (fun _ => K2)
        · exact lv_icmp_lt hx hb hd ht (fun q => absurd q hc) (fun _ => K2)
        · exact lv_icmp_ge hx hb hd ht (fun q => absurd q hc) (fun _ => K2)
        · exact lv_icmp_gt hx hb hd ht (fun q => absurd q hc) (fun _ => K2)
        · exact lv_icmp_le hx hb hd ht (fun q => absurd q hc) (fun _ => K2)
    · cases hs
  case ifCond cnd off =>
    have hk : k = 3 := by simpa [p_ck] using hk
    subst hk
    simp only [p_st, p_if] at hs
    split at hs
    · rename_i x1 r
      obtain ⟨rfl, rfl, rfl, tgt, ht, hcase⟩ := p_brs _ hs
      have K2 := K ls locs H hl hr hlo
      rcases hcase with ⟨hc, rfl⟩ | ⟨hc, rfl⟩
      · cases cnd <;> simp only [p_cmp, decide_eq_true_eq] at hc
        · exact lv_if_eq hx hb hd ht (fun _ => K2) (fun q => absurd hc q)
        · exact lv_if_ne hx hb hd ht (fun _ => K2) (fun q => absurd q hc)
        · exact lv_if_lt hx hb hd ht (fun _ => K2) (fun q => absurd hc q)
        · exact lv_if_ge hx hb hd ht (fun _ => K2) (fun q => absurd hc q)
        · exact lv_if_gt hx hb hd ht (fun _ => K2) (fun q => absurd hc q)
        · exact lv_if_le hx hb hd ht (fun _ => K2) (fun q => absurd hc q)
      · cases cnd <;> simp only [p_cmp, decide_eq_false_iff_not, Decidable.not_not] at hc
        · exact lv_if_eq hx hb hd ht (fun q => absurd q hc) (fun _ => K2)
        · exact lv_if_ne hx hb hd ht (fun q => absurd hc q) (fun _ => K2)
        · exact lv_if_lt hx hb hd ht (fun q => absurd q hc) (fun _ => K2)
        · exact lv_if_ge hx hb hd ht (fun q => absurd q hc) (fun _ => K2)
        · exact lv_if_gt hx hb hd ht (fun q => absurd q hc) (fun _ => K2)
        · exact lv_if_le hx hb hd ht (fun q => absurd q hc) (fun _ => K2)
    · cases hs
  case ifnull off =>
    have hk : k = 3 := by simpa [p_ck] using hk
    subst hk
    simp only [p_st] at hs
    split at hs
    · obtain ⟨rfl, rfl, rfl, ht⟩ := p_tgs hs
      exact lv_ifnullN hx hb hd ht (K ls locs H hl hr hlo)
    · cases hs
      exact lv_ifnull hx hb hd (K ls locs H hl hr hlo)
    · cases hs
  case ifnonnull off =>
    have hk : k = 3 := by simpa [p_ck] using hk
    subst hk
    simp only [p_st] at hs
    split at hs
    · obtain ⟨rfl, rfl, rfl, ht⟩ := p_tgs hs
      exact lv_ifnonnull hx hb hd ht (K ls locs H hl hr hlo)
    · cases hs
      exact lv_ifnonnullN hx hb hd (K ls locs H hl hr hlo)
    · cases hs
  case tableswitch dflt lo hi2 offs =>
    simp only [p_st] at hs
    split at hs
    · split at hs
      · rename_i ho
        obtain ⟨rfl, rfl, rfl, ht⟩ := p_tgs hs
        exact lv_tableOut hx hb hd ho ht (K ls locs H hl hr hlo)
      · rename_i ho
        split at hs
        · rename_i off hoff
          obtain ⟨rfl, rfl, rfl, ht⟩ := p_tgs hs
          exact lv_tableIn hx hb hd (fun q => ho (Or.inl q)) (fun q => ho (Or.inr q)) hoff ht (K ls locs H hl hr hlo)
        · cases hs
    · cases hs
  case lookupswitch dflt ps =>
    simp only [p_st] at hs
    split at hs
    · split at hs
      · rename_i ho
        obtain ⟨rfl, rfl, rfl, ht⟩ := p_tgs hs
        exact lv_lookup hx hb hd ho rfl ht (K ls locs H hl hr hlo)
      · cases hs
    · cases hs
  case getfield idx =>
    have hk : k = 3 := by simpa [p_ck] using hk
    subst hk
    simp only [p_st, p_gf, p_nx] at hs
    split at hs
    · split at hs
      · rename_i hf
        split at hs
        · rename_i hg
          split at hs
          · rename_i hci
            split at hs
            · rename_i v hv
              cases hs
              exact p_gets G C hf (hr.2.2 _ _ hg).2 hci hv hd (K ls locs H hl hr hlo)
            · cases hs
          · cases hs
        · cases hs
      · cases hs
    · cases hs
  case putfield idx =>
    have hk : k = 3 := by simpa [p_ck] using hk
    subst hk
    simp only [p_st, p_pf, p_nx] at hs
    split at hs
    · split at hs
      · rename_i hf
        split at hs
        · rename_i hg
          split at hs
          · rename_i hci
            cases hs
            simp only [Bool.and_eq_true, decide_eq_true_eq] at hci
            exact p_puts G C hf hr hlo hg hci.1.1.1 hci.1.1.2 hci.1.2 hci.2 hd (fun H1 locs1 r1 l1 => K ls locs1 H1 hl r1 l1)
          · cases hs
        · cases hs
      · cases hs
    · cases hs
  case iaload =>
    have hk : k = 1 := by simpa [p_ck] using hk
    subst hk
    simp only [p_st, p_ial, p_nx] at hs
    split at hs
    · split at hs
      · rename_i hg
        split at hs
        · rename_i hc
          cases hs
          exact p_ialds C (hr.2.2 _ _ hg).2 hc.1 hc.2 hd (K ls locs H hl hr hlo)
        · cases hs
      · cases hs
    · cases hs
  case baload =>
    have hk : k = 1 := by simpa [p_ck] using hk
    subst hk
    simp only [p_st, p_bal, p_nx] at hs
    split at hs
    · split at hs
      · rename_i hg
        split at hs
        · rename_i hc
          obtain ⟨rfl, hc⟩ := hc
          cases hs
          exact p_balds C (hr.2.2 _ _ hg).2 hc hd (K ls locs H hl hr hlo)
        · cases hs
      · cases hs
    · cases hs
  case laload =>
    have hk : k = 1 := by simpa [p_ck] using hk
    subst hk
    simp only [p_st, p_lal, p_nx] at hs
    split at hs
    · split at hs
      · rename_i hg
        split at hs
        · rename_i hc
          obtain ⟨rfl, hc⟩ := hc
          cases hs
          exact p_lalds C (hr.2.2 _ _ hg).2 hc hd (K ls locs H hl hr hlo)
        · cases hs
      · cases hs
    · cases hs
  case aaload =>
    have hk : k = 1 := by simpa [p_ck] using hk
    subst hk
    simp only [p_st, p_aal, p_nx] at hs
    split at hs
    · split at hs
      · rename_i hg
        split at hs
        · rename_i hc
          obtain ⟨rfl, hc⟩ := hc
          cases hs
          exact p_aalds C (hr.2.2 _ _ hg).2 hc hd (K ls locs H hl hr hlo)
        · cases hs
      · cases hs
    · cases hs
  case iastore =>
    have hk : k = 1 := by simpa [p_ck] using hk
    subst hk
    simp only [p_st, p_ias, p_nx] at hs
    split at hs
    · split at hs
      · rename_i hg
        split at hs
        · rename_i hc
          obtain ⟨rfl, hc⟩ := hc
          cases hs
          exact p_iasts G C hr hlo hg hc hd (fun H1 locs1 r1 l1 => K ls locs1 H1 hl r1 l1)
        · cases hs
      · cases hs
    · cases hs
  case bastore =>
    have hk : k = 1 := by simpa [p_ck] using hk
    subst hk
    simp only [p_st, p_bas, p_nx] at hs
    split at hs
    · split at hs
      · rename_i hg
        split at hs
        · rename_i hc
          obtain ⟨rfl, hc⟩ := hc
          cases hs
          exact p_basts G C hr hlo hg hc hd (fun H1 locs1 r1 l1 => K ls locs1 H1 hl r1 l1)
        · cases hs
      · cases hs
    · cases hs
  case lastore =>
    have hk : k = 1 := by simpa [p_ck] using hk
    subst hk
    simp only [p_st, p_las, p_nx] at hs
    split at hs
    · split at hs
      · rename_i hg
        split at hs
        · rename_i hc
          obtain ⟨rfl, hc⟩ := hc
          cases hs
          exact p_lasts G C hr hlo hg hc hd (fun H1 locs1 r1 l1 => K ls locs1 H1 hl r1 l1)
        · cases hs
      · cases hs
    · cases hs
  case aastore =>
    have hk : k = 1 := by simpa [p_ck] using hk
    subst hk
    simp only [p_st, p_aas, p_nx] at hs
    split at hs
    · split at hs
      · rename_i hv
        split at hs
        · rename_i hg
          split at hs
          · rename_i hc
            obtain ⟨hbt, rfl, hc⟩ := hc
            cases hs
            exact p_aasts G C hr hlo hv hbt hg hc hd (fun H1 locs1 r1 l1 => K ls locs1 H1 hl r1 l1)
          · cases hs
        · cases hs
      · cases hs
    · cases hs
  case arraylength =>
    have hk : k = 1 := by simpa [p_ck] using hk
    subst hk
    simp only [p_st, p_len, p_nx] at hs
    split at hs
    · split at hs
      · rename_i hg
        cases hs
        exact p_lens C (hr.2.2 _ _ hg).2 hd (K ls locs H hl hr hlo)
      · cases hs
    · cases hs
  case newarray t =>
    have hk : k = 2 := by simpa [p_ck] using hk
    subst hk
    simp only [p_st, p_na, p_nx] at hs
    split at hs
    · rename_i n r
      split at hs
      · cases hs
      · rename_i hn
        cases t <;> simp only [reduceCtorEq] at hs <;> cases hs
        · refine p_newas (a0 := .inl (1, n.toNatClampNeg, .inl (fun _ => 0))) G C hr (ty := .byte) rfl j_cB (by decide) hn (fun cA H1 e1 hA => Or.inr (Or.inr ⟨rfl, hr.2.1, cA, e1, hA⟩)) (by simp only [p_new] at hR1; omega) (by simp only [p_new] at hR2; omega) hd (fun H1 r1 => ?_)
          have := K ls locs H1 hl r1 hlo
          rw [show (p_new h (.inl (1, n.toNatClampNeg, .inl (fun _ => 0))) n.toNatClampNeg).1 - hi.1 = h.1 - hi.1 + 1 by simp only [p_new]; omega, show (p_new h (.inl (1, n.toNatClampNeg, .inl (fun _ => 0))) n.toNatClampNeg).2.1 - hi.2.1 = h.2.1 - hi.2.1 + n.toNatClampNeg by simp only [p_new]; omega] at this
          exact this
        · refine p_newas (a0 := .inl (0, n.toNatClampNeg, .inl (fun _ => 0))) G C hr (ty := .int) rfl j_cI (by decide) hn (fun cA H1 e1 hA => Or.inr (Or.inl ⟨rfl, hr.2.1, cA, e1, hA⟩)) (by simp only [p_new] at hR1; omega) (by simp only [p_new] at hR2; omega) hd (fun H1 r1 => ?_)
          have := K ls locs H1 hl r1 hlo
          rw [show (p_new h (.inl (0, n.toNatClampNeg, .inl (fun _ => 0))) n.toNatClampNeg).1 - hi.1 = h.1 - hi.1 + 1 by simp only [p_new]; omega, show (p_new h (.inl (0, n.toNatClampNeg, .inl (fun _ => 0))) n.toNatClampNeg).2.1 - hi.2.1 = h.2.1 - hi.2.1 + n.toNatClampNeg by simp only [p_new]; omega] at this
          exact this
        · refine p_newas (a0 := .inl (2, n.toNatClampNeg, .inr (.inl (fun _ => 0)))) G C hr (ty := .long) rfl j_cJ (by decide) hn (fun cA H1 e1 hA => ⟨rfl, hr.2.1, cA, e1, hA⟩) (by simp only [p_new] at hR1; omega) (by simp only [p_new] at hR2; omega) hd (fun H1 r1 => ?_)
          have := K ls locs H1 hl r1 hlo
          rw [show (p_new h (.inl (2, n.toNatClampNeg, .inr (.inl (fun _ => 0)))) n.toNatClampNeg).1 - hi.1 = h.1 - hi.1 + 1 by simp only [p_new]; omega, show (p_new h (.inl (2, n.toNatClampNeg, .inr (.inl (fun _ => 0)))) n.toNatClampNeg).2.1 - hi.2.1 = h.2.1 - hi.2.1 + n.toNatClampNeg by simp only [p_new]; omega] at this
          exact this
    · cases hs
  case anewarray idx =>
    have hk : k = 3 := by simpa [p_ck] using hk
    subst hk
    simp only [p_st, p_nq, p_nx] at hs
    split at hs
    · rename_i n r
      split at hs
      · cases hs
      · rename_i hn
        split at hs
        · rename_i hlk
          cases hs
          refine p_newqs G C hr hlk hn (by simp only [p_new] at hR1; omega) (by simp only [p_new] at hR2; omega) hd (fun H1 r1 => ?_)
          have := K ls locs H1 hl r1 hlo
          rw [show (p_new h (.inl (3, n.toNatClampNeg, .inr (.inr (fun _ => none)))) n.toNatClampNeg).1 - hi.1 = h.1 - hi.1 + 1 by simp only [p_new]; omega, show (p_new h (.inl (3, n.toNatClampNeg, .inr (.inr (fun _ => none)))) n.toNatClampNeg).2.1 - hi.2.1 = h.2.1 - hi.2.1 + n.toNatClampNeg by simp only [p_new]; omega] at this
          exact this
        · cases hs
    · cases hs
  case new idx =>
    have hk : k = 3 := by simpa [p_ck] using hk
    subst hk
    simp only [p_st, p_nw, p_nx] at hs
    split at hs
    · rename_i ci hlk
      cases hs
      refine p_news G C hr hlk (by simp only [p_new] at hR1; omega) (by simp only [p_new] at hR2; omega) hd (fun H1 r1 => ?_)
      have := K ls locs H1 hl r1 hlo
      rw [show (p_new h (.inr (ci, p_df ci)) (p_df ci).length).1 - hi.1 = h.1 - hi.1 + 1 by simp only [p_new]; omega, show (p_new h (.inr (ci, p_df ci)) (p_df ci).length).2.1 - hi.2.1 = h.2.1 - hi.2.1 + (p_df ci).length by simp only [p_new]; omega] at this
      exact this
    · cases hs
  case instanceof idx =>
    have hk : k = 3 := by simpa [p_ck] using hk
    subst hk
    simp only [p_st, p_io, p_nx] at hs
    split at hs
    · cases hs
      exact lv_instN hx hb hd (K ls locs H hl hr hlo)
    · split at hs
      · rename_i hlk
        split at hs
        · rename_i hg
          split at hs
          · rename_i hc
            rw [Bool.and_eq_true] at hc
            cases hs
            exact p_insts G C hlk (hr.2.2 _ _ hg).2 hc.1 hc.2 hd (K ls locs H hl hr hlo)
          · cases hs
        · cases hs
      · cases hs
    · cases hs
  case invokevirtual idx =>
    simp only [p_st, p_iv, p_cl] at hs
    (repeat' split at hs) <;> cases hs
  case invokestatic idx =>
    have hk : k = 3 := by simpa [p_ck] using hk
    subst hk
    simp only [p_st, p_is1, p_cl] at hs
    split at hs
    · (repeat' split at hs) <;> cases hs
    · split at hs
      · rename_i hbud
        rw [Bool.and_eq_true, decide_eq_true_eq, decide_eq_true_eq] at hbud
        split at hs
        · rename_i t hlk
          obtain ⟨hin, hq1, hq2⟩ := p_lu_in hlk
          obtain ⟨t1, ht⟩ := gT_in _ hin
          unfold p_go at ht
          dsimp only at ht
          rw [hq1, hq2, Bool.and_eq_true, decide_eq_true_eq] at ht
          obtain ⟨ht3, ht⟩ := ht
          simp only [p_mm, p_nx] at hs
          split at hs
          · rename_i y1 x1 r
            split at hs
            · rename_i hcs
              have hcs2 : ((r.map (p_tr b o)).map fun v => v.category).sum ≤ 8 := by rw [p_tr_cs]; exact hcs
              split at hs
              · cases hs
                exact va_mmax hx hb (by rw [hml]; exact hl.2.1.symm) hown (hts _ (p_wT ht)) (hts _ j_m0) (hts _ j_mi) (hts _ j_c0) (by omega) (by omega) (by omega) (by omega) hd (K ls locs H hl hr hlo)
              · cases hs
                exact va_mmin hx hb (by rw [hml]; exact hl.2.1.symm) hown (hts _ (p_wT ht)) (hts _ j_m1) (hts _ j_mi) (hts _ j_c1) (by omega) (by omega) (by omega) (by omega) hd (K ls locs H hl hr hlo)
              · cases hs
            · cases hs
          · rename_i y1 x1 r
            split at hs
            · rename_i hcs
              have hcs2 : ((r.map (p_tr b o)).map fun v => v.category).sum ≤ 8 := by rw [p_tr_cs]; exact hcs
              split at hs
              · cases hs
                exact va_mmax_long hx hb (by rw [hml]; exact hl.2.1.symm) hown (hts _ (p_wT ht)) (hts _ j_m2) (hts _ j_mi) (hts _ j_c2) (by omega) (by omega) (by omega) (by omega) hd (K ls locs H hl hr hlo)
              · cases hs
            · cases hs
          · cases hs
        · split at hs
          · rename_i hac
            rw [Bool.and_eq_true, decide_eq_true_eq] at hac
            simp only [p_ac, p_nx] at hs
            split at hs
            · split at hs
              · rename_i hga
                split at hs
                · rename_i hgb
                  split at hs
                  · rename_i hc
                    obtain ⟨rfl, rfl, g1, g2, g3, g4, g5, g6⟩ := hc
                    cases hs
                    exact p_copyi G C hac.1 hac.2 hr hlo hga hgb g1 g2 g3 g4 g5 (by rw [p_tr_cs]; exact g6) hbud.1 hbud.2 hl.2.1 hd (fun H1 locs1 r1 l1 => K ls locs1 H1 hl r1 l1)
                  · cases hs
                · cases hs
              · rename_i hga
                split at hs
                · rename_i hgb
                  split at hs
                  · rename_i hc
                    obtain ⟨rfl, rfl, g1, g2, g3, g4, g5, g6⟩ := hc
                    cases hs
                    exact p_copyl G C hac.1 hac.2 hr hlo hga hgb g1 g2 g3 g4 g5 (by rw [p_tr_cs]; exact g6) hbud.1 hbud.2 hl.2.1 hd (fun H1 locs1 r1 l1 => K ls locs1 H1 hl r1 l1)
                  · cases hs
                · cases hs
              · cases hs
            · cases hs
          · cases hs
      · cases hs
  case invokespecial idx =>
    have hk : k = 3 := by simpa [p_ck] using hk
    subst hk
    simp only [p_st, p_iq, p_cl, p_nx] at hs
    split at hs
    · (repeat' split at hs) <;> cases hs
    · split at hs
      · rename_i a r
        split at hs
        · rename_i hc
          simp only [Bool.and_eq_true, decide_eq_true_eq] at hc
          obtain ⟨⟨⟨⟨c1, c2⟩, c3⟩, c4⟩, c5⟩ := hc
          have hcs2 : ((r.map (p_tr b o)).map fun v => v.category).sum ≤ 8 := by rw [p_tr_cs]; exact c5
          cases hs
          obtain ⟨t, ht⟩ := oT_in _ (by simpa using c2)
          unfold p_oo at ht
          rw [show (p_o y * 1000 + idx) / 1000 = p_o y by omega, show (p_o y * 1000 + idx) % 1000 = idx by omega] at ht
          exact W.objInit hx hb hown (hts _ (p_wT ht)) (hts _ j_oi) (hts _ j_oc) rfl (by rw [hml]; exact hl.2.1) rfl hd (by omega) (by show 2 * 0 + _ + 12 ≤ _; omega) (K ls locs H hl hr hlo)
        · cases hs
      · cases hs
  case ireturn =>
    simp only [p_st, p_rv] at hs
    (repeat' split at hs) <;> cases hs
  case lreturn =>
    simp only [p_st, p_rv] at hs
    (repeat' split at hs) <;> cases hs
  case areturn =>
    simp only [p_st, p_rv] at hs
    (repeat' split at hs) <;> cases hs
  case return_ =>
    simp only [p_st, p_rv] at hs
    (repeat' split at hs) <;> cases hs
  all_goals exact absurd hs (by simp [p_st])
end ST
