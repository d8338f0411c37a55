section S54
/-! the class's ways and days are counts -/
theorem nI_or (a b : Nat) : nI a ||| nI b = nI (a ||| b) := by
  apply Int32.toBitVec_inj.mp
  show BitVec.ofNat 32 a ||| BitVec.ofNat 32 b = BitVec.ofNat 32 (a ||| b)
  rw [← BitVec.ofNat_or]
/-- bits that stand where a count is above 0 -/
def ct_MB (y : Int32) (T : Nat → Nat) : Prop := ∃ n : Nat, y = nI n ∧ n < 2 ^ 8 ∧ ∀ e, n.testBit e = decide (0 < T e)
theorem ct_MB0 : ct_MB 0 (fun _ => 0) := ⟨0, rfl, by decide, fun e => by simp⟩
theorem ct_MBe {y : Int32} {T U : Nat → Nat} (h : ct_MB y T) (he : ∀ e, T e = U e) : ct_MB y U := by
  have : T = U := funext he
  rw [← this]
  exact h
theorem ct_MBo {y z : Int32} {T U : Nat → Nat} (a : ct_MB y T) (b : ct_MB z U) : ct_MB (y ||| z) (fun e => T e + U e) := by
  obtain ⟨n, rfl, n2, n3⟩ := a
  obtain ⟨m, rfl, m2, m3⟩ := b
  refine ⟨n ||| m, nI_or n m, Nat.or_lt_two_pow n2 m2, fun e => ?_⟩
  rw [Nat.testBit_or, n3, m3]
  by_cases h1 : 0 < T e
  · rw [decide_eq_true h1, decide_eq_true (show 0 < T e + U e by omega), Bool.true_or]
  · by_cases h2 : 0 < U e
    · rw [decide_eq_true h2, decide_eq_true (show 0 < T e + U e by omega), Bool.or_true]
    · rw [decide_eq_false h1, decide_eq_false h2, decide_eq_false (show ¬ 0 < T e + U e by omega)]
      rfl
theorem ct_MBp {j w : Nat} (hj : j < 8) (hw : 0 < w) : ct_MB (nI (2 ^ j)) (fun e => if e = j then w else 0) := by
  refine ⟨2 ^ j, rfl, Nat.pow_lt_pow_right (by decide) hj, fun e => ?_⟩
  rw [Nat.testBit_two_pow]
  by_cases h : j = e
  · subst h
    show decide (j = j) = decide (0 < if j = j then w else 0)
    rw [decide_eq_true rfl, if_pos rfl, decide_eq_true hw]
  · show decide (j = e) = decide (0 < if e = j then w else 0)
    rw [decide_eq_false h, if_neg (c := e = j) (fun q => h q.symm)]
    rfl
theorem ct_pt {P : Nat → Bool} {mk : Int32} {j : Nat} {w m : Nat → Int32} {x : Nat} {W : Nat → Nat} {T : Nat → Nat → Nat} {hk : Nat → Bool} (hj : j < 8) (hx : x < 32) (hw : ∀ p, p &&& x = p → w (x - p) = nI (W (x - p)) ∧ W (x - p) ≤ 32768 ∧ ct_MB (m (x - p)) (T (x - p)) ∧ ∀ e, T (x - p) e ≤ W (x - p)) (hm : ∀ p, p < 32 → (nI p &&& mk = 0 ↔ hk p = false)) : ∀ (n p S : Nat) (A : Nat → Nat) (s d : Int32), p &&& x = p → s = nI S → ct_MB d A → (pt P mk (nI (2 ^ j)) w m x n p s d).1 = nI (S + ct_ls (ct_dl x n p) (fun p => if P p = true then W (x - p) else 0)) ∧ ct_MB (pt P mk (nI (2 ^ j)) w m x n p s d).2 (fun e => A e + ct_ls (ct_dl x n p) (fun p => if P p = true then (if hk p = true then (if e = j then W (x - p) else 0) else T (x - p) e) else 0))
  | 0, p, S, A, s, d, _, hs, hd => ⟨hs, hd⟩
  | n + 1, p, S, A, s, d, hp, hs, hd => by
    unfold pt ct_dl
    by_cases h0 : p = 0
    · rw [if_pos h0, if_pos h0]
      exact ⟨hs, hd⟩
    · rw [if_neg h0, if_neg h0]
      have hp2 : ((p - 1) &&& x) &&& x = (p - 1) &&& x := by rw [Nat.and_assoc, Nat.and_self]
      obtain ⟨w1, w2, w3, w4⟩ := hw p hp
      have hp32 : p < 32 := by
        have : p &&& x ≤ x := Nat.and_le_right
        omega
      by_cases hP : P p = true
      · rw [if_pos hP]
        by_cases hW : 0 < W (x - p)
        · rw [if_pos (show 0 < w (x - p) by rw [w1]; exact nI_lt (a := 0) hW (by omega))]
          have es : s + w (x - p) = nI (S + W (x - p)) := by rw [hs, w1, nI_add]
          cases hkk : hk p with
          | false =>
            rw [if_pos ((hm p hp32).mpr hkk)]
            have ih := ct_pt (P := P) hj hx hw hm n ((p - 1) &&& x) (S + W (x - p)) (fun e => A e + T (x - p) e) _ _ hp2 es (ct_MBo hd w3)
            refine ⟨ih.1.trans (congrArg nI ?_), ct_MBe ih.2 (fun e => ?_)⟩
            · simp only [ct_ls, hP, if_true]
              omega
            · simp only [ct_ls, hP, hkk, if_true, Bool.false_eq_true, if_false]
              omega
          | true =>
            rw [if_neg (fun q => by rw [(hm p hp32).mp q] at hkk; cases hkk)]
            have ih := ct_pt (P := P) hj hx hw hm n ((p - 1) &&& x) (S + W (x - p)) (fun e => A e + (if e = j then W (x - p) else 0)) _ _ hp2 es (ct_MBo hd (ct_MBp hj hW))
            refine ⟨ih.1.trans (congrArg nI ?_), ct_MBe ih.2 (fun e => ?_)⟩
            · simp only [ct_ls, hP, if_true]
              omega
            · simp only [ct_ls, hP, hkk, if_true]
              omega
        · have hW0 : W (x - p) = 0 := by omega
          rw [if_neg (show ¬ 0 < w (x - p) by rw [w1, hW0]; decide)]
          have ih := ct_pt (P := P) hj hx hw hm n ((p - 1) &&& x) S A _ _ hp2 hs hd
          refine ⟨ih.1.trans (congrArg nI ?_), ct_MBe ih.2 (fun e => ?_)⟩
          · simp only [ct_ls, hP, if_true, hW0]
            omega
          · have := w4 e
            have hz : T (x - p) e = 0 := by omega
            simp only [ct_ls, hP, if_true, hW0, hz, ite_self]
            omega
      · rw [if_neg hP]
        have ih := ct_pt (P := P) hj hx hw hm n ((p - 1) &&& x) S A _ _ hp2 hs hd
        refine ⟨ih.1.trans (congrArg nI ?_), ct_MBe ih.2 (fun e => ?_)⟩
        · simp only [ct_ls, hP, Bool.false_eq_true, if_false]
          omega
        · simp only [ct_ls, hP, Bool.false_eq_true, if_false]
          omega
theorem ct_sub : ∀ X : Nat, X < 32 → ∀ p : Nat, p < 32 → p &&& X = p → ∀ kk : Nat, kk < 32 → X &&& kk = X → (X - p) &&& kk = X - p := by decide +kernel
theorem ct_pc {PP : Nat → Nat → Bool} {i k kk X : Nat} {mk : Int32} {w m : Nat → Int32} (hi : i + 1 < 8) (hX : X < 32) (hkk : kk < 32) (hXk : X &&& kk = X) (hw : ∀ c, c < 32 → c &&& kk = c → w c = nI (ct_W PP i (ct_bl c)) ∧ ct_MB (m c) (fun e => ct_D PP k e i (ct_bl c))) (hm : ∀ p, p < 32 → (nI p &&& mk = 0 ↔ (ct_bl p).getD k false = false)) : (pc (PP i) mk (nI (2 ^ (i + 1))) w m X).1 = nI (ct_W PP (i + 1) (ct_bl X)) ∧ ct_MB (pc (PP i) mk (nI (2 ^ (i + 1))) w m X).2 (fun e => ct_D PP k e (i + 1) (ct_bl X)) := by
  have hw2 : ∀ p, p &&& X = p → w (X - p) = nI ((fun c => ct_W PP i (ct_bl c)) (X - p)) ∧ (fun c => ct_W PP i (ct_bl c)) (X - p) ≤ 32768 ∧ ct_MB (m (X - p)) ((fun c e => ct_D PP k e i (ct_bl c)) (X - p)) ∧ ∀ e, (fun c e => ct_D PP k e i (ct_bl c)) (X - p) e ≤ (fun c => ct_W PP i (ct_bl c)) (X - p) := by
    intro p hp
    have hp32 : p < 32 := by
      have : p &&& X ≤ X := Nat.and_le_right
      omega
    obtain ⟨a, b⟩ := hw (X - p) (by omega) (ct_sub X hX p hp32 hp kk hkk hXk)
    exact ⟨a, ct_W_b PP (by omega) rfl, b, fun e => ct_D_W PP k e i _⟩
  obtain ⟨w1, w2, w3, w4⟩ := hw2 0 (by rw [Nat.zero_and])
  have hdl := fun f => ct_dls hX f
  unfold pc
  have fin : ∀ (S : Nat) (A : Nat → Nat) (s d : Int32), s = nI S → ct_MB d A → (S = if PP i 0 = true then ct_W PP i (ct_bl (X - 0)) else 0) → (∀ e, A e = if PP i 0 = true then ct_D PP k e i (ct_bl (X - 0)) else 0) → (pt (PP i) mk (nI (2 ^ (i + 1))) w m X X X s d).1 = nI (ct_W PP (i + 1) (ct_bl X)) ∧ ct_MB (pt (PP i) mk (nI (2 ^ (i + 1))) w m X X X s d).2 (fun e => ct_D PP k e (i + 1) (ct_bl X)) := by
    intro S A s d hs hd hS hA
    obtain ⟨r1, r2⟩ := ct_pt (P := PP i) (w := w) (m := m) (W := fun c => ct_W PP i (ct_bl c)) (T := fun c e => ct_D PP k e i (ct_bl c)) (hk := fun p => (ct_bl p).getD k false) hi hX hw2 hm X X S A s d (Nat.and_self X) hs hd
    refine ⟨r1.trans (congrArg nI ?_), ct_MBe r2 (fun e => ?_)⟩
    · rw [ct_W_s]
      have := hdl (fun p => if PP i p = true then ct_W PP i (ct_bl (X - p)) else 0)
      rw [hS]
      refine (Nat.add_comm _ _).trans (this.trans (ct_ss_c _ _ _ (fun p hp => ?_)))
      rw [(ct_bl_d hX hp).1]
    · rw [ct_D_s]
      have h0 : (ct_bl 0).getD k false = false := by
        match k with
        | 0 => rfl
        | 1 => rfl
        | 2 => rfl
        | 3 => rfl
        | 4 => rfl
        | k + 5 => rfl
      have := hdl (fun p => if PP i p = true then (if (ct_bl p).getD k false = true then (if e = i + 1 then ct_W PP i (ct_bl (X - p)) else 0) else ct_D PP k e i (ct_bl (X - p))) else 0)
      rw [hA e]
      rw [h0, if_neg (show ¬ false = true by decide)] at this
      refine (Nat.add_comm _ _).trans (this.trans (ct_ss_c _ _ _ (fun p hp => ?_)))
      rw [(ct_bl_d hX hp).1, (ct_bw (ct_sq_l p _ hp)).1]
  by_cases hP : PP i 0 = true
  · rw [if_pos hP, if_pos hP]
    exact fin (ct_W PP i (ct_bl (X - 0))) (fun e => ct_D PP k e i (ct_bl (X - 0))) _ _ w1 w3 (by rw [if_pos hP]) (fun e => by rw [if_pos hP])
  · rw [if_neg hP, if_neg hP]
    exact fin 0 (fun _ => 0) _ _ rfl ct_MB0 (by rw [if_neg hP]) (fun e => by rw [if_neg hP])
theorem ct_gz (k : Nat) : ([0, 0, 0, 0, 0] : List Nat).getD k 0 = 0 := by
  match k with
  | 0 => rfl
  | 1 => rfl
  | 2 => rfl
  | 3 => rfl
  | 4 => rfl
  | k + 5 => rfl
/-- the crews' ways and days behind i days -/
theorem ct_fw {H L fr mk : Int32} {ln t : Nat → Int32} {k kk : Nat} (hkk : kk < 32) (hm : ∀ p, p < 32 → (nI p &&& mk = 0 ↔ (ct_bl p).getD k false = false)) : ∀ i, i ≤ 7 → ∀ c, c < 32 → (c &&& kk = c → (fw H L fr ln t mk kk (upd (fun _ => 0) 0 1) (upd (fun _ => 0) 0 1) i).1 c = nI (ct_W (fun i => ftp H L (hd fr ln i) (ln i) t) i (ct_bl c)) ∧ ct_MB ((fw H L fr ln t mk kk (upd (fun _ => 0) 0 1) (upd (fun _ => 0) 0 1) i).2 c) (fun e => ct_D (fun i => ftp H L (hd fr ln i) (ln i) t) k e i (ct_bl c))) ∧ (¬ c &&& kk = c → (fw H L fr ln t mk kk (upd (fun _ => 0) 0 1) (upd (fun _ => 0) 0 1) i).1 c = 0 ∧ (fw H L fr ln t mk kk (upd (fun _ => 0) 0 1) (upd (fun _ => 0) 0 1) i).2 c = 0) := by
  intro i
  induction i with
  | zero =>
    intro _ c hc
    show (c &&& kk = c → upd (fun _ => 0) 0 1 c = nI (ct_W _ 0 (ct_bl c)) ∧ ct_MB (upd (fun _ => 0) 0 1 c) (fun e => ct_D _ k e 0 (ct_bl c))) ∧ (¬ c &&& kk = c → upd (fun _ => 0) 0 1 c = 0 ∧ upd (fun _ => 0) 0 1 c = 0)
    by_cases h0 : c = 0
    · subst h0
      refine ⟨fun _ => ⟨rfl, ?_⟩, fun h => absurd (Nat.zero_and kk) h⟩
      refine ct_MBe (ct_MBp (j := 0) (w := 1) (by decide) (by decide)) (fun e => ?_)
      show (if e = 0 then 1 else 0) = if ([0, 0, 0, 0, 0] : List Nat).getD k 0 = e then 1 else 0
      rw [ct_gz]
      by_cases he : e = 0
      · rw [if_pos he, if_pos he.symm]
      · rw [if_neg he, if_neg (fun q => he q.symm)]
    · rw [pk_un h0]
      have hb : ct_bv (ct_bl c) ≠ 0 := by rw [ct_vb c hc]; exact h0
      refine ⟨fun _ => ⟨?_, ?_⟩, fun _ => ⟨rfl, rfl⟩⟩
      · unfold ct_W
        rw [ct_E_0 _ _ hb]
        rfl
      · refine ct_MBe ct_MB0 (fun e => ?_)
        unfold ct_D
        rw [ct_E_0 _ _ hb]
  | succ i ih =>
    intro hi c hc
    have ih := ih (by omega)
    show (c &&& kk = c → dq _ mk _ kk _ _ 0 c = nI _ ∧ ct_MB (dr _ mk _ kk _ _ 0 c) _) ∧ (¬ c &&& kk = c → dq _ mk _ kk _ _ 0 c = 0 ∧ dr _ mk _ kk _ _ 0 c = 0)
    refine ⟨fun h => ?_, fun h => ?_⟩
    · have := ct_pc (PP := fun i => ftp H L (hd fr ln i) (ln i) t) (k := k) (kk := kk) (mk := mk) (X := c) (i := i) (by omega) hc hkk h (fun c hc h => (ih c hc).1 h) hm
      unfold dq dr
      rw [if_pos ⟨Nat.zero_le c, hc, h⟩, if_pos ⟨Nat.zero_le c, hc, h⟩]
      exact this
    · unfold dq dr
      rw [if_neg (fun q => h q.2.2), if_neg (fun q => h q.2.2)]
      exact (ih c hc).2 h
theorem ct_su {w : Nat → Int32} {V : Nat → Nat} : ∀ k, (∀ c, c < k → w c = nI (V c)) → su w k = nI (ct_sm k V)
  | 0, _ => rfl
  | k + 1, h => by
    show su w k + w k = nI (ct_sm k V + V k)
    rw [ct_su k (fun c hc => h c (by omega)), h k (by omega), nI_add]
theorem ct_ou {m : Nat → Int32} {T : Nat → Nat → Nat} : ∀ k, (∀ c, c < k → ct_MB (m c) (T c)) → ct_MB (ou m k) (fun e => ct_sm k (fun c => T c e))
  | 0, _ => ct_MB0
  | k + 1, h => ct_MBo (ct_ou k (fun c hc => h c (by omega))) (h k (by omega))
theorem ct_ls_f (q : Nat → Bool) (f : Nat → Nat) : ∀ L : List Nat, ct_ls (L.filter q) f = ct_ls L (fun c => if q c = true then f c else 0)
  | [] => rfl
  | c :: L => by
    by_cases h : q c = true
    · rw [List.filter_cons_of_pos h]
      show f c + ct_ls (L.filter q) f = (if q c = true then f c else 0) + ct_ls L (fun c => if q c = true then f c else 0)
      rw [if_pos h, ct_ls_f q f L]
    · rw [List.filter_cons_of_neg h]
      show ct_ls (L.filter q) f = (if q c = true then f c else 0) + ct_ls L (fun c => if q c = true then f c else 0)
      rw [if_neg h, ct_ls_f q f L, Nat.zero_add]
theorem ct_sm_l (f : Nat → Nat) : ∀ n, ct_sm n f = ct_ls (List.range n) f
  | 0 => rfl
  | n + 1 => by
    rw [List.range_succ, ct_ls_a, ← ct_sm_l f n]
    rfl
/-- over all crews -/
theorem ct_al {kk : Nat} (hkk : kk < 32) (V : List Bool → Nat) : ct_sm 32 (fun c => if c &&& kk = c then V (ct_bl c) else 0) = ct_ss (ct_bl kk) V := by
  rw [ct_sm_l]
  have a := ct_ls_f (fun c => c &&& kk == c) (fun c => V (ct_bl c)) (List.range 32)
  rw [ct_ls_p _ (List.isPerm_iff.mp (ct_kkp kk hkk)), ← ct_ss_l] at a
  have b : (fun c => if c &&& kk = c then V (ct_bl c) else 0) = (fun c => if (c &&& kk == c) = true then V (ct_bl c) else 0) := by
    funext c
    simp only [beq_iff_eq]
  rw [b, ← a]
  refine ct_ss_c _ _ _ (fun p hp => ?_)
  rw [(ct_bw (ct_sq_l p _ hp)).1]
theorem ct_all {H L fr mk : Int32} {ln t : Nat → Int32} {k kk l : Nat} (hkk : kk < 32) (hl : l ≤ 7) (hm : ∀ p, p < 32 → (nI p &&& mk = 0 ↔ (ct_bl p).getD k false = false)) : su (fw H L fr ln t mk kk (upd (fun _ => 0) 0 1) (upd (fun _ => 0) 0 1) l).1 32 = nI (ct_N l (ct_bl kk) (ct_F (fun i => ftp H L (hd fr ln i) (ln i) t) l)) ∧ ct_MB (ou (fw H L fr ln t mk kk (upd (fun _ => 0) 0 1) (upd (fun _ => 0) 0 1) l).2 32) (fun e => ct_N l (ct_bl kk) (ct_G (fun i => ftp H L (hd fr ln i) (ln i) t) k e l)) := by
  have h := ct_fw (H := H) (L := L) (fr := fr) (ln := ln) (t := t) hkk hm l hl
  constructor
  · have a := ct_su (w := (fw H L fr ln t mk kk (upd (fun _ => 0) 0 1) (upd (fun _ => 0) 0 1) l).1) (V := fun c => if c &&& kk = c then ct_W (fun i => ftp H L (hd fr ln i) (ln i) t) l (ct_bl c) else 0) 32 (fun c hc => by
      by_cases hq : c &&& kk = c
      · rw [((h c hc).1 hq).1, if_pos hq]
      · rw [((h c hc).2 hq).1, if_neg hq]
        rfl)
    rw [a, ct_al hkk (ct_W (fun i => ftp H L (hd fr ln i) (ln i) t) l), ct_N_s]
    rfl
  · have a := ct_ou (m := (fw H L fr ln t mk kk (upd (fun _ => 0) 0 1) (upd (fun _ => 0) 0 1) l).2) (T := fun c e => if c &&& kk = c then ct_D (fun i => ftp H L (hd fr ln i) (ln i) t) k e l (ct_bl c) else 0) 32 (fun c hc => by
      by_cases hq : c &&& kk = c
      · refine ct_MBe ((h c hc).1 hq).2 (fun e => ?_)
        show _ = if c &&& kk = c then _ else 0
        rw [if_pos hq]
      · rw [((h c hc).2 hq).2]
        refine ct_MBe ct_MB0 (fun e => ?_)
        show 0 = if c &&& kk = c then _ else 0
        rw [if_neg hq])
    refine ct_MBe a (fun e => ?_)
    rw [ct_al hkk (ct_D (fun i => ftp H L (hd fr ln i) (ln i) t) k e l), ct_N_s]
    rfl
/-- one day alone -/
theorem od_p : ∀ j : Nat, j < 8 → od 8 0 (nI (2 ^ j)) = nI j := by decide +kernel
theorem od_n : ∀ n : Nat, n < 256 → (∀ j : Nat, j < 8 → n ≠ 2 ^ j) → od 8 0 (nI n) = -1 := by decide +kernel
theorem ct_od0 {y : Int32} {T : Nat → Nat} (h : ct_MB y T) (h0 : ∀ e, T e = 0) : od 8 0 y = -1 := by
  obtain ⟨n, rfl, n2, n3⟩ := h
  refine od_n n n2 (fun j hj q => ?_)
  have := n3 j
  rw [q, Nat.testBit_two_pow, decide_eq_true rfl, h0 j] at this
  cases this
theorem ct_od1 {y : Int32} {T : Nat → Nat} {d : Nat} (h : ct_MB y T) (hd : d < 8) (h1 : ∀ e, 0 < T e ↔ e = d) : od 8 0 y = nI d := by
  obtain ⟨n, rfl, n2, n3⟩ := h
  have : n = 2 ^ d := by
    apply Nat.eq_of_testBit_eq
    intro e
    rw [n3 e, Nat.testBit_two_pow]
    by_cases he : d = e
    · rw [decide_eq_true he, decide_eq_true ((h1 e).mpr he.symm)]
    · rw [decide_eq_false he, decide_eq_false (fun q => he ((h1 e).mp q).symm)]
  rw [this]
  exact od_p d hd
theorem ct_od2 {y : Int32} {T : Nat → Nat} {a b : Nat} (h : ct_MB y T) (hab : a ≠ b) (ha : 0 < T a) (hb : 0 < T b) : od 8 0 y = -1 := by
  obtain ⟨n, rfl, n2, n3⟩ := h
  refine od_n n n2 (fun j hj q => ?_)
  have h1 := n3 a
  have h2 := n3 b
  rw [q, Nat.testBit_two_pow, decide_eq_true ha] at h1
  rw [q, Nat.testBit_two_pow, decide_eq_true hb] at h2
  have h1 := of_decide_eq_true h1
  have h2 := of_decide_eq_true h2
  omega
end S54
