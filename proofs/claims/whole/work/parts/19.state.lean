/-! the state of the class, by numbers -/
abbrev aQ (n : Nat) (f : Nat → Option Nat) : pE := .inl (3, n, .inr (.inr f))
abbrev oW (a b c d : Int32) : pE := .inr (11, [.ref 2, .ref 4, .ref 7, .ref 8, .ref 9, .ref 10, .ref 16, .ref 26, .ref 29, .int a, .int b, .int c, .int d])
abbrev oK (a b c : Int32) : pE := .inr (3, [.ref 17, .ref 18, .int a, .int b, .int c, .ref 24, .ref 25])
abbrev oF (qa sa : Nat) (x : Nat → Int32) : pE := .inr (8, [.int (x 0), .int (x 1), .ref 30, .ref 31, .ref qa, .ref sa, .int (x 2), .int (x 3), .int (x 4), .int (x 5), .int (x 6), .int (x 7), .int (x 8), .int (x 9)])
def IA (h : pH) (a n : Nat) : Prop := ∃ f, p_get h a = some (aI n f)
def IZ (h : pH) (a n : Nat) : Prop := ∃ f, p_get h a = some (aI n f) ∧ f 0 = 0
def JA (h : pH) (a n : Nat) : Prop := ∃ f, p_get h a = some (aJ n f)
abbrev pS : Type := Nat → Nat → Int32
/-- the class of a boat of a kind -/
def kc (k : Int32) : Nat := if k = 1 then 7 else if k = 2 then 0 else if k = 3 then 2 else if k = 4 then 10 else 1
/-- the cells that have a meaning: object, page, stair, water -/
def CA (σ : pS) (h : pH) : Prop := p_get h 1 = some (oW (σ 0 2) (σ 0 3) (σ 0 4) (σ 0 5)) ∧ p_get h 2 = some (oP 3 (σ 0 1)) ∧ p_get h 3 = some (aI 14 (σ 4)) ∧ p_get h 4 = some (oS 5 6 (σ 0 0)) ∧ p_get h 5 = some (aI 4 (σ 1)) ∧ p_get h 6 = some (aI 4 (σ 2)) ∧ p_get h 7 = some (aI 4 (σ 3))
/-- the boats -/
def CB (σ : pS) (ad : Nat → Nat) (bt : Nat) (h : pH) : Prop := (∃ f, p_get h 9 = some (aQ 5 f) ∧ ∀ i, i < bt → f i = some (ad i)) ∧ (∀ i, i < bt → 57 ≤ ad i ∧ ad i < h.1 ∧ p_get h (ad i) = some (oB (kc (σ 5 i)) (σ 6 i) (σ 7 i) (σ 8 i) (σ 9 i))) ∧ ∀ i j, i < bt → j < bt → ad i = ad j → i = j
/-- the mud -/
def CM (σ : pS) (h : pH) : Prop := (∃ cs, p_get h 10 = some (oM 11 12 13 14 15 (σ 0 8) (σ 0 6) (σ 0 7) cs)) ∧ p_get h 11 = some (aI 7 (σ 10))
/-- the image -/
def CK (σ : pS) (h : pH) : Prop := p_get h 16 = some (oK (σ 0 9) (σ 0 10) (σ 0 11)) ∧ p_get h 17 = some (aI 4 (σ 11)) ∧ (∃ cs, p_get h 18 = some (oM 19 20 21 22 23 (σ 0 14) (σ 0 12) (σ 0 13) cs)) ∧ p_get h 19 = some (aI 7 (σ 14)) ∧ p_get h 24 = some (aI 5 (σ 12)) ∧ p_get h 25 = some (aI 5 (σ 13))
/-- rows that are worked in -/
def CJ (h : pH) : Prop := IA h 8 4 ∧ IA h 12 5 ∧ IZ h 13 32 ∧ IA h 14 32 ∧ IA h 15 32 ∧ p_get h 26 = some (.inr (5, [.ref 27, .ref 28])) ∧ JA h 27 6 ∧ JA h 28 6 ∧ IA h 30 4 ∧ IA h 31 4
def CS (h : pH) : Prop := ∃ (qa sa : Nat) (x : Nat → Int32), p_get h 29 = some (oF qa sa x) ∧ ((qa = 32 ∧ sa = 33 ∧ IA h 32 0 ∧ JA h 33 0) ∨ (57 ≤ qa ∧ qa < h.1 ∧ 57 ≤ sa ∧ sa < h.1 ∧ IA h qa 18144 ∧ JA h sa 1024))
def nn (σ : pS) : Nat := (σ 0 0).toNatClampNeg
def np (σ : pS) : Nat := (σ 0 1).toNatClampNeg
def nt (σ : pS) : Nat := (σ 0 2).toNatClampNeg
def CR (σ : pS) (h : pH) : Prop := ∃ ad : Nat → Nat, CA σ h ∧ CB σ ad (nt σ) h ∧ CM σ h ∧ CK σ h ∧ CJ h ∧ CS h
/-- a scalar is set; a row is set -/
def s0 (σ : pS) (j : Nat) (x : Int32) : pS := va_up σ 0 (upd (σ 0) j x)
def s1 (σ : pS) (k : Nat) (f : Nat → Int32) : pS := va_up σ k f
theorem s0_if (σ : pS) (j : Nat) (x : Int32) (k : Nat) : s0 σ j x k = if k = 0 then upd (σ 0) j x else σ k := rfl
theorem s1_if (σ : pS) (j : Nat) (f : Nat → Int32) (k : Nat) : s1 σ j f k = if k = j then f else σ k := rfl
theorem u_if (f : Nat → Int32) (k : Nat) (x : Int32) (j : Nat) : upd f k x j = if j = k then x else f j := rfl
/-- the model's cells, and the script's, stay; some cells come -/
def MF (h h2 : pH) : Prop := (∀ k, k = 0 ∨ (34 ≤ k ∧ k < 57) → p_get h2 k = p_get h k) ∧ h.1 ≤ h2.1 ∧ h2.1 ≤ h.1 + 3 ∧ h2.2.1 ≤ h.2.1 + 20000
theorem MF_rf (h : pH) : MF h h := ⟨fun _ _ => rfl, Nat.le_refl _, by omega, by omega⟩
theorem MF_st {h h2 : pH} {a : Nat} {e : pE} (hf : MF h h2) (ha : ¬ (a = 0 ∨ (34 ≤ a ∧ a < 57))) : MF h (p_set h2 a e) := by
  refine ⟨fun k hk => ?_, hf.2.1, hf.2.2.1, hf.2.2.2⟩
  have hka : k ≠ a := by
    intro q
    subst q
    exact ha hk
  rw [g_ne hka]
  exact hf.1 k hk
theorem IA_st {h : pH} {a n b : Nat} {e : pE} (hi : IA h a n) (hab : a ≠ b) : IA (p_set h b e) a n := by
  obtain ⟨f, hf⟩ := hi
  exact ⟨f, by rw [g_ne hab]; exact hf⟩
theorem IZ_st {h : pH} {a n b : Nat} {e : pE} (hi : IZ h a n) (hab : a ≠ b) : IZ (p_set h b e) a n := by
  obtain ⟨f, hf, h0⟩ := hi
  exact ⟨f, by rw [g_ne hab]; exact hf, h0⟩
theorem JA_st {h : pH} {a n b : Nat} {e : pE} (hi : JA h a n) (hab : a ≠ b) : JA (p_set h b e) a n := by
  obtain ⟨f, hf⟩ := hi
  exact ⟨f, by rw [g_ne hab]; exact hf⟩
/-- a write elsewhere leaves the groups -/
theorem CB_st {σ : pS} {ad : Nat → Nat} {bt : Nat} {h : pH} {a : Nat} {e : pE} (hb : CB σ ad bt h) (ha : a < 57) (h9 : a ≠ 9) : CB σ ad bt (p_set h a e) := by
  obtain ⟨⟨f, h1, h2⟩, h3, h4⟩ := hb
  refine ⟨⟨f, by rw [g_ne (Ne.symm h9)]; exact h1, h2⟩, fun i hi => ?_, h4⟩
  obtain ⟨g1, g2, g3⟩ := h3 i hi
  exact ⟨g1, g2, by rw [g_ne (by omega)]; exact g3⟩
theorem CS_st {h : pH} {a : Nat} {e : pE} (hs : CS h) (ha : a < 57) (h1 : a ≠ 29) (h2 : a ≠ 32) (h3 : a ≠ 33) : CS (p_set h a e) := by
  obtain ⟨qa, sa, x, g1, g2⟩ := hs
  refine ⟨qa, sa, x, by rw [g_ne (Ne.symm h1)]; exact g1, ?_⟩
  rcases g2 with ⟨q1, q2, q3, q4⟩ | ⟨q1, q2, q3, q4, q5, q6⟩
  · exact Or.inl ⟨q1, q2, IA_st q3 (Ne.symm h2), JA_st q4 (Ne.symm h3)⟩
  · exact Or.inr ⟨q1, q2, q3, q4, IA_st q5 (by omega), JA_st q6 (by omega)⟩
def CJs : List Nat := [8, 12, 13, 14, 15, 26, 27, 28, 30, 31]
theorem CJ_st {h : pH} {a : Nat} {e : pE} (hj : CJ h) (ha : a ∉ CJs) : CJ (p_set h a e) := by
  obtain ⟨j1, j2, j3, j4, j5, j6, j7, j8, j9, j10⟩ := hj
  have hne : ∀ k ∈ CJs, k ≠ a := fun k hk q => ha (q ▸ hk)
  exact ⟨IA_st j1 (hne 8 (by decide)), IA_st j2 (hne 12 (by decide)), IZ_st j3 (hne 13 (by decide)), IA_st j4 (hne 14 (by decide)), IA_st j5 (hne 15 (by decide)), by rw [g_ne (hne 26 (by decide))]; exact j6, JA_st j7 (hne 27 (by decide)), JA_st j8 (hne 28 (by decide)), IA_st j9 (hne 30 (by decide)), IA_st j10 (hne 31 (by decide))⟩
theorem CM_st {σ : pS} {h : pH} {a : Nat} {e : pE} (hm : CM σ h) (h1 : a ≠ 10) (h2 : a ≠ 11) : CM σ (p_set h a e) := by
  obtain ⟨⟨cs, m1⟩, m2⟩ := hm
  exact ⟨⟨cs, by rw [g_ne (Ne.symm h1)]; exact m1⟩, by rw [g_ne (Ne.symm h2)]; exact m2⟩
def CKs : List Nat := [16, 17, 18, 19, 24, 25]
theorem CK_st {σ : pS} {h : pH} {a : Nat} {e : pE} (hk : CK σ h) (ha : a ∉ CKs) : CK σ (p_set h a e) := by
  obtain ⟨k1, k2, ⟨cs, k3⟩, k4, k5, k6⟩ := hk
  have hne : ∀ k ∈ CKs, k ≠ a := fun k hk q => ha (q ▸ hk)
  exact ⟨by rw [g_ne (hne 16 (by decide))]; exact k1, by rw [g_ne (hne 17 (by decide))]; exact k2, ⟨cs, by rw [g_ne (hne 18 (by decide))]; exact k3⟩, by rw [g_ne (hne 19 (by decide))]; exact k4, by rw [g_ne (hne 24 (by decide))]; exact k5, by rw [g_ne (hne 25 (by decide))]; exact k6⟩
/-- a number within bounds -/
def rg (x : Int32) (lo hi : Nat) : Prop := ∃ m : Nat, x = nI m ∧ lo ≤ m ∧ m ≤ hi
/-- what always holds of the state: n basins, ps letters, bt boats, sr stairs read; the rows of a time: water, boats' places and loads, mud -/
def INw (σ : pS) (n : Nat) (w : Nat → Int32) : Prop := (∀ i, i < n → ∃ m H : Nat, w i = nI m ∧ σ 1 i = nI H ∧ m ≤ H ∧ H ≤ 5) ∧ (1 ≤ n → w 0 = σ 1 0) ∧ ∀ i, n ≤ i → i < 4 → w i = 0
def INb (σ : pS) (n bt : Nat) (pl ld : Nat → Int32) : Prop := ∀ i, i < bt → (∃ m : Nat, pl i = nI m ∧ m < n) ∧ ∃ m c : Nat, ld i = nI m ∧ bc (kc (σ 5 i)) (σ 7 i) = nI c ∧ m ≤ c ∧ c ≤ 6
def INm (σ : pS) (n : Nat) (mb mf ml : Int32) (ln : Nat → Int32) : Prop := ∃ b l : Nat, mb = nI b ∧ b < 4 ∧ (b = 0 ∨ b < n) ∧ ml = nI l ∧ l ≤ 7 ∧ (b = 0 → l = 0) ∧ rg mf 0 5 ∧ ∀ i, i < l → rg (ln i) 0 5
def IN (σ : pS) (n ps bt sr : Nat) : Prop :=
  (σ 0 0 = nI n ∧ (n = 0 ∨ 2 ≤ n) ∧ n ≤ 4 ∧ σ 0 1 = nI ps ∧ ps ≤ 14 ∧ σ 0 2 = nI bt ∧ bt ≤ 5 ∧ (n = 0 → bt = 0) ∧ σ 0 4 = nI sr ∧ sr ≤ 1000000 ∧ (n = 0 ↔ sr = 0)) ∧
  (∀ i, i < n → rg (σ 1 i) 1 5 ∧ rg (σ 2 i) 0 5) ∧ (∀ i, i < ps → rg (σ 4 i) 1 126) ∧
  (∀ i, i < bt → rg (σ 5 i) 0 4 ∧ rg (σ 6 i) 0 5 ∧ rg (σ 7 i) 0 3) ∧
  INw σ n (σ 3) ∧ INb σ n bt (σ 8) (σ 9) ∧ INm σ n (σ 0 6) (σ 0 7) (σ 0 8) (σ 10) ∧ rg (σ 0 5) 0 40 ∧
  ∃ ks kb : Nat, σ 0 9 = nI ks ∧ ks ≤ sr ∧ σ 0 10 = nI kb ∧ kb ≤ 5 ∧ (ks = sr → 0 < ks → kb ≤ bt ∧ INw σ n (σ 11) ∧ INb σ n kb (σ 12) (σ 13) ∧ INm σ n (σ 0 12) (σ 0 13) (σ 0 14) (σ 14))
def IV (σ : pS) : Prop := ∃ n ps bt sr : Nat, IN σ n ps bt sr
theorem IN_n {σ : pS} {n ps bt sr : Nat} (h : IN σ n ps bt sr) : nn σ = n ∧ np σ = ps ∧ nt σ = bt := by
  obtain ⟨⟨h1, -, h2, h3, h4, h5, h6, -⟩, -⟩ := h
  unfold nn np nt
  rw [h1, h3, h5]
  exact ⟨nI_c (by omega), nI_c (by omega), nI_c (by omega)⟩
/-! blank, fault, letters -/
section S19
variable {σ : pS} {h : pH} {K : Option Value → pH → Prop}
def f_blank (σ : pS) : Int32 × pS := (σ 0 1, s0 σ 1 0)
theorem x_blank (hC : CR σ h) (hK : ∀ h2, CR (f_blank σ).2 h2 → MF h h2 → K (some (.int (f_blank σ).1)) h2) : Vm 70 [.ref 1] h K := by
  obtain ⟨ad, ⟨a1, a2, a3, a4, a5, a6, a7⟩, hB, hM, hKp, hJ, hS⟩ := hC
  simp (decide := true) only [e70_0, e70_1, e70_4, e70_7, e70_8, e70_9, e70_12, e70_13, e70_16, e70_17, m70, ok_11_0_11, fv13_0, ok_6_1_6, fv2_1, fs2_1, Kt_some, Kt_none, V_ite, g_if, g_ss, g_1, g_2, g_cn, g_iok, g_sok, g_bok, g_jok, g_qok, g_ivl, g_jvl, g_qvl, g_ist, g_bst, g_jst, g_qst, g_aln, g_isa, g_dl1, g_dl2, g_dl3, g_dl4, g_dl5, g_dd, g_rfs, g_rfn, p_sm0, p_sm1, p_sm2, p_sm3, p_sm4, true_and, and_true, if_true, if_false, ↓reduceIte, Nat.reduceEqDiff, reduceCtorEq, or_true, true_or, and_self, Int32.reduceLT, Int32.reduceAdd, Int32.reduceSub, Int32.reduceToNatClampNeg, not_false_eq_true, not_true_eq_false, a1, a2]
  refine hK _ ⟨ad, ⟨?_, ?_, ?_, ?_, ?_, ?_, ?_⟩, CB_st hB (by decide) (by decide), CM_st hM (by decide) (by decide), CK_st hKp (by decide), CJ_st hJ (by decide), CS_st hS (by decide) (by decide) (by decide) (by decide)⟩ (MF_st (MF_rf h) (by decide))
  all_goals simp (decide := true) only [Kt_some, Kt_none, V_ite, g_if, g_ss, g_1, g_2, g_cn, g_iok, g_sok, g_bok, g_jok, g_qok, g_ivl, g_jvl, g_qvl, g_ist, g_bst, g_jst, g_qst, g_aln, g_isa, g_dl1, g_dl2, g_dl3, g_dl4, g_dl5, g_dd, g_rfs, g_rfn, p_sm0, p_sm1, p_sm2, p_sm3, p_sm4, true_and, and_true, if_true, if_false, ↓reduceIte, Nat.reduceEqDiff, reduceCtorEq, or_true, true_or, and_self, Int32.reduceLT, Int32.reduceAdd, Int32.reduceSub, Int32.reduceToNatClampNeg, not_false_eq_true, not_true_eq_false, f_blank, s0_if, u_if, a1, a2, a3, a4, a5, a6, a7]
def f_fault (σ : pS) : Int32 × pS := (nI (ff (σ 4) (np σ) 0), σ)
theorem x_fault (hC : CR σ h) (hI : IV σ) (hK : ∀ h2, CR (f_fault σ).2 h2 → MF h h2 → K (some (.int (f_fault σ).1)) h2) : Vm 71 [.ref 1] h K := by
  obtain ⟨ad, hA, hrest⟩ := id hC
  obtain ⟨a1, a2, a3, -⟩ := id hA
  obtain ⟨n, ps, bt, sr, hI⟩ := hI
  obtain ⟨-, e2, -⟩ := IN_n hI
  obtain ⟨⟨-, -, -, e3, e4, -⟩, -⟩ := hI
  rw [e3] at a2
  simp (decide := true) only [e71_0, e71_1, e71_4, e71_7, m71, ok_11_0_11, fv13_0, Kt_some, Kt_none, V_ite, g_if, g_ss, g_1, g_2, g_cn, g_iok, g_sok, g_bok, g_jok, g_qok, g_ivl, g_jvl, g_qvl, g_ist, g_bst, g_jst, g_qst, g_aln, g_isa, g_dl1, g_dl2, g_dl3, g_dl4, g_dl5, g_dd, g_rfs, g_rfn, p_sm0, p_sm1, p_sm2, p_sm3, p_sm4, true_and, and_true, if_true, if_false, ↓reduceIte, Nat.reduceEqDiff, reduceCtorEq, or_true, true_or, and_self, Int32.reduceLT, Int32.reduceAdd, Int32.reduceSub, Int32.reduceToNatClampNeg, not_false_eq_true, not_true_eq_false, a1, a2, c33 a2 a3 e4]
  have := hK h hC (MF_rf h)
  unfold f_fault at this
  rw [e2] at this
  exact this
def f_letters (σ : pS) (w : Int64) : Int32 × pS := match li (fun j => bo w (nI j)) 8 0 0 with
  | none => (-102, σ)
  | some t => if 14 < np σ + t then (-104, σ) else (nI (np σ + t), s0 (s1 σ 4 (ap (σ 4) (np σ) (fun j => bo w (nI j)) t)) 1 (nI (np σ + t)))
theorem x_letters {w : Int64} (hC : CR σ h) (hI : IV σ) (hK : ∀ h2, CR (f_letters σ w).2 h2 → MF h h2 → K (some (.int (f_letters σ w).1)) h2) : Vm 69 [.ref 1, .long w] h K := by
  obtain ⟨ad, ⟨a1, a2, a3, a4, a5, a6, a7⟩, hB, hM, hKp, hJ, hS⟩ := id hC
  obtain ⟨n, ps, bt, sr, hI⟩ := hI
  obtain ⟨-, e2, -⟩ := IN_n hI
  obtain ⟨⟨-, -, -, e3, e4, -⟩, -⟩ := hI
  rw [e3] at a2
  unfold f_letters at hK
  rw [e2] at hK
  cases ho : li (fun j => bo w (nI j)) 8 0 0 with
  | none =>
    rw [ho] at hK
    simp (decide := true) only [e69_0, e69_1, e69_4, e69_5, e69_6, e69_9, e69_11, e69_12, e69_13, e69_16, e69_19, e69_20, e69_21, e69_23, e69_26, e69_28, e69_29, e69_30, e69_33, e69_34, e69_35, e69_38, e69_39, e69_42, e69_45, m69, ok_11_0_11, fv13_0, ok_6_1_6, fv2_1, Kt_some, Kt_none, V_ite, g_if, g_ss, g_1, g_2, g_cn, g_iok, g_sok, g_bok, g_jok, g_qok, g_ivl, g_jvl, g_qvl, g_ist, g_bst, g_jst, g_qst, g_aln, g_isa, g_dl1, g_dl2, g_dl3, g_dl4, g_dl5, g_dd, g_rfs, g_rfn, p_sm0, p_sm1, p_sm2, p_sm3, p_sm4, true_and, and_true, if_true, if_false, ↓reduceIte, Nat.reduceEqDiff, reduceCtorEq, or_true, true_or, and_self, Int32.reduceLT, Int32.reduceAdd, Int32.reduceSub, Int32.reduceToNatClampNeg, not_false_eq_true, not_true_eq_false, c30, ho, lr]
    exact hK h hC (MF_rf h)
  | some t =>
    obtain ⟨-, ht8⟩ := li_le _ _ _ _ _ ho
    rw [ho] at hK
    have e5 := nI_0F (a := t) (by omega)
    have e6 : nI ps + nI t = nI (ps + t) := nI_add ps t
    by_cases h14 : 14 < ps + t
    · have e7 : (14 < nI (ps + t)) = True := nI_T (a := 14) (b := ps + t) h14 (by omega)
      simp only [h14, if_true] at hK
      simp (decide := true) only [e69_0, e69_1, e69_4, e69_5, e69_6, e69_9, e69_11, e69_12, e69_13, e69_16, e69_19, e69_20, e69_21, e69_23, e69_26, e69_28, e69_29, e69_30, e69_33, e69_34, e69_35, e69_38, e69_39, e69_42, e69_45, m69, ok_11_0_11, fv13_0, ok_6_1_6, fv2_1, Kt_some, Kt_none, V_ite, g_if, g_ss, g_1, g_2, g_cn, g_iok, g_sok, g_bok, g_jok, g_qok, g_ivl, g_jvl, g_qvl, g_ist, g_bst, g_jst, g_qst, g_aln, g_isa, g_dl1, g_dl2, g_dl3, g_dl4, g_dl5, g_dd, g_rfs, g_rfn, p_sm0, p_sm1, p_sm2, p_sm3, p_sm4, true_and, and_true, if_true, if_false, ↓reduceIte, Nat.reduceEqDiff, reduceCtorEq, or_true, true_or, and_self, Int32.reduceLT, Int32.reduceAdd, Int32.reduceSub, Int32.reduceToNatClampNeg, not_false_eq_true, not_true_eq_false, c30, ho, lr, e5, e6, e7, a1, a2]
      exact hK h hC (MF_rf h)
    · have e7 : (14 < nI (ps + t)) = False := nI_F (a := 14) (b := ps + t) (by omega) (by omega)
      simp only [h14, if_false] at hK
      simp (decide := true) only [e69_0, e69_1, e69_4, e69_5, e69_6, e69_9, e69_11, e69_12, e69_13, e69_16, e69_19, e69_20, e69_21, e69_23, e69_26, e69_28, e69_29, e69_30, e69_33, e69_34, e69_35, e69_38, e69_39, e69_42, e69_45, m69, ok_11_0_11, fv13_0, ok_6_1_6, fv2_1, Kt_some, Kt_none, V_ite, g_if, g_ss, g_1, g_2, g_cn, g_iok, g_sok, g_bok, g_jok, g_qok, g_ivl, g_jvl, g_qvl, g_ist, g_bst, g_jst, g_qst, g_aln, g_isa, g_dl1, g_dl2, g_dl3, g_dl4, g_dl5, g_dd, g_rfs, g_rfn, p_sm0, p_sm1, p_sm2, p_sm3, p_sm4, true_and, and_true, if_true, if_false, ↓reduceIte, Nat.reduceEqDiff, reduceCtorEq, or_true, true_or, and_self, Int32.reduceLT, Int32.reduceAdd, Int32.reduceSub, Int32.reduceToNatClampNeg, not_false_eq_true, not_true_eq_false, c30, ho, lr, e5, e6, e7, a1, a2, c32 a2 a3 (show (3 : Nat) ≠ 2 by decide) (show ps + t ≤ 14 by omega)]
      refine hK _ ⟨ad, ⟨?_, ?_, ?_, ?_, ?_, ?_, ?_⟩, CB_st (CB_st hB (by decide) (by decide)) (by decide) (by decide), CM_st (CM_st hM (by decide) (by decide)) (by decide) (by decide), CK_st (CK_st hKp (by decide)) (by decide), CJ_st (CJ_st hJ (by decide)) (by decide), CS_st (CS_st hS (by decide) (by decide) (by decide) (by decide)) (by decide) (by decide) (by decide) (by decide)⟩ (MF_st (MF_st (MF_rf h) (by decide)) (by decide))
      all_goals simp (decide := true) only [Kt_some, Kt_none, V_ite, g_if, g_ss, g_1, g_2, g_cn, g_iok, g_sok, g_bok, g_jok, g_qok, g_ivl, g_jvl, g_qvl, g_ist, g_bst, g_jst, g_qst, g_aln, g_isa, g_dl1, g_dl2, g_dl3, g_dl4, g_dl5, g_dd, g_rfs, g_rfn, p_sm0, p_sm1, p_sm2, p_sm3, p_sm4, true_and, and_true, if_true, if_false, ↓reduceIte, Nat.reduceEqDiff, reduceCtorEq, or_true, true_or, and_self, Int32.reduceLT, Int32.reduceAdd, Int32.reduceSub, Int32.reduceToNatClampNeg, not_false_eq_true, not_true_eq_false, s0_if, s1_if, u_if, a1, a2, a3, a4, a5, a6, a7]
end S19
