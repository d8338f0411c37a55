/-! the pure machine, an instruction a rewriting row -/
def p_ok1 (cis : List Nat) (k : Nat) : Option pE → Prop
  | some (.inr (ci, fs)) => (cis.contains ci && decide (k < fs.length)) = true
  | _ => False
def p_fv (k : Nat) : Option pE → Value
  | some (.inr (_, fs)) => fs.getD k .null
  | _ => .null
def p_fs (k : Nat) (v : Value) : Option pE → pE
  | some (.inr (ci, fs)) => .inr (ci, fs.set k v)
  | _ => .inr (0, [])
def p_cn1 : Option pE → Nat
  | some (.inr (ci, _)) => ci
  | _ => 99
def p_iok (i : Int32) : Option pE → Prop
  | some (.inl (kd, n, .inl _)) => (kd = 0 ∨ kd = 4) ∧ vp_in i n
  | _ => False
def p_sok (i : Int32) : Option pE → Prop
  | some (.inl (kd, n, .inl _)) => kd = 0 ∧ vp_in i n
  | _ => False
def p_bok (i : Int32) : Option pE → Prop
  | some (.inl (kd, n, .inl _)) => kd = 1 ∧ vp_in i n
  | _ => False
def p_jok (i : Int32) : Option pE → Prop
  | some (.inl (kd, n, .inr (.inl _))) => kd = 2 ∧ vp_in i n
  | _ => False
def p_qok (i : Int32) : Option pE → Prop
  | some (.inl (kd, n, .inr (.inr _))) => kd = 3 ∧ vp_in i n
  | _ => False
def p_ivl (i : Int32) : Option pE → Int32
  | some (.inl (_, _, .inl f)) => f i.toNatClampNeg
  | _ => 0
def p_jvl (i : Int32) : Option pE → Int64
  | some (.inl (_, _, .inr (.inl f))) => f i.toNatClampNeg
  | _ => 0
def p_qvl (i : Int32) : Option pE → Option Nat
  | some (.inl (_, _, .inr (.inr f))) => f i.toNatClampNeg
  | _ => none
def p_ist (i x : Int32) : Option pE → pE
  | some (.inl (_, n, .inl f)) => .inl (0, n, .inl (upd f i.toNatClampNeg x))
  | _ => .inr (0, [])
def p_bst (i x : Int32) : Option pE → pE
  | some (.inl (_, n, .inl f)) => .inl (1, n, .inl (upd f i.toNatClampNeg (vp_nar .byte x)))
  | _ => .inr (0, [])
def p_jst (i : Int32) (x : Int64) : Option pE → pE
  | some (.inl (_, n, .inr (.inl f))) => .inl (2, n, .inr (.inl (vp_updL f i.toNatClampNeg x)))
  | _ => .inr (0, [])
def p_qst (i : Int32) (v : Nat) : Option pE → pE
  | some (.inl (_, n, .inr (.inr f))) => .inl (3, n, .inr (.inr (va_up f i.toNatClampNeg (some v))))
  | _ => .inr (0, [])
def p_aln : Option pE → Nat
  | some (.inl (_, n, _)) => n
  | _ => 0
def p_isa : Option pE → Prop
  | some (.inl _) => True
  | _ => False
def p_sm (st : List Value) : Prop := p_cs st ≤ 8
theorem p_cat_le (v : Value) : v.category ≤ 2 := by cases v <;> simp [Value.category]
theorem p_sm0 : p_sm [] = True := by simp [p_sm, p_cs]
theorem p_sm1 (a : Value) : p_sm [a] = True := by
  have := p_cat_le a
  simp [p_sm, p_cs]; omega
theorem p_sm2 (a b : Value) : p_sm [a, b] = True := by
  have := p_cat_le a
  have := p_cat_le b
  simp [p_sm, p_cs]; omega
theorem p_sm3 (a b c : Value) : p_sm [a, b, c] = True := by
  have := p_cat_le a
  have := p_cat_le b
  have := p_cat_le c
  simp [p_sm, p_cs]; omega
theorem p_sm4 (a b c d : Value) : p_sm [a, b, c, d] = True := by
  have := p_cat_le a
  have := p_cat_le b
  have := p_cat_le c
  have := p_cat_le d
  simp [p_sm, p_cs]; omega
section VL
variable {y pc k : Nat} {I : Instr} {L L1 : pL} {st st1 : List Value} {h h1 : pH} {Q : Option Value → pH → Prop} {pc1 : Nat}
theorem V_if {P : Prop} (hd : decode (p_c y) pc = .ok (I, k)) (hk : p_ck I k = true) (hp1 : P → p_st y I pc L st h = p_nx pc1 L1 st1 h1) (hp2 : ¬ P → p_st y I pc L st h = none) : V y pc L st h Q = (P ∧ V y pc1 L1 st1 h1 Q) := by
  by_cases hP : P
  · rw [V_nx hd hk (hp1 hP)]
    simp [hP]
  · rw [V_no hd hk (hp2 hP)]
    simp [hP]
theorem V_c {i : Int} {v : Int32} (hd : decode (p_c y) pc = .ok (.iconst i, 1)) (hv : Int32.ofInt i = v) : V y pc L st h Q = V y (pc + 1) L (.int v :: st) h Q := by
  subst hv
  exact V_nx hd rfl rfl
theorem V_b {i : Int} {v : Int32} (hd : decode (p_c y) pc = .ok (.bipush i, 2)) (hv : (Int8.ofInt i).toInt32 = v) : V y pc L st h Q = V y (pc + 2) L (.int v :: st) h Q := by
  subst hv
  exact V_nx hd rfl rfl
theorem V_s {i : Int} {v : Int32} (hd : decode (p_c y) pc = .ok (.sipush i, 3)) (hv : (Int16.ofInt i).toInt32 = v) : V y pc L st h Q = V y (pc + 3) L (.int v :: st) h Q := by
  subst hv
  exact V_nx hd rfl rfl
theorem V_lc {i : Fin 2} {v : Int64} (hd : decode (p_c y) pc = .ok (.lconst i, 1)) (hv : Int64.ofNat (i : Nat) = v) : V y pc L st h Q = V y (pc + 1) L (.long v :: st) h Q := by
  subst hv
  exact V_nx hd rfl rfl
theorem V_ldc {idx : Nat} {v : Int32} (hd : decode (p_c y) pc = .ok (.ldc idx, 2)) (hl : p_lu kT y idx = some v) : V y pc L st h Q = V y (pc + 2) L (.int v :: st) h Q := V_nx hd rfl (by simp only [p_st, hl])
theorem V_ldc2 {idx : Nat} {v : Int64} (hd : decode (p_c y) pc = .ok (.ldc2_w idx, 3)) (hl : p_lu lT y idx = some v) : V y pc L st h Q = V y (pc + 3) L (.long v :: st) h Q := V_nx hd rfl (by simp only [p_st, hl])
theorem V_br {c : Bool} {off : Int} {t : Nat} (hd : decode (p_c y) pc = .ok (I, k)) (hk : p_ck I k = true) (hs : p_st y I pc L st h = p_br c pc off L st1 h) (ht : (pc : Int) + off = (t : Int)) : V y pc L st h Q = if c = true then V y t L st1 h Q else V y (pc + 3) L st1 h Q := by
  have e : p_br c pc off L st1 h = if c = true then p_nx t L st1 h else p_nx (pc + 3) L st1 h := by
    unfold p_br
    rw [ht]
    simp
  rw [e] at hs
  cases c with
  | true => rw [if_pos rfl] at hs ⊢; exact V_nx hd hk hs
  | false => rw [if_neg (by decide)] at hs ⊢; exact V_nx hd hk hs
theorem V_goto {off : Int} {t : Nat} (hd : decode (p_c y) pc = .ok (.goto off, 3)) (ht : (pc : Int) + off = (t : Int)) : V y pc L st h Q = V y t L st h Q := by
  refine V_nx hd rfl ?_
  show p_tg pc off L st h = _
  unfold p_tg
  rw [ht]
  simp
theorem V_icmp {c : ClassFile.Cond} {off : Int} {t : Nat} {x z : Int32} (hd : decode (p_c y) pc = .ok (.if_icmp c off, 3)) (ht : (pc : Int) + off = (t : Int)) : V y pc L (.int z :: .int x :: st) h Q = if p_cmp c x z = true then V y t L st h Q else V y (pc + 3) L st h Q := V_br hd rfl rfl ht
theorem V_ifc {c : ClassFile.Cond} {off : Int} {t : Nat} {x : Int32} (hd : decode (p_c y) pc = .ok (.ifCond c off, 3)) (ht : (pc : Int) + off = (t : Int)) : V y pc L (.int x :: st) h Q = if p_cmp c x 0 = true then V y t L st h Q else V y (pc + 3) L st h Q := V_br hd rfl rfl ht
theorem i_eq {x z : Int32} {A B : Prop} : (if p_cmp .eq x z = true then A else B) = if x = z then A else B := by simp [p_cmp]
theorem i_ne {x z : Int32} {A B : Prop} : (if p_cmp .ne x z = true then A else B) = if x = z then B else A := by by_cases h : x = z <;> simp [p_cmp, h]
theorem i_lt {x z : Int32} {A B : Prop} : (if p_cmp .lt x z = true then A else B) = if x < z then A else B := by simp [p_cmp]
theorem i_ge {x z : Int32} {A B : Prop} : (if p_cmp .ge x z = true then A else B) = if x < z then B else A := by
  by_cases h : x < z
  · have h2 : ¬ z ≤ x := by rw [Int32.le_iff_toInt_le]; rw [Int32.lt_iff_toInt_lt] at h; omega
    simp [p_cmp, h, h2]
  · have h2 : z ≤ x := by rw [Int32.le_iff_toInt_le]; rw [Int32.lt_iff_toInt_lt] at h; omega
    simp [p_cmp, h, h2]
theorem i_gt {x z : Int32} {A B : Prop} : (if p_cmp .gt x z = true then A else B) = if z < x then A else B := by simp [p_cmp]
theorem i_le {x z : Int32} {A B : Prop} : (if p_cmp .le x z = true then A else B) = if z < x then B else A := by
  by_cases h : z < x
  · have h2 : ¬ x ≤ z := by rw [Int32.le_iff_toInt_le]; rw [Int32.lt_iff_toInt_lt] at h; omega
    simp [p_cmp, h, h2]
  · have h2 : x ≤ z := by rw [Int32.le_iff_toInt_le]; rw [Int32.lt_iff_toInt_lt] at h; omega
    simp [p_cmp, h, h2]
theorem V_nullN {off : Int} {t : Nat} (hd : decode (p_c y) pc = .ok (.ifnull off, 3)) (ht : (pc : Int) + off = (t : Int)) : V y pc L (.null :: st) h Q = V y t L st h Q := by
  refine V_nx hd rfl ?_
  show p_tg pc off L st h = _
  unfold p_tg
  rw [ht]
  simp
theorem V_nullR {off : Int} {a : Nat} (hd : decode (p_c y) pc = .ok (.ifnull off, 3)) : V y pc L (.ref a :: st) h Q = V y (pc + 3) L st h Q := V_nx hd rfl rfl
theorem V_nonN {off : Int} (hd : decode (p_c y) pc = .ok (.ifnonnull off, 3)) : V y pc L (.null :: st) h Q = V y (pc + 3) L st h Q := V_nx hd rfl rfl
theorem V_nonR {off : Int} {t a : Nat} (hd : decode (p_c y) pc = .ok (.ifnonnull off, 3)) (ht : (pc : Int) + off = (t : Int)) : V y pc L (.ref a :: st) h Q = V y t L st h Q := by
  refine V_nx hd rfl ?_
  show p_tg pc off L st h = _
  unfold p_tg
  rw [ht]
  simp
theorem V_idiv {a b : Int32} (hd : decode (p_c y) pc = .ok (.idiv, 1)) : V y pc L (.int b :: .int a :: st) h Q = (¬ b = 0 ∧ V y (pc + 1) L (.int (a / b) :: st) h Q) := by
  refine V_if hd rfl (fun q => ?_) (fun q => ?_) <;> simp only [p_st, p_id]
  · rw [if_neg q]
  · rw [if_pos (Decidable.not_not.mp q)]
theorem V_irem {a b : Int32} (hd : decode (p_c y) pc = .ok (.irem, 1)) : V y pc L (.int b :: .int a :: st) h Q = (¬ b = 0 ∧ V y (pc + 1) L (.int (a - a / b * b) :: st) h Q) := by
  refine V_if hd rfl (fun q => ?_) (fun q => ?_) <;> simp only [p_st, p_id]
  · rw [if_neg q]
  · rw [if_pos (Decidable.not_not.mp q)]
theorem V_ldiv {a b : Int64} (hd : decode (p_c y) pc = .ok (.ldiv, 1)) : V y pc L (.long b :: .long a :: st) h Q = (¬ b = 0 ∧ V y (pc + 1) L (.long (a / b) :: st) h Q) := by
  refine V_if hd rfl (fun q => ?_) (fun q => ?_) <;> simp only [p_st, p_jd]
  · rw [if_neg q]
  · rw [if_pos (Decidable.not_not.mp q)]
theorem V_lrem {a b : Int64} (hd : decode (p_c y) pc = .ok (.lrem, 1)) : V y pc L (.long b :: .long a :: st) h Q = (¬ b = 0 ∧ V y (pc + 1) L (.long (a - a / b * b) :: st) h Q) := by
  refine V_if hd rfl (fun q => ?_) (fun q => ?_) <;> simp only [p_st, p_jd]
  · rw [if_neg q]
  · rw [if_pos (Decidable.not_not.mp q)]
theorem V_gf {idx a kk : Nat} {cis : List Nat} {t : Nat × Nat × String} (hd : decode (p_c y) pc = .ok (.getfield idx, 3)) (hl : p_lu fT y idx = some (kk, cis, t)) : V y pc L (.ref a :: st) h Q = (p_ok1 cis kk (p_get h a) ∧ V y (pc + 3) L (p_fv kk (p_get h a) :: st) h Q) := by
  refine V_if hd rfl (fun q => ?_) (fun q => ?_) <;> simp only [p_st, p_gf, hl]
  · match hg : p_get h a, q with
    | some (.inr (ci, fs)), q =>
      simp only [p_ok1, Bool.and_eq_true, decide_eq_true_eq] at q
      simp only [p_fv]
      rw [if_pos q.1, List.getElem?_eq_getElem q.2, List.getD_eq_getElem?_getD, List.getElem?_eq_getElem q.2]
      rfl
  · match hg : p_get h a, q with
    | some (.inr (ci, fs)), q =>
      simp only [p_ok1, Bool.and_eq_true, decide_eq_true_eq, not_and] at q
      dsimp only
      by_cases hc : cis.contains ci = true
      · rw [if_pos hc, List.getElem?_eq_none (by have := q hc; omega)]
      · rw [if_neg hc]
    | none, q => rfl
    | some (.inl _), q => rfl
theorem V_pf {idx a kk tc fin : Nat} {v : Value} {cis : List Nat} {ref : String} (hd : decode (p_c y) pc = .ok (.putfield idx, 3)) (hl : p_lu fT y idx = some (kk, cis, tc, fin, ref)) (hf : (fin == 0 || (fin == 1 && p_in y)) = true) : V y pc L (v :: .ref a :: st) h Q = ((p_okv tc v = true ∧ p_ok1 cis kk (p_get h a)) ∧ V y (pc + 3) L st (p_set h a (p_fs kk v (p_get h a))) Q) := by
  refine V_if hd rfl (fun q => ?_) (fun q => ?_) <;> simp only [p_st, p_pf, hl, hf]
  · obtain ⟨q1, q2⟩ := q
    match hg : p_get h a, q2 with
    | some (.inr (ci, fs)), q =>
      simp only [p_ok1, Bool.and_eq_true, decide_eq_true_eq] at q
      simp only [p_fs]
      rw [if_pos (by rw [q.1, q1]; simp [q.2])]
  · match hg : p_get h a, q with
    | some (.inr (ci, fs)), q =>
      simp only [p_ok1] at q
      dsimp only
      rw [if_neg]
      intro z
      simp only [Bool.and_eq_true, decide_eq_true_eq] at z
      exact q ⟨z.1.1.2, by rw [z.1.1.1]; simp [z.1.2]⟩
    | none, q => rfl
    | some (.inl _), q => rfl
theorem V_ial {a : Nat} {i : Int32} (hd : decode (p_c y) pc = .ok (.iaload, 1)) : V y pc L (.int i :: .ref a :: st) h Q = (p_iok i (p_get h a) ∧ V y (pc + 1) L (.int (p_ivl i (p_get h a)) :: st) h Q) := by
  refine V_if hd rfl (fun q => ?_) (fun q => ?_) <;> simp only [p_st, p_ial]
  · match hg : p_get h a, q with
    | some (.inl (kd, n, .inl f)), q => exact if_pos q
  · match hg : p_get h a, q with
    | some (.inl (kd, n, .inl f)), q => exact if_neg q
    | none, q => rfl
    | some (.inl (_, _, .inr _)), q => rfl
    | some (.inr _), q => rfl
theorem V_bal {a : Nat} {i : Int32} (hd : decode (p_c y) pc = .ok (.baload, 1)) : V y pc L (.int i :: .ref a :: st) h Q = (p_bok i (p_get h a) ∧ V y (pc + 1) L (.int (p_ivl i (p_get h a)) :: st) h Q) := by
  refine V_if hd rfl (fun q => ?_) (fun q => ?_) <;> simp only [p_st, p_bal]
  · match hg : p_get h a, q with
    | some (.inl (kd, n, .inl f)), q => exact if_pos q
  · match hg : p_get h a, q with
    | some (.inl (kd, n, .inl f)), q => exact if_neg q
    | none, q => rfl
    | some (.inl (_, _, .inr _)), q => rfl
    | some (.inr _), q => rfl
theorem V_lal {a : Nat} {i : Int32} (hd : decode (p_c y) pc = .ok (.laload, 1)) : V y pc L (.int i :: .ref a :: st) h Q = (p_jok i (p_get h a) ∧ V y (pc + 1) L (.long (p_jvl i (p_get h a)) :: st) h Q) := by
  refine V_if hd rfl (fun q => ?_) (fun q => ?_) <;> simp only [p_st, p_lal]
  · match hg : p_get h a, q with
    | some (.inl (kd, n, .inr (.inl f))), q => exact if_pos q
  · match hg : p_get h a, q with
    | some (.inl (kd, n, .inr (.inl f))), q => exact if_neg q
    | none, q => rfl
    | some (.inl (_, _, .inl _)), q => rfl
    | some (.inl (_, _, .inr (.inr _))), q => rfl
    | some (.inr _), q => rfl
theorem V_aal {a : Nat} {i : Int32} (hd : decode (p_c y) pc = .ok (.aaload, 1)) : V y pc L (.int i :: .ref a :: st) h Q = (p_qok i (p_get h a) ∧ V y (pc + 1) L (va_rf (p_qvl i (p_get h a)) :: st) h Q) := by
  refine V_if hd rfl (fun q => ?_) (fun q => ?_) <;> simp only [p_st, p_aal]
  · match hg : p_get h a, q with
    | some (.inl (kd, n, .inr (.inr f))), q => exact if_pos q
  · match hg : p_get h a, q with
    | some (.inl (kd, n, .inr (.inr f))), q => exact if_neg q
    | none, q => rfl
    | some (.inl (_, _, .inl _)), q => rfl
    | some (.inl (_, _, .inr (.inl _))), q => rfl
    | some (.inr _), q => rfl
theorem V_ias {a : Nat} {i x : Int32} (hd : decode (p_c y) pc = .ok (.iastore, 1)) : V y pc L (.int x :: .int i :: .ref a :: st) h Q = (p_sok i (p_get h a) ∧ V y (pc + 1) L st (p_set h a (p_ist i x (p_get h a))) Q) := by
  refine V_if hd rfl (fun q => ?_) (fun q => ?_) <;> simp only [p_st, p_ias]
  · match hg : p_get h a, q with
    | some (.inl (kd, n, .inl f)), q => exact if_pos q
  · match hg : p_get h a, q with
    | some (.inl (kd, n, .inl f)), q => exact if_neg q
    | none, q => rfl
    | some (.inl (_, _, .inr _)), q => rfl
    | some (.inr _), q => rfl
theorem V_bas {a : Nat} {i x : Int32} (hd : decode (p_c y) pc = .ok (.bastore, 1)) : V y pc L (.int x :: .int i :: .ref a :: st) h Q = (p_bok i (p_get h a) ∧ V y (pc + 1) L st (p_set h a (p_bst i x (p_get h a))) Q) := by
  refine V_if hd rfl (fun q => ?_) (fun q => ?_) <;> simp only [p_st, p_bas]
  · match hg : p_get h a, q with
    | some (.inl (kd, n, .inl f)), q => exact if_pos q
  · match hg : p_get h a, q with
    | some (.inl (kd, n, .inl f)), q => exact if_neg q
    | none, q => rfl
    | some (.inl (_, _, .inr _)), q => rfl
    | some (.inr _), q => rfl
theorem V_las {a : Nat} {i : Int32} {x : Int64} (hd : decode (p_c y) pc = .ok (.lastore, 1)) : V y pc L (.long x :: .int i :: .ref a :: st) h Q = (p_jok i (p_get h a) ∧ V y (pc + 1) L st (p_set h a (p_jst i x (p_get h a))) Q) := by
  refine V_if hd rfl (fun q => ?_) (fun q => ?_) <;> simp only [p_st, p_las]
  · match hg : p_get h a, q with
    | some (.inl (kd, n, .inr (.inl f))), q => exact if_pos q
  · match hg : p_get h a, q with
    | some (.inl (kd, n, .inr (.inl f))), q => exact if_neg q
    | none, q => rfl
    | some (.inl (_, _, .inl _)), q => rfl
    | some (.inl (_, _, .inr (.inr _))), q => rfl
    | some (.inr _), q => rfl
theorem V_aas {a v : Nat} {i : Int32} (hd : decode (p_c y) pc = .ok (.aastore, 1)) : V y pc L (.ref v :: .int i :: .ref a :: st) h Q = ((p_bt (p_cn1 (p_get h v)) = true ∧ p_qok i (p_get h a)) ∧ V y (pc + 1) L st (p_set h a (p_qst i v (p_get h a))) Q) := by
  refine V_if hd rfl (fun q => ?_) (fun q => ?_) <;> simp only [p_st, p_aas]
  · match hv : p_get h v, q with
    | some (.inr (ci, fs)), q =>
      match hg : p_get h a, q with
      | some (.inl (kd, n, .inr (.inr f))), q => exact if_pos ⟨q.1, q.2⟩
    | none, q => cases q.1
    | some (.inl _), q => cases q.1
  · match hv : p_get h v, q with
    | some (.inr (ci, fs)), q =>
      match hg : p_get h a, q with
      | some (.inl (kd, n, .inr (.inr f))), q => exact if_neg q
      | none, q => rfl
      | some (.inl (_, _, .inl _)), q => rfl
      | some (.inl (_, _, .inr (.inl _))), q => rfl
      | some (.inr _), q => rfl
    | none, q => rfl
    | some (.inl _), q => rfl
theorem V_len {a : Nat} (hd : decode (p_c y) pc = .ok (.arraylength, 1)) : V y pc L (.ref a :: st) h Q = (p_isa (p_get h a) ∧ V y (pc + 1) L (.int (Int32.ofNat (p_aln (p_get h a))) :: st) h Q) := by
  refine V_if hd rfl (fun q => ?_) (fun q => ?_) <;> simp only [p_st, p_len]
  · match hg : p_get h a, q with
    | some (.inl (kd, n, x)), q => rfl
  · match hg : p_get h a, q with
    | some (.inl (kd, n, x)), q => exact absurd trivial q
    | none, q => rfl
    | some (.inr _), q => rfl
theorem V_dup {v : Value} (hd : decode (p_c y) pc = .ok (.dup, 1)) (hv : p_c1 v = true) : V y pc L (v :: st) h Q = V y (pc + 1) L (v :: v :: st) h Q := V_nx hd rfl (by simp only [p_st, hv]; rfl)
theorem V_new {idx ci : Nat} (hd : decode (p_c y) pc = .ok (.new idx, 3)) (hl : p_lu nT y idx = some ci) : V y pc L st h Q = V y (pc + 3) L (.ref h.1 :: st) (p_new h (.inr (ci, p_df ci)) (p_df ci).length) Q := V_nx hd rfl (by simp only [p_st, p_nw, hl])
theorem V_nai {n : Int32} {N : Nat} (hd : decode (p_c y) pc = .ok (.newarray .int, 2)) (hn : ¬ (n < 0 ∨ 100000 < n.toNatClampNeg)) (hN : n.toNatClampNeg = N) : V y pc L (.int n :: st) h Q = V y (pc + 2) L (.ref h.1 :: st) (p_new h (.inl (0, N, .inl (fun _ => 0))) N) Q := by
  subst hN
  exact V_nx hd rfl (by simp only [p_st, p_na]; rw [if_neg hn])
theorem V_nab {n : Int32} {N : Nat} (hd : decode (p_c y) pc = .ok (.newarray .byte, 2)) (hn : ¬ (n < 0 ∨ 100000 < n.toNatClampNeg)) (hN : n.toNatClampNeg = N) : V y pc L (.int n :: st) h Q = V y (pc + 2) L (.ref h.1 :: st) (p_new h (.inl (1, N, .inl (fun _ => 0))) N) Q := by
  subst hN
  exact V_nx hd rfl (by simp only [p_st, p_na]; rw [if_neg hn])
theorem V_nal {n : Int32} {N : Nat} (hd : decode (p_c y) pc = .ok (.newarray .long, 2)) (hn : ¬ (n < 0 ∨ 100000 < n.toNatClampNeg)) (hN : n.toNatClampNeg = N) : V y pc L (.int n :: st) h Q = V y (pc + 2) L (.ref h.1 :: st) (p_new h (.inl (2, N, .inr (.inl (fun _ => 0)))) N) Q := by
  subst hN
  exact V_nx hd rfl (by simp only [p_st, p_na]; rw [if_neg hn])
theorem V_naq {idx N : Nat} {n : Int32} (hd : decode (p_c y) pc = .ok (.anewarray idx, 3)) (hl : p_lu nT y idx = some 1) (hn : ¬ (n < 0 ∨ 100000 < n.toNatClampNeg)) (hN : n.toNatClampNeg = N) : V y pc L (.int n :: st) h Q = V y (pc + 3) L (.ref h.1 :: st) (p_new h (.inl (3, N, .inr (.inr (fun _ => none)))) N) Q := by
  subst hN
  exact V_nx hd rfl (by simp only [p_st, p_nq, hl]; rw [if_neg hn])
theorem V_ioN {idx : Nat} (hd : decode (p_c y) pc = .ok (.instanceof idx, 3)) : V y pc L (.null :: st) h Q = V y (pc + 3) L (.int 0 :: st) h Q := V_nx hd rfl rfl
theorem V_ioR {idx a t : Nat} (hd : decode (p_c y) pc = .ok (.instanceof idx, 3)) (hl : p_lu nT y idx = some t) (ht : (t == 0 || t == 2 || t == 7 || t == 10) = true) : V y pc L (.ref a :: st) h Q = (p_bt (p_cn1 (p_get h a)) = true ∧ V y (pc + 3) L (.int (if p_is (p_cn1 (p_get h a)) t then 1 else 0) :: st) h Q) := by
  refine V_if hd rfl (fun q => ?_) (fun q => ?_) <;> simp only [p_st, p_io, hl, ht]
  · match hg : p_get h a, q with
    | some (.inr (ci, fs)), q =>
      simp only [p_cn1] at q ⊢
      rw [if_pos (by rw [q]; rfl)]
      rfl
    | none, q => cases q
    | some (.inl _), q => cases q
  · match hg : p_get h a, q with
    | some (.inr (ci, fs)), q =>
      simp only [p_cn1] at q
      exact if_neg (by simp [q])
    | none, q => rfl
    | some (.inl _), q => rfl
/-- calls -/
theorem V_cif {P : Prop} {z : Nat} {as : List Value} (hd : decode (p_c y) pc = .ok (I, k)) (hk : p_ck I k = true) (h1 : P → p_st y I pc L st h = some (.inr (.inl (z, as, pc1, st1)))) (h2 : ¬ P → p_st y I pc L st h = none) : V y pc L st h Q = (P ∧ Vm z as h (Kt y pc1 L st1 Q)) := by
  by_cases hP : P
  · rw [V_cl hd hk (h1 hP)]
    simp [hP]
  · rw [V_no hd hk (h2 hP)]
    simp [hP]
theorem p_cl1 {y z pc : Nat} {as r : List Value} (hf : (decide (p_dep z + 1 ≤ p_dep y) && decide (8 + (p_x z + 11) + p_wds z ≤ p_wds y)) = true) (hn : decide ((p_en1 as).length ≤ p_x z) = true) : p_cl y z pc as r = if p_cs r ≤ 8 then some (.inr (.inl (z, as, pc + 3, r))) else none := by
  unfold p_cl p_fit
  rw [hf, hn]
  by_cases h : p_cs r ≤ 8 <;> simp [h]
theorem V_st {idx n z : Nat} {as : List Value} (hd : decode (p_c y) pc = .ok (.invokestatic idx, 3)) (hl : p_lu sT y idx = some (n, z)) (hn : as.length = n) (hf : (decide (p_dep z + 1 ≤ p_dep y) && decide (8 + (p_x z + 11) + p_wds z ≤ p_wds y)) = true) (he : decide ((p_en1 as.reverse).length ≤ p_x z) = true) : V y pc L (as ++ st) h Q = (p_sm st ∧ Vm z as.reverse h (Kt y (pc + 3) L st Q)) := by
  have e1 : (as ++ st).take n = as := by rw [← hn]; exact List.take_left
  have e2 : (as ++ st).drop n = st := by rw [← hn]; exact List.drop_left
  refine V_cif hd rfl (fun q => ?_) (fun q => ?_) <;> simp only [p_st, p_is1, hl, e1, e2, hn, if_true, p_cl1 hf he]
  · exact if_pos q
  · exact if_neg q
theorem V_sp {idx n z a : Nat} {as : List Value} (hd : decode (p_c y) pc = .ok (.invokespecial idx, 3)) (hl : p_lu qT y idx = some (n, z)) (hn : as.length = n) (hf : (decide (p_dep z + 1 ≤ p_dep y) && decide (8 + (p_x z + 11) + p_wds z ≤ p_wds y)) = true) (he : decide ((p_en1 (.ref a :: as.reverse)).length ≤ p_x z) = true) : V y pc L (as ++ .ref a :: st) h Q = (p_sm st ∧ Vm z (.ref a :: as.reverse) h (Kt y (pc + 3) L st Q)) := by
  have e1 : (as ++ .ref a :: st).take n = as := by rw [← hn]; exact List.take_left
  have e2 : (as ++ .ref a :: st).drop n = .ref a :: st := by rw [← hn]; exact List.drop_left
  refine V_cif hd rfl (fun q => ?_) (fun q => ?_) <;> simp only [p_st, p_iq, hl, e1, e2, hn, if_true, p_cl1 hf he]
  · exact if_pos q
  · exact if_neg q
theorem V_oi {idx a : Nat} (hd : decode (p_c y) pc = .ok (.invokespecial idx, 3)) (hl : p_lu qT y idx = none) (hf : (decide (idx < 1000) && oT.contains (p_o y * 1000 + idx) && decide (1 ≤ p_dep y) && decide (40 ≤ p_wds y)) = true) : V y pc L (.ref a :: st) h Q = (p_sm st ∧ V y (pc + 3) L st h Q) := by
  refine V_if hd rfl (fun q => ?_) (fun q => ?_) <;> simp only [p_st, p_iq, hl, hf] <;> unfold p_sm at q
  · simp [q]
  · simp [q]
theorem V_iv {idx n z a ci : Nat} {as : List Value} {l : List (Nat × Nat)} (hd : decode (p_c y) pc = .ok (.invokevirtual idx, 3)) (hl : p_lu vT y idx = some (n, l)) (hz : l = [(ci, z)]) (hn : as.length = n) (hf : (decide (p_dep z + 1 ≤ p_dep y) && decide (8 + (p_x z + 11) + p_wds z ≤ p_wds y)) = true) (he : decide ((p_en1 (.ref a :: as.reverse)).length ≤ p_x z) = true) : V y pc L (as ++ .ref a :: st) h Q = ((p_cn1 (p_get h a) = ci ∧ p_sm st) ∧ Vm z (.ref a :: as.reverse) h (Kt y (pc + 3) L st Q)) := by
  have hci : ci < 99 ∨ 99 ≤ ci := by omega
  have e1 : (as ++ .ref a :: st).take n = as := by rw [← hn]; exact List.take_left
  have e2 : (as ++ .ref a :: st).drop n = .ref a :: st := by rw [← hn]; exact List.drop_left
  by_cases hc9 : ci = 99
  · exfalso
    obtain ⟨hin, -, -⟩ := p_lu_in hl
    obtain ⟨t, ht⟩ := vT_in _ hin
    unfold p_vo at ht
    rw [hz] at ht
    cases t with
    | nil => simp at ht
    | cons t0 t1 =>
      simp only [List.zip_cons_cons, List.all_cons, Bool.and_eq_true] at ht
      have := ht.2.1
      unfold p_vo1 at this
      simp only [Bool.and_eq_true, decide_eq_true_eq] at this
      have := this.1.1.2
      omega
  · refine V_cif hd rfl (fun q => ?_) (fun q => ?_) <;> simp only [p_st, p_iv, hl, e1, e2, hn, if_true, hz]
    · match hg : p_get h a, q with
      | some (.inr (cj, fs)), q =>
        have hq : cj = ci := q.1
        subst hq
        simp only [List.lookup_cons, beq_self_eq_true]
        rw [p_cl1 hf he]
        exact if_pos q.2
      | none, q => exact absurd q.1.symm hc9
      | some (.inl _), q => exact absurd q.1.symm hc9
    · match hg : p_get h a, q with
      | some (.inr (cj, fs)), q =>
        have q : ¬ (cj = ci ∧ p_sm st) := q
        by_cases hq : cj = ci
        · subst hq
          simp only [List.lookup_cons, beq_self_eq_true]
          rw [p_cl1 hf he]
          exact if_neg (fun z => q ⟨rfl, z⟩)
        · have hb : (cj == ci) = false := by simpa using hq
          simp only [List.lookup_cons, hb, List.lookup_nil]
      | none, q => rfl
      | some (.inl _), q => rfl
/-- a call on one of the boats: which method, by its class -/
def p_tz (l : List (Nat × Nat)) (ci : Nat) : Nat := (l.lookup ci).getD 999
theorem V_ib {idx a : Nat} {l : List (Nat × Nat)} (hd : decode (p_c y) pc = .ok (.invokevirtual idx, 3)) (hl : p_lu vT y idx = some (0, l)) (hb : l.map Prod.fst = [0, 1, 2, 7, 10]) (hf : (l.all (fun q => decide (p_dep q.2 + 1 ≤ p_dep y) && decide (8 + (p_x q.2 + 11) + p_wds q.2 ≤ p_wds y) && decide (1 ≤ p_x q.2))) = true) : V y pc L (.ref a :: st) h Q = ((p_bt (p_cn1 (p_get h a)) = true ∧ p_sm st) ∧ Vm (p_tz l (p_cn1 (p_get h a))) [.ref a] h (Kt y (pc + 3) L st Q)) := by
  have hlk : ∀ ci : Nat, p_bt ci = true ↔ ∃ z, l.lookup ci = some z := by
    intro ci
    match l, hb with
    | [(_, z0), (_, z1), (_, z2), (_, z3), (_, z4)], hb =>
      simp only [List.map_cons, List.map_nil, List.cons.injEq, and_true] at hb
      obtain ⟨rfl, rfl, rfl, rfl, rfl⟩ := hb
      unfold p_bt
      simp only [List.lookup_cons, List.lookup_nil]
      by_cases h0 : ci = 0
      · subst h0; simp
      · by_cases h1 : ci = 1
        · subst h1; simp
        · by_cases h2 : ci = 2
          · subst h2; simp
          · by_cases h3 : ci = 7
            · subst h3; simp
            · by_cases h4 : ci = 10
              · subst h4; simp
              · have e0 : (ci == 0) = false := by simpa using h0
                have e1 : (ci == 1) = false := by simpa using h1
                have e2 : (ci == 2) = false := by simpa using h2
                have e3 : (ci == 7) = false := by simpa using h3
                have e4 : (ci == 10) = false := by simpa using h4
                simp [e0, e1, e2, e3, e4]
  refine V_cif hd rfl (fun q => ?_) (fun q => ?_) <;> simp only [p_st, p_iv, hl, List.take_zero, List.drop_zero, List.length_nil, if_true]
  · match hg : p_get h a, q with
    | some (.inr (cj, fs)), q =>
      obtain ⟨z, hz⟩ := (hlk cj).mp q.1
      have hm := List.all_eq_true.mp hf _ (p_lk hz)
      rw [Bool.and_eq_true, decide_eq_true_eq] at hm
      simp only [p_cn1, hz, p_tz, Option.getD_some, List.reverse_nil]
      rw [p_cl1 hm.1 (by simpa [p_en1, Value.category] using hm.2)]
      exact if_pos q.2
    | none, q => cases q.1
    | some (.inl _), q => cases q.1
  · match hg : p_get h a, q with
    | some (.inr (cj, fs)), q =>
      have q : ¬ (p_bt cj = true ∧ p_sm st) := q
      cases hz : l.lookup cj with
      | none => simp only [hz]
      | some z =>
        have hm := List.all_eq_true.mp hf _ (p_lk hz)
        rw [Bool.and_eq_true, decide_eq_true_eq] at hm
        simp only [hz, List.reverse_nil]
        rw [p_cl1 hm.1 (by simpa [p_en1, Value.category] using hm.2)]
        exact if_neg (fun x => q ⟨(hlk cj).mpr ⟨z, hz⟩, x⟩)
    | none, q => rfl
    | some (.inl _), q => rfl
theorem V_mm {idx t : Nat} (hd : decode (p_c y) pc = .ok (.invokestatic idx, 3)) (hl : p_lu sT y idx = none) (hg : p_lu gT y idx = some t) (hf : (decide (1 ≤ p_dep y) && decide (40 ≤ p_wds y)) = true) {x1 y1 r1 : Int32} (ht : (t = 0 ∧ r1 = if x1 < y1 then y1 else x1) ∨ (t = 1 ∧ r1 = if y1 < x1 then y1 else x1)) : V y pc L (.int y1 :: .int x1 :: st) h Q = (p_sm st ∧ V y (pc + 3) L (.int r1 :: st) h Q) := by
  refine V_if hd rfl (fun q => ?_) (fun q => ?_) <;> simp only [p_st, p_is1, hl, hg, hf, if_true, p_mm] <;> unfold p_sm at q
  · rcases ht with ⟨rfl, rfl⟩ | ⟨rfl, rfl⟩ <;> simp [q]
  · rcases ht with ⟨rfl, rfl⟩ | ⟨rfl, rfl⟩ <;> simp [q]
theorem V_ml {idx : Nat} (hd : decode (p_c y) pc = .ok (.invokestatic idx, 3)) (hl : p_lu sT y idx = none) (hg : p_lu gT y idx = some 2) (hf : (decide (1 ≤ p_dep y) && decide (40 ≤ p_wds y)) = true) {x1 y1 : Int64} : V y pc L (.long y1 :: .long x1 :: st) h Q = (p_sm st ∧ V y (pc + 3) L (.long (if y1 < x1 then x1 else y1) :: st) h Q) := by
  refine V_if hd rfl (fun q => ?_) (fun q => ?_) <;> simp only [p_st, p_is1, hl, hg, hf, if_true, p_mm] <;> unfold p_sm at q
  · simp [q]
  · simp [q]
/-- arraycopy of ints, of longs -/
def p_aci (sp dp n : Int32) : Option pE → Option pE → Prop
  | some (.inl (ka, na, .inl _)), some (.inl (kb, nb, .inl _)) => ka = 0 ∧ kb = 0 ∧ ¬ sp < 0 ∧ ¬ dp < 0 ∧ ¬ n < 0 ∧ sp.toNatClampNeg + n.toNatClampNeg ≤ na ∧ dp.toNatClampNeg + n.toNatClampNeg ≤ nb
  | some (.inl (ka, na, .inr (.inl _))), some (.inl (kb, nb, .inr (.inl _))) => ka = 2 ∧ kb = 2 ∧ ¬ sp < 0 ∧ ¬ dp < 0 ∧ ¬ n < 0 ∧ sp.toNatClampNeg + n.toNatClampNeg ≤ na ∧ dp.toNatClampNeg + n.toNatClampNeg ≤ nb
  | _, _ => False
def p_acv (sp dp n : Int32) : Option pE → Option pE → pE
  | some (.inl (_, _, .inl f)), some (.inl (_, nb, .inl g)) => .inl (0, nb, .inl (va_cpy f g sp.toNatClampNeg dp.toNatClampNeg n.toNatClampNeg))
  | some (.inl (_, _, .inr (.inl f))), some (.inl (_, nb, .inr (.inl g))) => .inl (2, nb, .inr (.inl (va_cpy f g sp.toNatClampNeg dp.toNatClampNeg n.toNatClampNeg)))
  | _, _ => .inr (0, [])
theorem V_ac {idx a b : Nat} {sp dp n : Int32} (hd : decode (p_c y) pc = .ok (.invokestatic idx, 3)) (hl : p_lu sT y idx = none) (hg : p_lu gT y idx = none) (hf : (decide (1 ≤ p_dep y) && decide (40 ≤ p_wds y)) = true) (ha : (decide (idx < 1000) && aT.contains (p_o y * 1000 + idx)) = true) : V y pc L (.int n :: .int dp :: .ref b :: .int sp :: .ref a :: st) h Q = ((p_sm st ∧ p_aci sp dp n (p_get h a) (p_get h b)) ∧ V y (pc + 3) L st (p_set h b (p_acv sp dp n (p_get h a) (p_get h b))) Q) := by
  refine V_if hd rfl (fun q => ?_) (fun q => ?_) <;> simp only [p_st, p_is1, hl, hg, hf, if_true, ha, p_ac] <;> unfold p_sm at q
  · obtain ⟨q1, q2⟩ := q
    match hga : p_get h a, hgb : p_get h b, q2 with
    | some (.inl (ka, na, .inl f)), some (.inl (kb, nb, .inl g)), q2 =>
      obtain ⟨g1, g2, g3, g4, g5, g6, g7⟩ := q2
      exact if_pos ⟨g1, g2, g3, g4, g5, g6, g7, q1⟩
    | some (.inl (ka, na, .inr (.inl f))), some (.inl (kb, nb, .inr (.inl g))), q2 =>
      obtain ⟨g1, g2, g3, g4, g5, g6, g7⟩ := q2
      exact if_pos ⟨g1, g2, g3, g4, g5, g6, g7, q1⟩
  · match hga : p_get h a, hgb : p_get h b, q with
    | some (.inl (ka, na, .inl f)), some (.inl (kb, nb, .inl g)), q =>
      refine if_neg (fun z => q ?_)
      obtain ⟨g1, g2, g3, g4, g5, g6, g7, g8⟩ := z
      exact ⟨g8, g1, g2, g3, g4, g5, g6, g7⟩
    | some (.inl (ka, na, .inr (.inl f))), some (.inl (kb, nb, .inr (.inl g))), q =>
      refine if_neg (fun z => q ?_)
      obtain ⟨g1, g2, g3, g4, g5, g6, g7, g8⟩ := z
      exact ⟨g8, g1, g2, g3, g4, g5, g6, g7⟩
    | some (.inl (_, _, .inl _)), some (.inl (_, _, .inr _)), q => rfl
    | some (.inl (_, _, .inl _)), some (.inr _), q => rfl
    | some (.inl (_, _, .inl _)), none, q => rfl
    | some (.inl (_, _, .inr (.inl _))), some (.inl (_, _, .inl _)), q => rfl
    | some (.inl (_, _, .inr (.inl _))), some (.inl (_, _, .inr (.inr _))), q => rfl
    | some (.inl (_, _, .inr (.inl _))), some (.inr _), q => rfl
    | some (.inl (_, _, .inr (.inl _))), none, q => rfl
    | some (.inl (_, _, .inr (.inr _))), _, q => rfl
    | some (.inr _), _, q => rfl
    | none, _, q => rfl
theorem V_ri {x : Int32} (hd : decode (p_c y) pc = .ok (.ireturn, 1)) (hr : p_r y = some .int) : V y pc L [.int x] h Q = Q (some (.int x)) h := V_rt hd rfl (by simp [p_st, p_rt, hr])
theorem V_rz {x : Int32} (hd : decode (p_c y) pc = .ok (.ireturn, 1)) (hr : p_r y = some .boolean) : V y pc L [.int x] h Q = ((x = 0 ∨ x = 1) ∧ Q (some (.int x)) h) := by
  by_cases hP : x = 0 ∨ x = 1
  · rw [V_rt hd rfl (v := some (.int x)) (by simp [p_st, p_rt, hr, hP])]
    simp [hP]
  · rw [V_no hd rfl (by simp [p_st, p_rt, hr, hP])]
    simp [hP]
theorem V_rl {x : Int64} (hd : decode (p_c y) pc = .ok (.lreturn, 1)) (hr : p_r y = some .long) : V y pc L [.long x] h Q = Q (some (.long x)) h := V_rt hd rfl (by simp [p_st, hr])
theorem V_ra {a : Nat} (hd : decode (p_c y) pc = .ok (.areturn, 1)) (hr : p_r y = some (.object "WaterShoulders$Boat")) : V y pc L [.ref a] h Q = Q (some (.ref a)) h := V_rt hd rfl (by simp [p_st, hr])
theorem V_rn (hd : decode (p_c y) pc = .ok (.areturn, 1)) (hr : p_r y = some (.object "WaterShoulders$Boat")) : V y pc L [.null] h Q = Q (some .null) h := V_rt hd rfl (by simp [p_st, hr])
theorem V_rv (hd : decode (p_c y) pc = .ok (.return_, 1)) (hr : p_r y = none) : V y pc L [] h Q = Q none h := V_rt hd rfl (by simp [p_st, hr])
theorem V_ts {d lo hi : Int} {offs : Array Int} {x : Int32} (f : Int32 → Nat) (hd : decode (p_c y) pc = .ok (.tableswitch d lo hi offs, k)) (h0 : 0 ≤ (pc : Int) + d) (hf : ∀ z : Int32, (z.toInt < lo ∨ hi < z.toInt → f z = ((pc : Int) + d).toNat) ∧ (¬ (z.toInt < lo ∨ hi < z.toInt) → ∃ off, offs[(z.toInt - lo).toNat]? = some off ∧ 0 ≤ (pc : Int) + off ∧ f z = ((pc : Int) + off).toNat)) : V y pc L (.int x :: st) h Q = V y (f x) L st h Q := by
  refine V_nx hd rfl ?_
  simp only [p_st]
  obtain ⟨g1, g2⟩ := hf x
  by_cases hx : x.toInt < lo ∨ hi < x.toInt
  · rw [if_pos hx, g1 hx]
    exact if_pos h0
  · obtain ⟨off, e1, e2, e3⟩ := g2 hx
    rw [if_neg hx, e1, e3]
    exact if_pos e2
theorem V_pf0 {idx a kk fin : Nat} {x : Int32} {cis : List Nat} {ref : String} (hd : decode (p_c y) pc = .ok (.putfield idx, 3)) (hl : p_lu fT y idx = some (kk, cis, 0, fin, ref)) (hf : (fin == 0 || (fin == 1 && p_in y)) = true) : V y pc L (.int x :: .ref a :: st) h Q = (p_ok1 cis kk (p_get h a) ∧ V y (pc + 3) L st (p_set h a (p_fs kk (.int x) (p_get h a))) Q) := by
  rw [V_pf hd hl hf]
  simp [p_okv]
theorem V_pf1 {idx a kk fin : Nat} {x : Int32} {cis : List Nat} {ref : String} (hd : decode (p_c y) pc = .ok (.putfield idx, 3)) (hl : p_lu fT y idx = some (kk, cis, 1, fin, ref)) (hf : (fin == 0 || (fin == 1 && p_in y)) = true) : V y pc L (.int x :: .ref a :: st) h Q = ((x = 0 ∨ x = 1) ∧ p_ok1 cis kk (p_get h a) ∧ V y (pc + 3) L st (p_set h a (p_fs kk (.int x) (p_get h a))) Q) := by
  rw [V_pf hd hl hf]
  simp only [p_okv, decide_eq_true_eq, and_assoc]
theorem V_pf2 {idx a kk fin : Nat} {x : Int64} {cis : List Nat} {ref : String} (hd : decode (p_c y) pc = .ok (.putfield idx, 3)) (hl : p_lu fT y idx = some (kk, cis, 2, fin, ref)) (hf : (fin == 0 || (fin == 1 && p_in y)) = true) : V y pc L (.long x :: .ref a :: st) h Q = (p_ok1 cis kk (p_get h a) ∧ V y (pc + 3) L st (p_set h a (p_fs kk (.long x) (p_get h a))) Q) := by
  rw [V_pf hd hl hf]
  simp [p_okv]
theorem V_pf3 {idx a kk fin b : Nat} {cis : List Nat} {ref : String} (hd : decode (p_c y) pc = .ok (.putfield idx, 3)) (hl : p_lu fT y idx = some (kk, cis, 3, fin, ref)) (hf : (fin == 0 || (fin == 1 && p_in y)) = true) : V y pc L (.ref b :: .ref a :: st) h Q = (p_ok1 cis kk (p_get h a) ∧ V y (pc + 3) L st (p_set h a (p_fs kk (.ref b) (p_get h a))) Q) := by
  rw [V_pf hd hl hf]
  simp [p_okv]
theorem V_iinc {i : Nat} {n : Int} {v x : Int32} (hd : decode (p_c y) pc = .ok (.iinc i n, 3)) (hv : Int32.ofInt n = v) (hg : p_lg L i = some (.int x)) (hi : i < L.length) : V y pc L st h Q = V y (pc + 3) (p_s1 L i (.int (x + v))) st h Q := by
  subst hv
  refine V_nx hd rfl ?_
  simp only [p_st, hg]
  exact if_pos hi
theorem V_ite {c : Prop} [Decidable c] {q1 q2 : Nat} : V y (if c then q1 else q2) L st h Q = if c then V y q1 L st h Q else V y q2 L st h Q := by
  by_cases hc : c <;> simp [hc]
theorem p_tgn (d : Nat) : p_tg pc (d : Int) L st h = p_nx (pc + d) L st h := by
  unfold p_tg
  rw [if_pos (by omega), show ((pc : Int) + (d : Int)).toNat = pc + d by omega]
theorem V_ls2 {x : Int32} (hd : decode (p_c y) pc = .ok (.lookupswitch 61 #[(0, 25), (1, 43)], k)) : V y pc L (.int x :: st) h Q = V y (if x = 0 then pc + 25 else if x = 1 then pc + 43 else pc + 61) L st h Q := by
  refine V_nx hd rfl ?_
  simp only [p_st]
  rw [if_pos (by decide)]
  by_cases h0 : x = 0
  · subst h0
    exact p_tgn 25
  · by_cases h1 : x = 1
    · subst h1
      exact p_tgn 43
    · have e0 : ¬ (0 : Int) = x.toInt := fun q => h0 (Int32.toInt_inj.mp (by rw [← q]; rfl))
      have e1 : ¬ (1 : Int) = x.toInt := fun q => h1 (Int32.toInt_inj.mp (by rw [← q]; rfl))
      have e0' : ¬ x.toInt = 0 := fun q => e0 q.symm
      have e1' : ¬ x.toInt = 1 := fun q => e1 q.symm
      have eo : Op.lookupswitch.offset [(0, 25), (1, 43)] 61 x.toInt = 61 := by
        simp [Op.lookupswitch.offset, e0, e1, e0', e1']
      simp only [h0, h1, if_false]
      show p_tg pc (Op.lookupswitch.offset [(0, 25), (1, 43)] 61 x.toInt) L st h = _
      rw [eo]
      exact p_tgn 61
end VL
