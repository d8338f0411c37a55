/-! A pure machine for the bytecode of this claim: cells by small numbers (0: the script), locals by place, a step, a run, and V: 'it comes to an end with Q' -/
abbrev pE : Type := (Nat × Nat × ((Nat → Int32) ⊕ (Nat → Int64) ⊕ (Nat → Option Nat))) ⊕ (Nat × List Value)
abbrev pH : Type := Nat × Nat × (Nat → Option pE)
abbrev pL : Type := List (Option Value)
def p_get (h : pH) (a : Nat) : Option pE := h.2.2 a
def p_set (h : pH) (a : Nat) (e : pE) : pH := (h.1, h.2.1, va_up h.2.2 a (some e))
def p_new (h : pH) (e : pE) (n : Nat) : pH := (h.1 + 1, h.2.1 + n, va_up h.2.2 h.1 (some e))
def p_m (y : Nat) : p_I := p_ml.getD y p_d0
def p_y (y : Nat) : MethodName := (p_m y).1
def p_c (y : Nat) : ByteArray := (p_m y).2.1
def p_x (y : Nat) : Nat := (p_m y).2.2.1
def p_r (y : Nat) : Option FieldType := (p_m y).2.2.2.1
def p_o (y : Nat) : Nat := (p_m y).2.2.2.2.1
def p_dep (y : Nat) : Nat := (p_m y).2.2.2.2.2.1
def p_wds (y : Nat) : Nat := (p_m y).2.2.2.2.2.2
def p_on1 (n : Nat) : String := p_on.getD n ""
def p_lu {α : Type} (T : List (Nat × α)) (y idx : Nat) : Option α := if idx < 1000 then T.lookup (p_o y * 1000 + idx) else none
/-- what stays of a local when the slot behind it is written -/
def p_dl : Option Value → Option Value
  | some (.long _) => none
  | some (.double _) => none
  | x => x
def p_s1 : pL → Nat → Value → pL
  | [], _, _ => []
  | _ :: r, 0, v => some v :: r
  | x :: r, 1, v => p_dl x :: p_s1 r 0 v
  | x :: r, k + 2, v => x :: p_s1 r (k + 1) v
def p_s2 : pL → Nat → Value → pL
  | [], _, _ => []
  | _ :: r, 0, v => some v :: (match r with | [] => [] | _ :: r2 => none :: r2)
  | x :: r, 1, v => p_dl x :: p_s2 r 0 v
  | x :: r, k + 2, v => x :: p_s2 r (k + 1) v
def p_lg (L : pL) (i : Nat) : Option Value := L.getD i none
def p_en1 : List Value → pL
  | [] => []
  | v :: r => if v.category = 2 then some v :: none :: p_en1 r else some v :: p_en1 r
def p_en (z : Nat) (as : List Value) : pL := p_en1 as ++ List.replicate (p_x z - (p_en1 as).length) none
abbrev pN : Type := (Nat × pL × List Value × pH) ⊕ ((Nat × List Value × Nat × List Value) ⊕ Option Value)
def p_nx (pc : Nat) (L : pL) (st : List Value) (h : pH) : Option pN := some (.inl (pc, L, st, h))
def p_cs (st : List Value) : Nat := (st.map fun v => v.category).sum
/-- fields' kinds: 0 int, 1 boolean, 2 long, 3 a reference -/
def p_okv : Nat → Value → Bool
  | 0, .int _ => true
  | 1, .int x => decide (x = 0 ∨ x = 1)
  | 2, .long _ => true
  | 3, .ref _ => true
  | 3, .null => true
  | _, _ => false
/-- the fields of a new object, by its class -/
def p_df : Nat → List Value
  | 3 => [.null, .null, .int 0, .int 0, .int 0, .null, .null]
  | 4 => [.null, .int 0, .null, .int 0, .int 0, .null, .null, .null, .int 0]
  | 5 => [.null, .null]
  | 6 => [.null, .int 0]
  | 8 => [.int 0, .int 0, .null, .null, .null, .null, .int 0, .int 0, .int 0, .int 0, .int 0, .int 0, .int 0, .int 0]
  | 9 => [.null, .null, .int 0]
  | 11 => [.null, .null, .null, .null, .null, .null, .null, .null, .null, .int 0, .int 0, .int 0, .int 0]
  | 12 => [.int 0, .null, .null, .null, .int 0, .int 0, .int 0, .null, .null, .null, .null, .null, .int 0, .int 0, .int 0, .int 0, .null, .int 0, .null, .int 0, .int 0, .int 0, .null, .null, .null, .null, .int 0, .null, .null, .null, .int 0, .long 0, .null, .int 0, .int 0, .int 0, .int 0, .int 0, .int 0, .int 0, .null, .null, .null, .null, .long 0]
  | _ => [.int 0, .int 0, .int 0, .int 0]
/-- what is an instance of what, among the boats -/
def p_is : Nat → Nat → Bool
  | 0, 0 => true
  | 2, 2 => true
  | 7, 7 => true
  | 10, 10 => true
  | 10, 2 => true
  | _, _ => false
def p_bt (ci : Nat) : Bool := ci == 0 || ci == 1 || ci == 2 || ci == 7 || ci == 10
def p_c1 (v : Value) : Bool := v.category == 1
def p_tg (pc : Nat) (off : Int) (L : pL) (st : List Value) (h : pH) : Option pN := if 0 ≤ (pc : Int) + off then p_nx ((pc : Int) + off).toNat L st h else none
def p_br (c : Bool) (pc : Nat) (off : Int) (L : pL) (st : List Value) (h : pH) : Option pN := if 0 ≤ (pc : Int) + off then (if c then p_nx ((pc : Int) + off).toNat L st h else p_nx (pc + 3) L st h) else none
def p_li (pc : Nat) (i : Nat) (L : pL) (st : List Value) (h : pH) : Option pN := match p_lg L i with
  | some (.int x) => p_nx pc L (.int x :: st) h
  | _ => none
def p_ll (pc : Nat) (i : Nat) (L : pL) (st : List Value) (h : pH) : Option pN := match p_lg L i with
  | some (.long x) => p_nx pc L (.long x :: st) h
  | _ => none
def p_la (pc : Nat) (i : Nat) (L : pL) (st : List Value) (h : pH) : Option pN := match p_lg L i with
  | some (.ref x) => p_nx pc L (.ref x :: st) h
  | some .null => p_nx pc L (.null :: st) h
  | _ => none
def p_si (pc : Nat) (i : Nat) (L : pL) (st : List Value) (h : pH) : Option pN := match st with
  | .int x :: r => if i < L.length then p_nx pc (p_s1 L i (.int x)) r h else none
  | _ => none
def p_sl (pc : Nat) (i : Nat) (L : pL) (st : List Value) (h : pH) : Option pN := match st with
  | .long x :: r => if i + 1 < L.length then p_nx pc (p_s2 L i (.long x)) r h else none
  | _ => none
def p_sa (pc : Nat) (i : Nat) (L : pL) (st : List Value) (h : pH) : Option pN := match st with
  | .ref x :: r => if i < L.length then p_nx pc (p_s1 L i (.ref x)) r h else none
  | .null :: r => if i < L.length then p_nx pc (p_s1 L i .null) r h else none
  | _ => none
def p_ii (f : Int32 → Int32 → Int32) (pc : Nat) (L : pL) (st : List Value) (h : pH) : Option pN := match st with
  | .int b :: .int a :: r => p_nx (pc + 1) L (.int (f a b) :: r) h
  | _ => none
def p_id (f : Int32 → Int32 → Int32) (pc : Nat) (L : pL) (st : List Value) (h : pH) : Option pN := match st with
  | .int b :: .int a :: r => if b = 0 then none else p_nx (pc + 1) L (.int (f a b) :: r) h
  | _ => none
def p_jj (f : Int64 → Int64 → Int64) (pc : Nat) (L : pL) (st : List Value) (h : pH) : Option pN := match st with
  | .long b :: .long a :: r => p_nx (pc + 1) L (.long (f a b) :: r) h
  | _ => none
def p_jd (f : Int64 → Int64 → Int64) (pc : Nat) (L : pL) (st : List Value) (h : pH) : Option pN := match st with
  | .long b :: .long a :: r => if b = 0 then none else p_nx (pc + 1) L (.long (f a b) :: r) h
  | _ => none
def p_js (f : Int64 → Int32 → Int64) (pc : Nat) (L : pL) (st : List Value) (h : pH) : Option pN := match st with
  | .int b :: .long a :: r => p_nx (pc + 1) L (.long (f a b) :: r) h
  | _ => none
def p_cmp (c : ClassFile.Cond) (x y : Int32) : Bool := match c with
  | .eq => decide (x = y)
  | .ne => decide (¬ x = y)
  | .lt => decide (x < y)
  | .ge => decide (y ≤ x)
  | .gt => decide (y < x)
  | .le => decide (x ≤ y)
def p_ic (c : ClassFile.Cond) (off : Int) (pc : Nat) (L : pL) (st : List Value) (h : pH) : Option pN := match st with
  | .int y :: .int x :: r => p_br (p_cmp c x y) pc off L r h
  | _ => none
def p_if (c : ClassFile.Cond) (off : Int) (pc : Nat) (L : pL) (st : List Value) (h : pH) : Option pN := match st with
  | .int x :: r => p_br (p_cmp c x 0) pc off L r h
  | _ => none
def p_in (y : Nat) : Bool := (p_y y).name == "<init>"
/-- getfield -/
def p_gf (y idx pc : Nat) (L : pL) (st : List Value) (h : pH) : Option pN := match st with
  | .ref a :: r => match p_lu fT y idx with
    | some (k, cis, _) => match p_get h a with
      | some (.inr (ci, fs)) => if cis.contains ci then (match fs[k]? with | some v => p_nx (pc + 3) L (v :: r) h | none => none) else none
      | _ => none
    | none => none
  | _ => none
/-- putfield -/
def p_pf (y idx pc : Nat) (L : pL) (st : List Value) (h : pH) : Option pN := match st with
  | v :: .ref a :: r => match p_lu fT y idx with
    | some (k, cis, tc, fin, _) => match p_get h a with
      | some (.inr (ci, fs)) => if cis.contains ci && p_okv tc v && decide (k < fs.length) && (fin == 0 || (fin == 1 && p_in y)) then p_nx (pc + 3) L r (p_set h a (.inr (ci, fs.set k v))) else none
      | _ => none
    | none => none
  | _ => none
def p_ial (pc : Nat) (L : pL) (st : List Value) (h : pH) : Option pN := match st with
  | .int i :: .ref a :: r => match p_get h a with
    | some (.inl (kd, n, .inl f)) => if (kd = 0 ∨ kd = 4) ∧ ¬ (i < 0 ∨ n ≤ i.toNatClampNeg) then p_nx (pc + 1) L (.int (f i.toNatClampNeg) :: r) h else none
    | _ => none
  | _ => none
def p_bal (pc : Nat) (L : pL) (st : List Value) (h : pH) : Option pN := match st with
  | .int i :: .ref a :: r => match p_get h a with
    | some (.inl (kd, n, .inl f)) => if kd = 1 ∧ ¬ (i < 0 ∨ n ≤ i.toNatClampNeg) then p_nx (pc + 1) L (.int (f i.toNatClampNeg) :: r) h else none
    | _ => none
  | _ => none
def p_lal (pc : Nat) (L : pL) (st : List Value) (h : pH) : Option pN := match st with
  | .int i :: .ref a :: r => match p_get h a with
    | some (.inl (kd, n, .inr (.inl f))) => if kd = 2 ∧ ¬ (i < 0 ∨ n ≤ i.toNatClampNeg) then p_nx (pc + 1) L (.long (f i.toNatClampNeg) :: r) h else none
    | _ => none
  | _ => none
def p_aal (pc : Nat) (L : pL) (st : List Value) (h : pH) : Option pN := match st with
  | .int i :: .ref a :: r => match p_get h a with
    | some (.inl (kd, n, .inr (.inr f))) => if kd = 3 ∧ ¬ (i < 0 ∨ n ≤ i.toNatClampNeg) then p_nx (pc + 1) L (va_rf (f i.toNatClampNeg) :: r) h else none
    | _ => none
  | _ => none
def p_ias (pc : Nat) (L : pL) (st : List Value) (h : pH) : Option pN := match st with
  | .int x :: .int i :: .ref a :: r => match p_get h a with
    | some (.inl (kd, n, .inl f)) => if kd = 0 ∧ ¬ (i < 0 ∨ n ≤ i.toNatClampNeg) then p_nx (pc + 1) L r (p_set h a (.inl (0, n, .inl (upd f i.toNatClampNeg x)))) else none
    | _ => none
  | _ => none
def p_bas (pc : Nat) (L : pL) (st : List Value) (h : pH) : Option pN := match st with
  | .int x :: .int i :: .ref a :: r => match p_get h a with
    | some (.inl (kd, n, .inl f)) => if kd = 1 ∧ ¬ (i < 0 ∨ n ≤ i.toNatClampNeg) then p_nx (pc + 1) L r (p_set h a (.inl (1, n, .inl (upd f i.toNatClampNeg (vp_nar .byte x))))) else none
    | _ => none
  | _ => none
def p_las (pc : Nat) (L : pL) (st : List Value) (h : pH) : Option pN := match st with
  | .long x :: .int i :: .ref a :: r => match p_get h a with
    | some (.inl (kd, n, .inr (.inl f))) => if kd = 2 ∧ ¬ (i < 0 ∨ n ≤ i.toNatClampNeg) then p_nx (pc + 1) L r (p_set h a (.inl (2, n, .inr (.inl (vp_updL f i.toNatClampNeg x))))) else none
    | _ => none
  | _ => none
def p_aas (pc : Nat) (L : pL) (st : List Value) (h : pH) : Option pN := match st with
  | .ref v :: .int i :: .ref a :: r => match p_get h v with
    | some (.inr (ci, _)) => match p_get h a with
      | some (.inl (kd, n, .inr (.inr f))) => if p_bt ci = true ∧ kd = 3 ∧ ¬ (i < 0 ∨ n ≤ i.toNatClampNeg) then p_nx (pc + 1) L r (p_set h a (.inl (3, n, .inr (.inr (va_up f i.toNatClampNeg (some v)))))) else none
      | _ => none
    | _ => none
  | _ => none
def p_len (pc : Nat) (L : pL) (st : List Value) (h : pH) : Option pN := match st with
  | .ref a :: r => match p_get h a with
    | some (.inl (_, n, _)) => p_nx (pc + 1) L (.int (Int32.ofNat n) :: r) h
    | _ => none
  | _ => none
def p_na (t : ArrayType) (pc : Nat) (L : pL) (st : List Value) (h : pH) : Option pN := match st with
  | .int n :: r => if n < 0 ∨ 100000 < n.toNatClampNeg then none else match t with
    | .int => p_nx (pc + 2) L (.ref h.1 :: r) (p_new h (.inl (0, n.toNatClampNeg, .inl (fun _ => 0))) n.toNatClampNeg)
    | .byte => p_nx (pc + 2) L (.ref h.1 :: r) (p_new h (.inl (1, n.toNatClampNeg, .inl (fun _ => 0))) n.toNatClampNeg)
    | .long => p_nx (pc + 2) L (.ref h.1 :: r) (p_new h (.inl (2, n.toNatClampNeg, .inr (.inl (fun _ => 0)))) n.toNatClampNeg)
    | _ => none
  | _ => none
def p_nq (y idx pc : Nat) (L : pL) (st : List Value) (h : pH) : Option pN := match st with
  | .int n :: r => if n < 0 ∨ 100000 < n.toNatClampNeg then none else match p_lu nT y idx with
    | some 1 => p_nx (pc + 3) L (.ref h.1 :: r) (p_new h (.inl (3, n.toNatClampNeg, .inr (.inr (fun _ => none)))) n.toNatClampNeg)
    | _ => none
  | _ => none
def p_nw (y idx pc : Nat) (L : pL) (st : List Value) (h : pH) : Option pN := match p_lu nT y idx with
  | some ci => p_nx (pc + 3) L (.ref h.1 :: st) (p_new h (.inr (ci, p_df ci)) (p_df ci).length)
  | none => none
def p_io (y idx pc : Nat) (L : pL) (st : List Value) (h : pH) : Option pN := match st with
  | .null :: r => p_nx (pc + 3) L (.int 0 :: r) h
  | .ref a :: r => match p_lu nT y idx with
    | some t => match p_get h a with
      | some (.inr (ci, _)) => if p_bt ci && (t == 0 || t == 2 || t == 7 || t == 10) then p_nx (pc + 3) L (.int (if p_is ci t then 1 else 0) :: r) h else none
      | _ => none
    | none => none
  | _ => none
/-- a call may be made: the room's frames and words suffice, and little lies below -/
def p_fit (y z : Nat) (r : List Value) : Bool := decide (p_dep z + 1 ≤ p_dep y) && decide (8 + (p_x z + 11) + p_wds z ≤ p_wds y) && decide (p_cs r ≤ 8)
def p_cl (y z pc : Nat) (as : List Value) (r : List Value) : Option pN := if p_fit y z r && decide ((p_en1 as).length ≤ p_x z) then some (.inr (.inl (z, as, pc + 3, r))) else none
def p_iv (y idx pc : Nat) (_ : pL) (st : List Value) (h : pH) : Option pN := match p_lu vT y idx with
  | some (n, l) => match st.drop n with
    | .ref a :: r => match p_get h a with
      | some (.inr (ci, _)) => match l.lookup ci with
        | some z => if (st.take n).length = n then p_cl y z pc (.ref a :: (st.take n).reverse) r else none
        | none => none
      | _ => none
    | _ => none
  | none => none
def p_ac (pc : Nat) (L : pL) (st : List Value) (h : pH) : Option pN := match st with
  | .int n :: .int dp :: .ref b :: .int sp :: .ref a :: r => match p_get h a with
    | some (.inl (ka, na, .inl f)) => match p_get h b with
      | some (.inl (kb, nb, .inl g)) => if ka = 0 ∧ kb = 0 ∧ ¬ sp < 0 ∧ ¬ dp < 0 ∧ ¬ n < 0 ∧ sp.toNatClampNeg + n.toNatClampNeg ≤ na ∧ dp.toNatClampNeg + n.toNatClampNeg ≤ nb ∧ p_cs r ≤ 8 then p_nx (pc + 3) L r (p_set h b (.inl (0, nb, .inl (va_cpy f g sp.toNatClampNeg dp.toNatClampNeg n.toNatClampNeg)))) else none
      | _ => none
    | some (.inl (ka, na, .inr (.inl f))) => match p_get h b with
      | some (.inl (kb, nb, .inr (.inl g))) => if ka = 2 ∧ kb = 2 ∧ ¬ sp < 0 ∧ ¬ dp < 0 ∧ ¬ n < 0 ∧ sp.toNatClampNeg + n.toNatClampNeg ≤ na ∧ dp.toNatClampNeg + n.toNatClampNeg ≤ nb ∧ p_cs r ≤ 8 then p_nx (pc + 3) L r (p_set h b (.inl (2, nb, .inr (.inl (va_cpy f g sp.toNatClampNeg dp.toNatClampNeg n.toNatClampNeg))))) else none
      | _ => none
    | _ => none
  | _ => none
def p_mm (t pc : Nat) (L : pL) (st : List Value) (h : pH) : Option pN := match st with
  | .int y :: .int x :: r => if p_cs r ≤ 8 then (match t with
    | 0 => p_nx (pc + 3) L (.int (if x < y then y else x) :: r) h
    | 1 => p_nx (pc + 3) L (.int (if y < x then y else x) :: r) h
    | _ => none) else none
  | .long y :: .long x :: r => if p_cs r ≤ 8 then (match t with
    | 2 => p_nx (pc + 3) L (.long (if y < x then x else y) :: r) h
    | _ => none) else none
  | _ => none
def p_is1 (y idx pc : Nat) (L : pL) (st : List Value) (h : pH) : Option pN := match p_lu sT y idx with
  | some (n, z) => if (st.take n).length = n then p_cl y z pc (st.take n).reverse (st.drop n) else none
  | none => if decide (1 ≤ p_dep y) && decide (40 ≤ p_wds y) then (match p_lu gT y idx with | some t => p_mm t pc L st h | none => if decide (idx < 1000) && aT.contains (p_o y * 1000 + idx) then p_ac pc L st h else none) else none
def p_iq (y idx pc : Nat) (L : pL) (st : List Value) (h : pH) : Option pN := match p_lu qT y idx with
  | some (n, z) => match st.drop n with
    | .ref a :: r => if (st.take n).length = n then p_cl y z pc (.ref a :: (st.take n).reverse) r else none
    | _ => none
  | none => match st with
    | .ref _ :: r => if decide (idx < 1000) && oT.contains (p_o y * 1000 + idx) && decide (1 ≤ p_dep y) && decide (40 ≤ p_wds y) && decide (p_cs r ≤ 8) then p_nx (pc + 3) L r h else none
    | _ => none
def p_rt (y : Nat) (x : Int32) : Bool := match p_r y with
  | some .int => true
  | some .boolean => decide (x = 0 ∨ x = 1)
  | _ => false
def p_rv (v : Option Value) : Option pN := some (.inr (.inr v))
def p_ck : Instr → Nat → Bool
  | .iload _, k | .lload _, k | .aload _, k | .istore _, k | .lstore _, k | .astore _, k | .bipush _, k | .newarray _, k | .ldc _, k => k == 2
  | .sipush _, k | .iinc _ _, k | .goto _, k | .if_icmp _ _, k | .ifCond _ _, k | .ifnull _, k | .ifnonnull _, k | .getfield _, k | .putfield _, k | .invokevirtual _, k | .invokestatic _, k | .invokespecial _, k | .new _, k | .anewarray _, k | .instanceof _, k | .ldc2_w _, k => k == 3
  | .tableswitch _ _ _ _, _ => true
  | .lookupswitch _ _, _ => true
  | _, k => k == 1
def p_st (y : Nat) (I : Instr) (pc : Nat) (L : pL) (st : List Value) (h : pH) : Option pN := match I with
  | .iconst i => p_nx (pc + 1) L (.int (Int32.ofInt i) :: st) h
  | .bipush i => p_nx (pc + 2) L (.int (Int8.ofInt i).toInt32 :: st) h
  | .sipush i => p_nx (pc + 3) L (.int (Int16.ofInt i).toInt32 :: st) h
  | .lconst i => p_nx (pc + 1) L (.long (Int64.ofNat (i : Nat)) :: st) h
  | .aconst_null => p_nx (pc + 1) L (.null :: st) h
  | .ldc idx => match p_lu kT y idx with | some v => p_nx (pc + 2) L (.int v :: st) h | none => none
  | .ldc2_w idx => match p_lu lT y idx with | some v => p_nx (pc + 3) L (.long v :: st) h | none => none
  | .iload i => p_li (pc + 2) i L st h
  | .iload_n i => p_li (pc + 1) i L st h
  | .lload i => p_ll (pc + 2) i L st h
  | .lload_n i => p_ll (pc + 1) i L st h
  | .aload i => p_la (pc + 2) i L st h
  | .aload_n i => p_la (pc + 1) i L st h
  | .istore i => p_si (pc + 2) i L st h
  | .istore_n i => p_si (pc + 1) i L st h
  | .lstore i => p_sl (pc + 2) i L st h
  | .lstore_n i => p_sl (pc + 1) i L st h
  | .astore i => p_sa (pc + 2) i L st h
  | .astore_n i => p_sa (pc + 1) i L st h
  | .iinc i n => match p_lg L i with | some (.int x) => if i < L.length then p_nx (pc + 3) (p_s1 L i (.int (x + Int32.ofInt n))) st h else none | _ => none
  | .iadd => p_ii (fun a b => a + b) pc L st h
  | .isub => p_ii (fun a b => a - b) pc L st h
  | .imul => p_ii (fun a b => a * b) pc L st h
  | .iand => p_ii (fun a b => a &&& b) pc L st h
  | .ior => p_ii (fun a b => a ||| b) pc L st h
  | .ixor => p_ii (fun a b => a ^^^ b) pc L st h
  | .ishl => p_ii (fun a b => a <<< (b &&& 31)) pc L st h
  | .iushr => p_ii (fun a b => (a.toUInt32 >>> (b.toUInt32 &&& Int32.toUInt32 31)).toInt32) pc L st h
  | .idiv => p_id (fun a b => a / b) pc L st h
  | .irem => p_id (fun a b => a - a / b * b) pc L st h
  | .ladd => p_jj (fun a b => a + b) pc L st h
  | .lmul => p_jj (fun a b => a * b) pc L st h
  | .land => p_jj (fun a b => a &&& b) pc L st h
  | .lor => p_jj (fun a b => a ||| b) pc L st h
  | .ldiv => p_jd (fun a b => a / b) pc L st h
  | .lrem => p_jd (fun a b => a - a / b * b) pc L st h
  | .lshl => p_js (fun a b => a <<< (b.toInt64 &&& 63)) pc L st h
  | .lshr => p_js (fun a b => a >>> (b.toInt64 &&& 63)) pc L st h
  | .lushr => p_js (fun a b => (a.toUInt64 >>> (b.toInt64.toUInt64 &&& Int64.toUInt64 63)).toInt64) pc L st h
  | .lcmp => match st with | .long b :: .long a :: r => p_nx (pc + 1) L (.int (lg_cmp a b) :: r) h | _ => none
  | .i2l => match st with | .int x :: r => p_nx (pc + 1) L (.long x.toInt64 :: r) h | _ => none
  | .l2i => match st with | .long x :: r => p_nx (pc + 1) L (.int x.toInt32 :: r) h | _ => none
  | .i2b => match st with | .int x :: r => p_nx (pc + 1) L (.int x.toInt8.toInt32 :: r) h | _ => none
  | .dup => match st with | v :: r => if p_c1 v then p_nx (pc + 1) L (v :: v :: r) h else none | _ => none
  | .dup2 => match st with | v :: w :: r => if p_c1 v && p_c1 w then p_nx (pc + 1) L (v :: w :: v :: w :: r) h else none | _ => none
  | .pop => match st with | v :: r => if p_c1 v then p_nx (pc + 1) L r h else none | _ => none
  | .goto off => p_tg pc off L st h
  | .if_icmp c off => p_ic c off pc L st h
  | .ifCond c off => p_if c off pc L st h
  | .ifnull off => match st with | .null :: r => p_tg pc off L r h | .ref _ :: r => p_nx (pc + 3) L r h | _ => none
  | .ifnonnull off => match st with | .ref _ :: r => p_tg pc off L r h | .null :: r => p_nx (pc + 3) L r h | _ => none
  | .tableswitch dflt lo hi offs => match st with
    | .int x :: r => if x.toInt < lo ∨ hi < x.toInt then p_tg pc dflt L r h else (match offs[(x.toInt - lo).toNat]? with | some off => p_tg pc off L r h | none => none)
    | _ => none
  | .lookupswitch dflt ps => match st with
    | .int x :: r => if (ps.toList.zip (ps.toList.drop 1)).all (fun (a, next) => a.1 < next.1) = true then p_tg pc (Op.lookupswitch.offset ps.toList dflt x.toInt) L r h else none
    | _ => none
  | .getfield idx => p_gf y idx pc L st h
  | .putfield idx => p_pf y idx pc L st h
  | .iaload => p_ial pc L st h
  | .baload => p_bal pc L st h
  | .laload => p_lal pc L st h
  | .aaload => p_aal pc L st h
  | .iastore => p_ias pc L st h
  | .bastore => p_bas pc L st h
  | .lastore => p_las pc L st h
  | .aastore => p_aas pc L st h
  | .arraylength => p_len pc L st h
  | .newarray t => p_na t pc L st h
  | .anewarray idx => p_nq y idx pc L st h
  | .new idx => p_nw y idx pc L st h
  | .instanceof idx => p_io y idx pc L st h
  | .invokevirtual idx => p_iv y idx pc L st h
  | .invokestatic idx => p_is1 y idx pc L st h
  | .invokespecial idx => p_iq y idx pc L st h
  | .ireturn => match st with | [.int x] => if p_rt y x then p_rv (some (.int x)) else none | _ => none
  | .lreturn => match st with | [.long x] => if p_r y = some .long then p_rv (some (.long x)) else none | _ => none
  | .areturn => match st with
    | [.ref a] => if p_r y = some (.object "WaterShoulders$Boat") then p_rv (some (.ref a)) else none
    | [.null] => if p_r y = some (.object "WaterShoulders$Boat") then p_rv (some .null) else none
    | _ => none
  | .return_ => match st with | [] => if p_r y = none then p_rv none else none | _ => none
  | _ => none
def p_run : Nat → Nat → Nat → pL → List Value → pH → Option (Option Value × pH)
  | 0, _, _, _, _, _ => none
  | n + 1, y, pc, L, st, h => match decode (p_c y) pc with
    | .error _ => none
    | .ok (I, k) => if p_ck I k then (match p_st y I pc L st h with
      | none => none
      | some (.inl (pc1, L1, st1, h1)) => p_run n y pc1 L1 st1 h1
      | some (.inr (.inl (z, as, pc1, st1))) => match p_run n z 0 (p_en z as) [] h with
        | none => none
        | some (v, h1) => p_run n y pc1 L (v.toList ++ st1) h1
      | some (.inr (.inr v)) => some (v, h)) else none
def V (y pc : Nat) (L : pL) (st : List Value) (h : pH) (Q : Option Value → pH → Prop) : Prop := ∃ n v h1, p_run n y pc L st h = some (v, h1) ∧ Q v h1
/-- what goes on behind a call -/
def Kt (y pc : Nat) (L : pL) (st : List Value) (Q : Option Value → pH → Prop) (v : Option Value) (h : pH) : Prop := V y pc L (v.toList ++ st) h Q
def Vm (z : Nat) (as : List Value) (h : pH) (Q : Option Value → pH → Prop) : Prop := V z 0 (p_en z as) [] h Q
theorem p_mono : ∀ (n y pc : Nat) (L : pL) (st : List Value) (h : pH) (r : Option Value × pH), p_run n y pc L st h = some r → p_run (n + 1) y pc L st h = some r := by
  intro n
  induction n with
  | zero => intro y pc L st h r e; cases e
  | succ n ih =>
    intro y pc L st h r e
    rw [p_run] at e ⊢
    revert e
    cases decode (p_c y) pc with
    | error _ => intro e; cases e
    | ok q =>
      obtain ⟨I, k⟩ := q
      dsimp only
      by_cases hk : p_ck I k = true
      · rw [if_pos hk, if_pos hk]
        cases p_st y I pc L st h with
        | none => intro e; cases e
        | some s =>
          rcases s with ⟨pc1, L1, st1, h1⟩ | ⟨z, as, pc1, st1⟩ | v
          · exact ih _ _ _ _ _ _
          · dsimp only
            cases e1 : p_run n z 0 (p_en z as) [] h with
            | none => intro e; cases e
            | some q =>
              obtain ⟨v, h1⟩ := q
              rw [ih _ _ _ _ _ _ e1]
              exact ih _ _ _ _ _ _
          · exact fun e => e
      · rw [if_neg hk, if_neg hk]
        exact fun e => e
theorem p_mono2 {n y pc : Nat} {L : pL} {st : List Value} {h : pH} {r : Option Value × pH} (e : p_run n y pc L st h = some r) : ∀ k, p_run (n + k) y pc L st h = some r
  | 0 => e
  | k + 1 => p_mono _ _ _ _ _ _ _ (p_mono2 e k)
theorem p_mono3 {n m y pc : Nat} {L : pL} {st : List Value} {h : pH} {r : Option Value × pH} (e : p_run n y pc L st h = some r) (hm : n ≤ m) : p_run m y pc L st h = some r := by
  have := p_mono2 e (m - n)
  rwa [Nat.add_sub_of_le hm] at this
section VR
variable {y pc k : Nat} {I : Instr} {L L1 : pL} {st st1 : List Value} {h h1 : pH} {Q : Option Value → pH → Prop} {pc1 : Nat}
theorem V_nx (hd : decode (p_c y) pc = .ok (I, k)) (hk : p_ck I k = true) (hs : p_st y I pc L st h = p_nx pc1 L1 st1 h1) : V y pc L st h Q = V y pc1 L1 st1 h1 Q := by
  apply propext
  constructor
  · rintro ⟨n, v, h2, e, q⟩
    cases n with
    | zero => cases e
    | succ n =>
      rw [p_run, hd] at e
      dsimp only at e
      rw [if_pos hk, hs] at e
      exact ⟨n, v, h2, e, q⟩
  · rintro ⟨n, v, h2, e, q⟩
    refine ⟨n + 1, v, h2, ?_, q⟩
    rw [p_run, hd]
    dsimp only
    rw [if_pos hk, hs]
    exact e
theorem V_cl {z : Nat} {as : List Value} (hd : decode (p_c y) pc = .ok (I, k)) (hk : p_ck I k = true) (hs : p_st y I pc L st h = some (.inr (.inl (z, as, pc1, st1)))) : V y pc L st h Q = Vm z as h (Kt y pc1 L st1 Q) := by
  apply propext
  constructor
  · rintro ⟨n, v, h2, e, q⟩
    cases n with
    | zero => cases e
    | succ n =>
      rw [p_run, hd] at e
      dsimp only at e
      rw [if_pos hk, hs] at e
      dsimp only at e
      cases e1 : p_run n z 0 (p_en z as) [] h with
      | none => rw [e1] at e; cases e
      | some r =>
        obtain ⟨w, h3⟩ := r
        rw [e1] at e
        exact ⟨n, w, h3, e1, n, v, h2, e, q⟩
  · rintro ⟨n, w, h3, e1, m, v, h2, e2, q⟩
    refine ⟨n + m + 1, v, h2, ?_, q⟩
    rw [p_run, hd]
    dsimp only
    rw [if_pos hk, hs]
    dsimp only
    rw [p_mono3 e1 (Nat.le_add_right n m)]
    exact p_mono3 e2 (Nat.le_add_left m n)
theorem V_rt {v : Option Value} (hd : decode (p_c y) pc = .ok (I, k)) (hk : p_ck I k = true) (hs : p_st y I pc L st h = p_rv v) : V y pc L st h Q = Q v h := by
  apply propext
  constructor
  · rintro ⟨n, v2, h2, e, q⟩
    cases n with
    | zero => cases e
    | succ n =>
      rw [p_run, hd] at e
      dsimp only at e
      rw [if_pos hk, hs] at e
      cases e
      exact q
  · intro q
    refine ⟨1, v, h, ?_, q⟩
    rw [p_run, hd]
    dsimp only
    rw [if_pos hk, hs]
    rfl
theorem V_no (hd : decode (p_c y) pc = .ok (I, k)) (hk : p_ck I k = true) (hs : p_st y I pc L st h = none) : V y pc L st h Q = False := by
  apply propext
  constructor
  · rintro ⟨n, v2, h2, e, q⟩
    cases n with
    | zero => cases e
    | succ n =>
      rw [p_run, hd] at e
      dsimp only at e
      rw [if_pos hk, hs] at e
      cases e
  · exact False.elim
theorem V_mono {Q2 : Option Value → pH → Prop} (hq : ∀ v h2, Q v h2 → Q2 v h2) (hv : V y pc L st h Q) : V y pc L st h Q2 := by
  obtain ⟨n, v, h2, e, q⟩ := hv
  exact ⟨n, v, h2, e, hq _ _ q⟩
theorem Kt_some {v : Value} : Kt y pc L st Q (some v) h = V y pc L (v :: st) h Q := rfl
theorem Kt_none : Kt y pc L st Q none h = V y pc L st h Q := rfl
end VR
