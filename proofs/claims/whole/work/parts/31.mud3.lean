section S31
variable {h : pH} {K Q : Option Value → pH → Prop} {sz bs fr cs : Int32}
def hd (fr : Int32) (ln : Nat → Int32) : Nat → Int32
  | 0 => fr
  | i + 1 => ln i
/-- ways and days behind so many days -/
def fw (H L fr : Int32) (ln t : Nat → Int32) (mk : Int32) (kk : Nat) (w m : Nat → Int32) : Nat → (Nat → Int32) × (Nat → Int32)
  | 0 => (w, m)
  | i + 1 => (dq (ftp H L (hd fr ln i) (ln i) t) mk (nI (2 ^ (i + 1))) kk (fw H L fr ln t mk kk w m i).1 (fw H L fr ln t mk kk w m i).2 0, dr (ftp H L (hd fr ln i) (ln i) t) mk (nI (2 ^ (i + 1))) kk (fw H L fr ln t mk kk w m i).1 (fw H L fr ln t mk kk w m i).2 0)
theorem l17 {n b l kk : Nat} {mk : Int32} {fh fl ln t w m : Nat → Int32} (a4 : p_get h 4 = some (oS 5 6 (nI n))) (a5 : p_get h 5 = some (aI 4 fh)) (a6 : p_get h 6 = some (aI 4 fl)) (h10 : p_get h 10 = some (oU (nI l) (nI b) fr (nI kk))) (h11 : p_get h 11 = some (aI 7 ln)) (h13 : p_get h 13 = some (aI 32 t)) (hn : n ≤ 4) (hb : b < n) (hl : l ≤ 7) (hk : kk < 32) : ∀ (d i : Nat), i + d = l → V 17 42 [some (.ref 10), some (.ref 4), some (.int mk), some (.int (hd fr ln i)), some (.int (nI i))] [] (p_set (p_set h 14 (aI 32 (fw (fh b) (fl b) fr ln t mk kk w m i).1)) 15 (aI 32 (fw (fh b) (fl b) fr ln t mk kk w m i).2)) K = K none (p_set (p_set h 14 (aI 32 (fw (fh b) (fl b) fr ln t mk kk w m l).1)) 15 (aI 32 (fw (fh b) (fl b) fr ln t mk kk w m l).2)) := by
  intro d
  induction d with
  | zero =>
    intro i hi
    have e2 : i = l := by omega
    subst e2
    have e1 := nI_F (a := i) (b := i) (by omega) (by omega)
    rw [e17_42]
    simp (decide := true) only [e17_0, e17_1, e17_4, e17_5, e17_8, e17_9, e17_12, e17_13, e17_16, e17_17, e17_20, e17_21, e17_24, e17_25, e17_26, e17_27, e17_28, e17_31, e17_32, e17_33, e17_34, e17_35, e17_38, e17_39, e17_40, e17_44, e17_45, e17_48, e17_51, e17_53, e17_55, e17_58, e17_59, e17_60, e17_60n, e17_61, e17_62, e17_63, e17_66, e17_68, e17_69, e17_72, e17_73, e17_74, e17_76, e17_77, e17_78, e17_79, e17_82, e17_83, e17_86, e17_88, e17_89, e17_90, e17_93, e17_96, m17, ok_4_6_4, fv9_6, ok_4_7_4, fv9_7, ok_4_4_4, fv9_4, ok_4_1_4, fv9_1, ok_4_0_4, fv9_0, Kt_some, Kt_none, V_ite, g_if, g_ss, g_1, g_2, g_cn, g_iok, g_sok, g_bok, g_jok, g_qok, g_ivl, g_jvl, g_qvl, g_ist, g_bst, g_jst, g_qst, g_aln, g_isa, g_dl1, g_dl2, g_dl3, g_dl4, g_dl5, g_dd, g_rfs, g_rfn, p_sm0, p_sm1, p_sm2, p_sm3, p_sm4, true_and, and_true, if_true, if_false, ↓reduceIte, Nat.reduceEqDiff, reduceCtorEq, or_true, true_or, and_self, Int32.reduceLT, Int32.reduceAdd, Int32.reduceSub, Int32.reduceToNatClampNeg, not_false_eq_true, not_true_eq_false, h10, e1]
  | succ d ih =>
    intro i hi
    have e1 := nI_T (a := i) (b := l) (by omega) (by omega)
    have e3 : (nI i < 7) = True := nI_T (a := i) (b := 7) (by omega) (by omega)
    have v3 := vp_T (show i < 7 by omega) (by omega)
    have c3 := nI_c (a := i) (by omega)
    have s3 := sh_i (i + 1) (by omega)
    have hF := fun Q => c19 (K := Q) (h := p_set (p_set h 14 (aI 32 (fw (fh b) (fl b) fr ln t mk kk w m i).1)) 15 (aI 32 (fw (fh b) (fl b) fr ln t mk kk w m i).2)) (n := n) (b := b) (had := hd fr ln i) (line := ln i) (fh := fh) (fl := fl) (t := t) (sz := nI l) (fr := fr) (cs := nI kk) (by simp (decide := true) only [Kt_some, Kt_none, V_ite, g_if, g_ss, g_1, g_2, g_cn, g_iok, g_sok, g_bok, g_jok, g_qok, g_ivl, g_jvl, g_qvl, g_ist, g_bst, g_jst, g_qst, g_aln, g_isa, g_dl1, g_dl2, g_dl3, g_dl4, g_dl5, g_dd, g_rfs, g_rfn, p_sm0, p_sm1, p_sm2, p_sm3, p_sm4, true_and, and_true, if_true, if_false, ↓reduceIte, Nat.reduceEqDiff, reduceCtorEq, or_true, true_or, and_self, Int32.reduceLT, Int32.reduceAdd, Int32.reduceSub, Int32.reduceToNatClampNeg, not_false_eq_true, not_true_eq_false, a4]) (by simp (decide := true) only [Kt_some, Kt_none, V_ite, g_if, g_ss, g_1, g_2, g_cn, g_iok, g_sok, g_bok, g_jok, g_qok, g_ivl, g_jvl, g_qvl, g_ist, g_bst, g_jst, g_qst, g_aln, g_isa, g_dl1, g_dl2, g_dl3, g_dl4, g_dl5, g_dd, g_rfs, g_rfn, p_sm0, p_sm1, p_sm2, p_sm3, p_sm4, true_and, and_true, if_true, if_false, ↓reduceIte, Nat.reduceEqDiff, reduceCtorEq, or_true, true_or, and_self, Int32.reduceLT, Int32.reduceAdd, Int32.reduceSub, Int32.reduceToNatClampNeg, not_false_eq_true, not_true_eq_false, a5]) (by simp (decide := true) only [Kt_some, Kt_none, V_ite, g_if, g_ss, g_1, g_2, g_cn, g_iok, g_sok, g_bok, g_jok, g_qok, g_ivl, g_jvl, g_qvl, g_ist, g_bst, g_jst, g_qst, g_aln, g_isa, g_dl1, g_dl2, g_dl3, g_dl4, g_dl5, g_dd, g_rfs, g_rfn, p_sm0, p_sm1, p_sm2, p_sm3, p_sm4, true_and, and_true, if_true, if_false, ↓reduceIte, Nat.reduceEqDiff, reduceCtorEq, or_true, true_or, and_self, Int32.reduceLT, Int32.reduceAdd, Int32.reduceSub, Int32.reduceToNatClampNeg, not_false_eq_true, not_true_eq_false, a6]) (by simp (decide := true) only [Kt_some, Kt_none, V_ite, g_if, g_ss, g_1, g_2, g_cn, g_iok, g_sok, g_bok, g_jok, g_qok, g_ivl, g_jvl, g_qvl, g_ist, g_bst, g_jst, g_qst, g_aln, g_isa, g_dl1, g_dl2, g_dl3, g_dl4, g_dl5, g_dd, g_rfs, g_rfn, p_sm0, p_sm1, p_sm2, p_sm3, p_sm4, true_and, and_true, if_true, if_false, ↓reduceIte, Nat.reduceEqDiff, reduceCtorEq, or_true, true_or, and_self, Int32.reduceLT, Int32.reduceAdd, Int32.reduceSub, Int32.reduceToNatClampNeg, not_false_eq_true, not_true_eq_false, h10]) (by simp (decide := true) only [Kt_some, Kt_none, V_ite, g_if, g_ss, g_1, g_2, g_cn, g_iok, g_sok, g_bok, g_jok, g_qok, g_ivl, g_jvl, g_qvl, g_ist, g_bst, g_jst, g_qst, g_aln, g_isa, g_dl1, g_dl2, g_dl3, g_dl4, g_dl5, g_dd, g_rfs, g_rfn, p_sm0, p_sm1, p_sm2, p_sm3, p_sm4, true_and, and_true, if_true, if_false, ↓reduceIte, Nat.reduceEqDiff, reduceCtorEq, or_true, true_or, and_self, Int32.reduceLT, Int32.reduceAdd, Int32.reduceSub, Int32.reduceToNatClampNeg, not_false_eq_true, not_true_eq_false, h13]) hn hb
    have hD := fun Q => c20 (K := Q) (h := p_set (p_set h 14 (aI 32 (fw (fh b) (fl b) fr ln t mk kk w m i).1)) 15 (aI 32 (fw (fh b) (fl b) fr ln t mk kk w m i).2)) (F := fb (ftp (fh b) (fl b) (hd fr ln i) (ln i) t) 32) (kk := kk) (P := ftp (fh b) (fl b) (hd fr ln i) (ln i) t) (mk := mk) (db := nI (2 ^ (i + 1))) (w := (fw (fh b) (fl b) fr ln t mk kk w m i).1) (m := (fw (fh b) (fl b) fr ln t mk kk w m i).2) (sz := nI l) (bs := nI b) (fr := fr) (fb_lt _ 32) (fun k hk => fb_t _ 32 k hk) hk (by simp (decide := true) only [Kt_some, Kt_none, V_ite, g_if, g_ss, g_1, g_2, g_cn, g_iok, g_sok, g_bok, g_jok, g_qok, g_ivl, g_jvl, g_qvl, g_ist, g_bst, g_jst, g_qst, g_aln, g_isa, g_dl1, g_dl2, g_dl3, g_dl4, g_dl5, g_dd, g_rfs, g_rfn, p_sm0, p_sm1, p_sm2, p_sm3, p_sm4, true_and, and_true, if_true, if_false, ↓reduceIte, Nat.reduceEqDiff, reduceCtorEq, or_true, true_or, and_self, Int32.reduceLT, Int32.reduceAdd, Int32.reduceSub, Int32.reduceToNatClampNeg, not_false_eq_true, not_true_eq_false, h10]) (by simp (decide := true) only [Kt_some, Kt_none, V_ite, g_if, g_ss, g_1, g_2, g_cn, g_iok, g_sok, g_bok, g_jok, g_qok, g_ivl, g_jvl, g_qvl, g_ist, g_bst, g_jst, g_qst, g_aln, g_isa, g_dl1, g_dl2, g_dl3, g_dl4, g_dl5, g_dd, g_rfs, g_rfn, p_sm0, p_sm1, p_sm2, p_sm3, p_sm4, true_and, and_true, if_true, if_false, ↓reduceIte, Nat.reduceEqDiff, reduceCtorEq, or_true, true_or, and_self, Int32.reduceLT, Int32.reduceAdd, Int32.reduceSub, Int32.reduceToNatClampNeg, not_false_eq_true, not_true_eq_false]) (by simp (decide := true) only [Kt_some, Kt_none, V_ite, g_if, g_ss, g_1, g_2, g_cn, g_iok, g_sok, g_bok, g_jok, g_qok, g_ivl, g_jvl, g_qvl, g_ist, g_bst, g_jst, g_qst, g_aln, g_isa, g_dl1, g_dl2, g_dl3, g_dl4, g_dl5, g_dd, g_rfs, g_rfn, p_sm0, p_sm1, p_sm2, p_sm3, p_sm4, true_and, and_true, if_true, if_false, ↓reduceIte, Nat.reduceEqDiff, reduceCtorEq, or_true, true_or, and_self, Int32.reduceLT, Int32.reduceAdd, Int32.reduceSub, Int32.reduceToNatClampNeg, not_false_eq_true, not_true_eq_false])
    have := ih (i + 1) (by omega)
    rw [e17_42]
    simp (decide := true) only [e17_0, e17_1, e17_4, e17_5, e17_8, e17_9, e17_12, e17_13, e17_16, e17_17, e17_20, e17_21, e17_24, e17_25, e17_26, e17_27, e17_28, e17_31, e17_32, e17_33, e17_34, e17_35, e17_38, e17_39, e17_40, e17_44, e17_45, e17_48, e17_51, e17_53, e17_55, e17_58, e17_59, e17_60, e17_60n, e17_61, e17_62, e17_63, e17_66, e17_68, e17_69, e17_72, e17_73, e17_74, e17_76, e17_77, e17_78, e17_79, e17_82, e17_83, e17_86, e17_88, e17_89, e17_90, e17_93, e17_96, m17, ok_4_6_4, fv9_6, ok_4_7_4, fv9_7, ok_4_4_4, fv9_4, ok_4_1_4, fv9_1, ok_4_0_4, fv9_0, Kt_some, Kt_none, V_ite, g_if, g_ss, g_1, g_2, g_cn, g_iok, g_sok, g_bok, g_jok, g_qok, g_ivl, g_jvl, g_qvl, g_ist, g_bst, g_jst, g_qst, g_aln, g_isa, g_dl1, g_dl2, g_dl3, g_dl4, g_dl5, g_dd, g_rfs, g_rfn, p_sm0, p_sm1, p_sm2, p_sm3, p_sm4, true_and, and_true, if_true, if_false, ↓reduceIte, Nat.reduceEqDiff, reduceCtorEq, or_true, true_or, and_self, Int32.reduceLT, Int32.reduceAdd, Int32.reduceSub, Int32.reduceToNatClampNeg, not_false_eq_true, not_true_eq_false, h10, h11, e1, e3, v3, c3, hF, nI_1, s3, hD, g_comm (show (15 : Nat) ≠ 14 by decide)]
    exact this
theorem c17 {n b l : Nat} {mk : Int32} {fh fl ln c f13 f14 f15 : Nat → Int32} (a4 : p_get h 4 = some (oS 5 6 (nI n))) (a5 : p_get h 5 = some (aI 4 fh)) (a6 : p_get h 6 = some (aI 4 fl)) (h10 : p_get h 10 = some (oU (nI l) (nI b) fr cs)) (h11 : p_get h 11 = some (aI 7 ln)) (h12 : p_get h 12 = some (aI 5 c)) (h13 : p_get h 13 = some (aI 32 f13)) (h14 : p_get h 14 = some (aI 32 f14)) (h15 : p_get h 15 = some (aI 32 f15)) (hn : n ≤ 4) (hb : b < n) (hl : l ≤ 7) : Vm 17 [.ref 10, .ref 4, .int mk] h K = K none (p_set (p_set (p_set (p_set h 10 (oU (nI l) (nI b) fr (nI (km c 5)))) 13 (aI 32 (tf c f13 5))) 14 (aI 32 (fw (fh b) (fl b) fr ln (tf c f13 5) mk (km c 5) (upd (fi f14 0 32) 0 1) (upd (fi f15 0 32) 0 1) l).1)) 15 (aI 32 (fw (fh b) (fl b) fr ln (tf c f13 5) mk (km c 5) (upd (fi f14 0 32) 0 1) (upd (fi f15 0 32) 0 1) l).2)) := by
  have := l17 (K := K) (h := p_set (p_set h 10 (oU (nI l) (nI b) fr (nI (km c 5)))) 13 (aI 32 (tf c f13 5))) (n := n) (b := b) (l := l) (kk := km c 5) (mk := mk) (fh := fh) (fl := fl) (ln := ln) (t := tf c f13 5) (w := upd (fi f14 0 32) 0 1) (m := upd (fi f15 0 32) 0 1) (fr := fr) (by simp (decide := true) only [Kt_some, Kt_none, V_ite, g_if, g_ss, g_1, g_2, g_cn, g_iok, g_sok, g_bok, g_jok, g_qok, g_ivl, g_jvl, g_qvl, g_ist, g_bst, g_jst, g_qst, g_aln, g_isa, g_dl1, g_dl2, g_dl3, g_dl4, g_dl5, g_dd, g_rfs, g_rfn, p_sm0, p_sm1, p_sm2, p_sm3, p_sm4, true_and, and_true, if_true, if_false, ↓reduceIte, Nat.reduceEqDiff, reduceCtorEq, or_true, true_or, and_self, Int32.reduceLT, Int32.reduceAdd, Int32.reduceSub, Int32.reduceToNatClampNeg, not_false_eq_true, not_true_eq_false, a4]) (by simp (decide := true) only [Kt_some, Kt_none, V_ite, g_if, g_ss, g_1, g_2, g_cn, g_iok, g_sok, g_bok, g_jok, g_qok, g_ivl, g_jvl, g_qvl, g_ist, g_bst, g_jst, g_qst, g_aln, g_isa, g_dl1, g_dl2, g_dl3, g_dl4, g_dl5, g_dd, g_rfs, g_rfn, p_sm0, p_sm1, p_sm2, p_sm3, p_sm4, true_and, and_true, if_true, if_false, ↓reduceIte, Nat.reduceEqDiff, reduceCtorEq, or_true, true_or, and_self, Int32.reduceLT, Int32.reduceAdd, Int32.reduceSub, Int32.reduceToNatClampNeg, not_false_eq_true, not_true_eq_false, a5]) (by simp (decide := true) only [Kt_some, Kt_none, V_ite, g_if, g_ss, g_1, g_2, g_cn, g_iok, g_sok, g_bok, g_jok, g_qok, g_ivl, g_jvl, g_qvl, g_ist, g_bst, g_jst, g_qst, g_aln, g_isa, g_dl1, g_dl2, g_dl3, g_dl4, g_dl5, g_dd, g_rfs, g_rfn, p_sm0, p_sm1, p_sm2, p_sm3, p_sm4, true_and, and_true, if_true, if_false, ↓reduceIte, Nat.reduceEqDiff, reduceCtorEq, or_true, true_or, and_self, Int32.reduceLT, Int32.reduceAdd, Int32.reduceSub, Int32.reduceToNatClampNeg, not_false_eq_true, not_true_eq_false, a6]) (by simp (decide := true) only [Kt_some, Kt_none, V_ite, g_if, g_ss, g_1, g_2, g_cn, g_iok, g_sok, g_bok, g_jok, g_qok, g_ivl, g_jvl, g_qvl, g_ist, g_bst, g_jst, g_qst, g_aln, g_isa, g_dl1, g_dl2, g_dl3, g_dl4, g_dl5, g_dd, g_rfs, g_rfn, p_sm0, p_sm1, p_sm2, p_sm3, p_sm4, true_and, and_true, if_true, if_false, ↓reduceIte, Nat.reduceEqDiff, reduceCtorEq, or_true, true_or, and_self, Int32.reduceLT, Int32.reduceAdd, Int32.reduceSub, Int32.reduceToNatClampNeg, not_false_eq_true, not_true_eq_false]) (by simp (decide := true) only [Kt_some, Kt_none, V_ite, g_if, g_ss, g_1, g_2, g_cn, g_iok, g_sok, g_bok, g_jok, g_qok, g_ivl, g_jvl, g_qvl, g_ist, g_bst, g_jst, g_qst, g_aln, g_isa, g_dl1, g_dl2, g_dl3, g_dl4, g_dl5, g_dd, g_rfs, g_rfn, p_sm0, p_sm1, p_sm2, p_sm3, p_sm4, true_and, and_true, if_true, if_false, ↓reduceIte, Nat.reduceEqDiff, reduceCtorEq, or_true, true_or, and_self, Int32.reduceLT, Int32.reduceAdd, Int32.reduceSub, Int32.reduceToNatClampNeg, not_false_eq_true, not_true_eq_false, h11]) (by simp (decide := true) only [Kt_some, Kt_none, V_ite, g_if, g_ss, g_1, g_2, g_cn, g_iok, g_sok, g_bok, g_jok, g_qok, g_ivl, g_jvl, g_qvl, g_ist, g_bst, g_jst, g_qst, g_aln, g_isa, g_dl1, g_dl2, g_dl3, g_dl4, g_dl5, g_dd, g_rfs, g_rfn, p_sm0, p_sm1, p_sm2, p_sm3, p_sm4, true_and, and_true, if_true, if_false, ↓reduceIte, Nat.reduceEqDiff, reduceCtorEq, or_true, true_or, and_self, Int32.reduceLT, Int32.reduceAdd, Int32.reduceSub, Int32.reduceToNatClampNeg, not_false_eq_true, not_true_eq_false]) hn hb hl (km_lt c 5) l 0 (by omega)
  rw [show (fw (fh b) (fl b) fr ln (tf c f13 5) mk (km c 5) (upd (fi f14 0 32) 0 1) (upd (fi f15 0 32) 0 1) 0) = (upd (fi f14 0 32) 0 1, upd (fi f15 0 32) 0 1) from rfl, show nI 0 = (0 : Int32) from rfl, show hd fr ln 0 = fr from rfl] at this
  have f1 := fun (Q : Option Value → pH → Prop) => c169 (Q := Q) (h := p_set (p_set h 10 (oU (nI l) (nI b) fr (nI (km c 5)))) 13 (aI 32 (tf c f13 5))) (r := 14) (f := f14) (x := 0) (show 32 < 100000 by omega) (by simp (decide := true) only [Kt_some, Kt_none, V_ite, g_if, g_ss, g_1, g_2, g_cn, g_iok, g_sok, g_bok, g_jok, g_qok, g_ivl, g_jvl, g_qvl, g_ist, g_bst, g_jst, g_qst, g_aln, g_isa, g_dl1, g_dl2, g_dl3, g_dl4, g_dl5, g_dd, g_rfs, g_rfn, p_sm0, p_sm1, p_sm2, p_sm3, p_sm4, true_and, and_true, if_true, if_false, ↓reduceIte, Nat.reduceEqDiff, reduceCtorEq, or_true, true_or, and_self, Int32.reduceLT, Int32.reduceAdd, Int32.reduceSub, Int32.reduceToNatClampNeg, not_false_eq_true, not_true_eq_false, h14])
  have f2 := fun (Q : Option Value → pH → Prop) => c169 (Q := Q) (h := p_set (p_set (p_set h 10 (oU (nI l) (nI b) fr (nI (km c 5)))) 13 (aI 32 (tf c f13 5))) 14 (aI 32 (fi f14 0 32))) (r := 15) (f := f15) (x := 0) (show 32 < 100000 by omega) (by simp (decide := true) only [Kt_some, Kt_none, V_ite, g_if, g_ss, g_1, g_2, g_cn, g_iok, g_sok, g_bok, g_jok, g_qok, g_ivl, g_jvl, g_qvl, g_ist, g_bst, g_jst, g_qst, g_aln, g_isa, g_dl1, g_dl2, g_dl3, g_dl4, g_dl5, g_dd, g_rfs, g_rfn, p_sm0, p_sm1, p_sm2, p_sm3, p_sm4, true_and, and_true, if_true, if_false, ↓reduceIte, Nat.reduceEqDiff, reduceCtorEq, or_true, true_or, and_self, Int32.reduceLT, Int32.reduceAdd, Int32.reduceSub, Int32.reduceToNatClampNeg, not_false_eq_true, not_true_eq_false, h15])
  simp (decide := true) only [e17_0, e17_1, e17_4, e17_5, e17_8, e17_9, e17_12, e17_13, e17_16, e17_17, e17_20, e17_21, e17_24, e17_25, e17_26, e17_27, e17_28, e17_31, e17_32, e17_33, e17_34, e17_35, e17_38, e17_39, e17_40, e17_44, e17_45, e17_48, e17_51, e17_53, e17_55, e17_58, e17_59, e17_60, e17_60n, e17_61, e17_62, e17_63, e17_66, e17_68, e17_69, e17_72, e17_73, e17_74, e17_76, e17_77, e17_78, e17_79, e17_82, e17_83, e17_86, e17_88, e17_89, e17_90, e17_93, e17_96, m17, ok_4_6_4, fv9_6, ok_4_7_4, fv9_7, ok_4_4_4, fv9_4, ok_4_1_4, fv9_1, ok_4_0_4, fv9_0, Kt_some, Kt_none, V_ite, g_if, g_ss, g_1, g_2, g_cn, g_iok, g_sok, g_bok, g_jok, g_qok, g_ivl, g_jvl, g_qvl, g_ist, g_bst, g_jst, g_qst, g_aln, g_isa, g_dl1, g_dl2, g_dl3, g_dl4, g_dl5, g_dd, g_rfs, g_rfn, p_sm0, p_sm1, p_sm2, p_sm3, p_sm4, true_and, and_true, if_true, if_false, ↓reduceIte, Nat.reduceEqDiff, reduceCtorEq, or_true, true_or, and_self, Int32.reduceLT, Int32.reduceAdd, Int32.reduceSub, Int32.reduceToNatClampNeg, not_false_eq_true, not_true_eq_false, h10, c18 h10 h12 h13, f1, f2, vp_0 (show 0 < 32 by omega), g_comm (show (15 : Nat) ≠ 14 by decide)]
  exact this
/-- sums and joined bits of a row -/
def su (w : Nat → Int32) : Nat → Int32
  | 0 => 0
  | k + 1 => su w k + w k
def ou (m : Nat → Int32) : Nat → Int32
  | 0 => 0
  | k + 1 => ou m k ||| m k
def od : Nat → Nat → Int32 → Int32
  | 0, _, _ => -1
  | d + 1, i, x => if x = nI (2 ^ i) then nI i else od d (i + 1) x
theorem c22 {w : Nat → Int32} (h10 : p_get h 10 = some (oU sz bs fr cs)) (h14 : p_get h 14 = some (aI 32 w)) : Vm 22 [.ref 10] h K = K (some (.int (su w 32))) h := by
  have l22 : ∀ (d i : Nat), i + d = 32 → V 22 4 [some (.ref 10), some (.int (su w i)), some (.int (nI i))] [] h K = K (some (.int (su w 32))) h := by
    intro d
    induction d with
    | zero =>
      intro i hi
      have e2 : i = 32 := by omega
      subst e2
      rw [e22_4]
      simp (decide := true) only [e22_0, e22_1, e22_2, e22_3, e22_5, e22_7, e22_10, e22_11, e22_12, e22_15, e22_16, e22_17, e22_18, e22_19, e22_22, e22_25, e22_26, m22, ok_4_6_4, fv9_6, Kt_some, Kt_none, V_ite, g_if, g_ss, g_1, g_2, g_cn, g_iok, g_sok, g_bok, g_jok, g_qok, g_ivl, g_jvl, g_qvl, g_ist, g_bst, g_jst, g_qst, g_aln, g_isa, g_dl1, g_dl2, g_dl3, g_dl4, g_dl5, g_dd, g_rfs, g_rfn, p_sm0, p_sm1, p_sm2, p_sm3, p_sm4, true_and, and_true, if_true, if_false, ↓reduceIte, Nat.reduceEqDiff, reduceCtorEq, or_true, true_or, and_self, Int32.reduceLT, Int32.reduceAdd, Int32.reduceSub, Int32.reduceToNatClampNeg, not_false_eq_true, not_true_eq_false, show (nI 32 < 32) = False from eq_false (by decide)]
    | succ d ih =>
      intro i hi
      have e3 : (nI i < 32) = True := nI_T (a := i) (b := 32) (by omega) (by omega)
      have v3 := vp_T (show i < 32 by omega) (by omega)
      have c3 := nI_c (a := i) (by omega)
      rw [e22_4]
      simp (decide := true) only [e22_0, e22_1, e22_2, e22_3, e22_5, e22_7, e22_10, e22_11, e22_12, e22_15, e22_16, e22_17, e22_18, e22_19, e22_22, e22_25, e22_26, m22, ok_4_6_4, fv9_6, Kt_some, Kt_none, V_ite, g_if, g_ss, g_1, g_2, g_cn, g_iok, g_sok, g_bok, g_jok, g_qok, g_ivl, g_jvl, g_qvl, g_ist, g_bst, g_jst, g_qst, g_aln, g_isa, g_dl1, g_dl2, g_dl3, g_dl4, g_dl5, g_dd, g_rfs, g_rfn, p_sm0, p_sm1, p_sm2, p_sm3, p_sm4, true_and, and_true, if_true, if_false, ↓reduceIte, Nat.reduceEqDiff, reduceCtorEq, or_true, true_or, and_self, Int32.reduceLT, Int32.reduceAdd, Int32.reduceSub, Int32.reduceToNatClampNeg, not_false_eq_true, not_true_eq_false, e3, v3, c3, h10, h14, nI_1]
      exact ih (i + 1) (by omega)
  have := l22 32 0 (by omega)
  simp (decide := true) only [e22_0, e22_1, e22_2, e22_3, e22_5, e22_7, e22_10, e22_11, e22_12, e22_15, e22_16, e22_17, e22_18, e22_19, e22_22, e22_25, e22_26, m22, ok_4_6_4, fv9_6, Kt_some, Kt_none, V_ite, g_if, g_ss, g_1, g_2, g_cn, g_iok, g_sok, g_bok, g_jok, g_qok, g_ivl, g_jvl, g_qvl, g_ist, g_bst, g_jst, g_qst, g_aln, g_isa, g_dl1, g_dl2, g_dl3, g_dl4, g_dl5, g_dd, g_rfs, g_rfn, p_sm0, p_sm1, p_sm2, p_sm3, p_sm4, true_and, and_true, if_true, if_false, ↓reduceIte, Nat.reduceEqDiff, reduceCtorEq, or_true, true_or, and_self, Int32.reduceLT, Int32.reduceAdd, Int32.reduceSub, Int32.reduceToNatClampNeg, not_false_eq_true, not_true_eq_false]
  exact this
theorem c23 {m : Nat → Int32} (h10 : p_get h 10 = some (oU sz bs fr cs)) (h15 : p_get h 15 = some (aI 32 m)) : Vm 23 [.ref 10] h K = K (some (.int (od 8 0 (ou m 32)))) h := by
  have l23b : ∀ (x : Int32) (d i : Nat), i + d = 8 → V 23 27 [some (.ref 10), some (.int x), some (.int (nI i))] [] h K = K (some (.int (od d i x))) h := by
    intro x d
    induction d with
    | zero =>
      intro i hi
      have e2 : i = 8 := by omega
      subst e2
      rw [e23_27]
      simp (decide := true) only [e23_0, e23_1, e23_2, e23_3, e23_5, e23_7, e23_10, e23_11, e23_12, e23_15, e23_16, e23_17, e23_18, e23_19, e23_22, e23_25, e23_26, e23_28, e23_30, e23_33, e23_34, e23_35, e23_36, e23_37, e23_40, e23_41, e23_42, e23_45, e23_48, e23_49, m23, ok_4_7_4, fv9_7, Kt_some, Kt_none, V_ite, g_if, g_ss, g_1, g_2, g_cn, g_iok, g_sok, g_bok, g_jok, g_qok, g_ivl, g_jvl, g_qvl, g_ist, g_bst, g_jst, g_qst, g_aln, g_isa, g_dl1, g_dl2, g_dl3, g_dl4, g_dl5, g_dd, g_rfs, g_rfn, p_sm0, p_sm1, p_sm2, p_sm3, p_sm4, true_and, and_true, if_true, if_false, ↓reduceIte, Nat.reduceEqDiff, reduceCtorEq, or_true, true_or, and_self, Int32.reduceLT, Int32.reduceAdd, Int32.reduceSub, Int32.reduceToNatClampNeg, not_false_eq_true, not_true_eq_false, show (7 < nI 8) = True from eq_true (by decide), od]
    | succ d ih =>
      intro i hi
      have e3 : (7 < nI i) = False := nI_F (a := 7) (b := i) (by omega) (by omega)
      have s3 := sh_i i (by omega)
      rw [e23_27]
      by_cases hx : x = nI (2 ^ i)
      · simp (decide := true) only [e23_0, e23_1, e23_2, e23_3, e23_5, e23_7, e23_10, e23_11, e23_12, e23_15, e23_16, e23_17, e23_18, e23_19, e23_22, e23_25, e23_26, e23_28, e23_30, e23_33, e23_34, e23_35, e23_36, e23_37, e23_40, e23_41, e23_42, e23_45, e23_48, e23_49, m23, ok_4_7_4, fv9_7, Kt_some, Kt_none, V_ite, g_if, g_ss, g_1, g_2, g_cn, g_iok, g_sok, g_bok, g_jok, g_qok, g_ivl, g_jvl, g_qvl, g_ist, g_bst, g_jst, g_qst, g_aln, g_isa, g_dl1, g_dl2, g_dl3, g_dl4, g_dl5, g_dd, g_rfs, g_rfn, p_sm0, p_sm1, p_sm2, p_sm3, p_sm4, true_and, and_true, if_true, if_false, ↓reduceIte, Nat.reduceEqDiff, reduceCtorEq, or_true, true_or, and_self, Int32.reduceLT, Int32.reduceAdd, Int32.reduceSub, Int32.reduceToNatClampNeg, not_false_eq_true, not_true_eq_false, e3, s3, hx, od]
      · simp (decide := true) only [e23_0, e23_1, e23_2, e23_3, e23_5, e23_7, e23_10, e23_11, e23_12, e23_15, e23_16, e23_17, e23_18, e23_19, e23_22, e23_25, e23_26, e23_28, e23_30, e23_33, e23_34, e23_35, e23_36, e23_37, e23_40, e23_41, e23_42, e23_45, e23_48, e23_49, m23, ok_4_7_4, fv9_7, Kt_some, Kt_none, V_ite, g_if, g_ss, g_1, g_2, g_cn, g_iok, g_sok, g_bok, g_jok, g_qok, g_ivl, g_jvl, g_qvl, g_ist, g_bst, g_jst, g_qst, g_aln, g_isa, g_dl1, g_dl2, g_dl3, g_dl4, g_dl5, g_dd, g_rfs, g_rfn, p_sm0, p_sm1, p_sm2, p_sm3, p_sm4, true_and, and_true, if_true, if_false, ↓reduceIte, Nat.reduceEqDiff, reduceCtorEq, or_true, true_or, and_self, Int32.reduceLT, Int32.reduceAdd, Int32.reduceSub, Int32.reduceToNatClampNeg, not_false_eq_true, not_true_eq_false, e3, s3, hx, od, nI_1]
        exact ih (i + 1) (by omega)
  have l23 : ∀ (d i : Nat), i + d = 32 → V 23 4 [some (.ref 10), some (.int (ou m i)), some (.int (nI i))] [] h K = K (some (.int (od 8 0 (ou m 32)))) h := by
    intro d
    induction d with
    | zero =>
      intro i hi
      have e2 : i = 32 := by omega
      subst e2
      rw [e23_4]
      simp (decide := true) only [e23_0, e23_1, e23_2, e23_3, e23_5, e23_7, e23_10, e23_11, e23_12, e23_15, e23_16, e23_17, e23_18, e23_19, e23_22, e23_25, e23_26, e23_28, e23_30, e23_33, e23_34, e23_35, e23_36, e23_37, e23_40, e23_41, e23_42, e23_45, e23_48, e23_49, m23, ok_4_7_4, fv9_7, Kt_some, Kt_none, V_ite, g_if, g_ss, g_1, g_2, g_cn, g_iok, g_sok, g_bok, g_jok, g_qok, g_ivl, g_jvl, g_qvl, g_ist, g_bst, g_jst, g_qst, g_aln, g_isa, g_dl1, g_dl2, g_dl3, g_dl4, g_dl5, g_dd, g_rfs, g_rfn, p_sm0, p_sm1, p_sm2, p_sm3, p_sm4, true_and, and_true, if_true, if_false, ↓reduceIte, Nat.reduceEqDiff, reduceCtorEq, or_true, true_or, and_self, Int32.reduceLT, Int32.reduceAdd, Int32.reduceSub, Int32.reduceToNatClampNeg, not_false_eq_true, not_true_eq_false, show (nI 32 < 32) = False from eq_false (by decide)]
      exact l23b (ou m 32) 8 0 (by omega)
    | succ d ih =>
      intro i hi
      have e3 : (nI i < 32) = True := nI_T (a := i) (b := 32) (by omega) (by omega)
      have v3 := vp_T (show i < 32 by omega) (by omega)
      have c3 := nI_c (a := i) (by omega)
      rw [e23_4]
      simp (decide := true) only [e23_0, e23_1, e23_2, e23_3, e23_5, e23_7, e23_10, e23_11, e23_12, e23_15, e23_16, e23_17, e23_18, e23_19, e23_22, e23_25, e23_26, e23_28, e23_30, e23_33, e23_34, e23_35, e23_36, e23_37, e23_40, e23_41, e23_42, e23_45, e23_48, e23_49, m23, ok_4_7_4, fv9_7, Kt_some, Kt_none, V_ite, g_if, g_ss, g_1, g_2, g_cn, g_iok, g_sok, g_bok, g_jok, g_qok, g_ivl, g_jvl, g_qvl, g_ist, g_bst, g_jst, g_qst, g_aln, g_isa, g_dl1, g_dl2, g_dl3, g_dl4, g_dl5, g_dd, g_rfs, g_rfn, p_sm0, p_sm1, p_sm2, p_sm3, p_sm4, true_and, and_true, if_true, if_false, ↓reduceIte, Nat.reduceEqDiff, reduceCtorEq, or_true, true_or, and_self, Int32.reduceLT, Int32.reduceAdd, Int32.reduceSub, Int32.reduceToNatClampNeg, not_false_eq_true, not_true_eq_false, e3, v3, c3, h10, h15, nI_1]
      exact ih (i + 1) (by omega)
  have := l23 32 0 (by omega)
  simp (decide := true) only [e23_0, e23_1, e23_2, e23_3, e23_5, e23_7, e23_10, e23_11, e23_12, e23_15, e23_16, e23_17, e23_18, e23_19, e23_22, e23_25, e23_26, e23_28, e23_30, e23_33, e23_34, e23_35, e23_36, e23_37, e23_40, e23_41, e23_42, e23_45, e23_48, e23_49, m23, ok_4_7_4, fv9_7, Kt_some, Kt_none, V_ite, g_if, g_ss, g_1, g_2, g_cn, g_iok, g_sok, g_bok, g_jok, g_qok, g_ivl, g_jvl, g_qvl, g_ist, g_bst, g_jst, g_qst, g_aln, g_isa, g_dl1, g_dl2, g_dl3, g_dl4, g_dl5, g_dd, g_rfs, g_rfn, p_sm0, p_sm1, p_sm2, p_sm3, p_sm4, true_and, and_true, if_true, if_false, ↓reduceIte, Nat.reduceEqDiff, reduceCtorEq, or_true, true_or, and_self, Int32.reduceLT, Int32.reduceAdd, Int32.reduceSub, Int32.reduceToNatClampNeg, not_false_eq_true, not_true_eq_false]
  exact this
variable {σ : pS} {ad : Nat → Nat}
/-- what each boat pours at once -/
def cr (σ : pS) (i : Nat) : Int32 := if i < nt σ then (if p_is (kc (σ 5 i)) 2 = true then ca σ i else 0) else 0
theorem cr_s (σ : pS) (f : Nat → Int32) {i : Nat} {x : Int32} (hx : cr σ i = x) : upd (jn (cr σ) f i) i x = jn (cr σ) f (i + 1) := by rw [← hx, jn_s]
theorem l102 {mk : Int32} {f : Nat → Int32} {H2 : pH} (hI : IV σ) (hA : CA σ h) (hB : CB σ ad (nt σ) h) (hM : CM σ h) (hR : ∀ R : Option Value → pH → Prop, Vm 17 [.ref 10, .ref 4, .int mk] (p_set h 12 (aI 5 (jn (cr σ) f 5))) R = R none H2) : ∀ (d i : Nat) (l3 : Option Value), i + d = 5 → V 102 2 [some (.ref 1), some (.int mk), some (.int (nI i)), l3] [] (p_set h 12 (aI 5 (jn (cr σ) f i))) K = K none H2 := by
  have hbt : σ 0 2 = nI (nt σ) ∧ nt σ ≤ 5 := by
    obtain ⟨n, ps, bt, sr, hI⟩ := hI
    obtain ⟨-, -, e5⟩ := IN_n hI
    obtain ⟨⟨-, -, -, -, -, e4, e6, -⟩, -⟩ := hI
    rw [e5]
    exact ⟨e4, e6⟩
  obtain ⟨e02, e05⟩ := hbt
  obtain ⟨a1, a2, a3, a4, a5, a6, a7⟩ := id hA
  obtain ⟨⟨cs, m1⟩, m2⟩ := id hM
  intro d
  induction d with
  | zero =>
    intro i l3 hi
    have e2 : i = 5 := by omega
    subst e2
    rw [e102_2]
    simp (decide := true) only [e102_0, e102_1, e102_3, e102_4, e102_7, e102_8, e102_9, e102_12, e102_12n, e102_13, e102_14, e102_17, e102_20, e102_21, e102_21n, e102_22n, e102_22, e102_25, e102_28, e102_28n, e102_29, e102_32, e102_35, e102_36, e102_37, e102_40, e102_43, e102_44, e102_47, e102_48, e102_51, e102_52, e102_55, m102, ok_11_5_11, fv13_5, ok_4_2_4, fv9_2, ok_11_1_11, fv13_1, Kt_some, Kt_none, V_ite, g_if, g_ss, g_1, g_2, g_cn, g_iok, g_sok, g_bok, g_jok, g_qok, g_ivl, g_jvl, g_qvl, g_ist, g_bst, g_jst, g_qst, g_aln, g_isa, g_dl1, g_dl2, g_dl3, g_dl4, g_dl5, g_dd, g_rfs, g_rfn, p_sm0, p_sm1, p_sm2, p_sm3, p_sm4, true_and, and_true, if_true, if_false, ↓reduceIte, Nat.reduceEqDiff, reduceCtorEq, or_true, true_or, and_self, Int32.reduceLT, Int32.reduceAdd, Int32.reduceSub, Int32.reduceToNatClampNeg, not_false_eq_true, not_true_eq_false, show (nI 5 < 5) = False from eq_false (by decide), a1, m1, a4, hR]
  | succ d ih =>
    intro i l3 hi
    have e1 : (nI i < 5) = True := nI_T (a := i) (b := 5) (by omega) (by omega)
    have v3 := vp_T (show i < 5 by omega) (by omega)
    have c3 := nI_c (a := i) (by omega)
    have r1 := nI_0F (a := i) (by omega)
    have hA2 : CA σ (p_set h 12 (aI 5 (jn (cr σ) f i))) := ⟨by simp (decide := true) only [Kt_some, Kt_none, V_ite, g_if, g_ss, g_1, g_2, g_cn, g_iok, g_sok, g_bok, g_jok, g_qok, g_ivl, g_jvl, g_qvl, g_ist, g_bst, g_jst, g_qst, g_aln, g_isa, g_dl1, g_dl2, g_dl3, g_dl4, g_dl5, g_dd, g_rfs, g_rfn, p_sm0, p_sm1, p_sm2, p_sm3, p_sm4, true_and, and_true, if_true, if_false, ↓reduceIte, Nat.reduceEqDiff, reduceCtorEq, or_true, true_or, and_self, Int32.reduceLT, Int32.reduceAdd, Int32.reduceSub, Int32.reduceToNatClampNeg, not_false_eq_true, not_true_eq_false, a1], by simp (decide := true) only [Kt_some, Kt_none, V_ite, g_if, g_ss, g_1, g_2, g_cn, g_iok, g_sok, g_bok, g_jok, g_qok, g_ivl, g_jvl, g_qvl, g_ist, g_bst, g_jst, g_qst, g_aln, g_isa, g_dl1, g_dl2, g_dl3, g_dl4, g_dl5, g_dd, g_rfs, g_rfn, p_sm0, p_sm1, p_sm2, p_sm3, p_sm4, true_and, and_true, if_true, if_false, ↓reduceIte, Nat.reduceEqDiff, reduceCtorEq, or_true, true_or, and_self, Int32.reduceLT, Int32.reduceAdd, Int32.reduceSub, Int32.reduceToNatClampNeg, not_false_eq_true, not_true_eq_false, a2], by simp (decide := true) only [Kt_some, Kt_none, V_ite, g_if, g_ss, g_1, g_2, g_cn, g_iok, g_sok, g_bok, g_jok, g_qok, g_ivl, g_jvl, g_qvl, g_ist, g_bst, g_jst, g_qst, g_aln, g_isa, g_dl1, g_dl2, g_dl3, g_dl4, g_dl5, g_dd, g_rfs, g_rfn, p_sm0, p_sm1, p_sm2, p_sm3, p_sm4, true_and, and_true, if_true, if_false, ↓reduceIte, Nat.reduceEqDiff, reduceCtorEq, or_true, true_or, and_self, Int32.reduceLT, Int32.reduceAdd, Int32.reduceSub, Int32.reduceToNatClampNeg, not_false_eq_true, not_true_eq_false, a3], by simp (decide := true) only [Kt_some, Kt_none, V_ite, g_if, g_ss, g_1, g_2, g_cn, g_iok, g_sok, g_bok, g_jok, g_qok, g_ivl, g_jvl, g_qvl, g_ist, g_bst, g_jst, g_qst, g_aln, g_isa, g_dl1, g_dl2, g_dl3, g_dl4, g_dl5, g_dd, g_rfs, g_rfn, p_sm0, p_sm1, p_sm2, p_sm3, p_sm4, true_and, and_true, if_true, if_false, ↓reduceIte, Nat.reduceEqDiff, reduceCtorEq, or_true, true_or, and_self, Int32.reduceLT, Int32.reduceAdd, Int32.reduceSub, Int32.reduceToNatClampNeg, not_false_eq_true, not_true_eq_false, a4], by simp (decide := true) only [Kt_some, Kt_none, V_ite, g_if, g_ss, g_1, g_2, g_cn, g_iok, g_sok, g_bok, g_jok, g_qok, g_ivl, g_jvl, g_qvl, g_ist, g_bst, g_jst, g_qst, g_aln, g_isa, g_dl1, g_dl2, g_dl3, g_dl4, g_dl5, g_dd, g_rfs, g_rfn, p_sm0, p_sm1, p_sm2, p_sm3, p_sm4, true_and, and_true, if_true, if_false, ↓reduceIte, Nat.reduceEqDiff, reduceCtorEq, or_true, true_or, and_self, Int32.reduceLT, Int32.reduceAdd, Int32.reduceSub, Int32.reduceToNatClampNeg, not_false_eq_true, not_true_eq_false, a5], by simp (decide := true) only [Kt_some, Kt_none, V_ite, g_if, g_ss, g_1, g_2, g_cn, g_iok, g_sok, g_bok, g_jok, g_qok, g_ivl, g_jvl, g_qvl, g_ist, g_bst, g_jst, g_qst, g_aln, g_isa, g_dl1, g_dl2, g_dl3, g_dl4, g_dl5, g_dd, g_rfs, g_rfn, p_sm0, p_sm1, p_sm2, p_sm3, p_sm4, true_and, and_true, if_true, if_false, ↓reduceIte, Nat.reduceEqDiff, reduceCtorEq, or_true, true_or, and_self, Int32.reduceLT, Int32.reduceAdd, Int32.reduceSub, Int32.reduceToNatClampNeg, not_false_eq_true, not_true_eq_false, a6], by simp (decide := true) only [Kt_some, Kt_none, V_ite, g_if, g_ss, g_1, g_2, g_cn, g_iok, g_sok, g_bok, g_jok, g_qok, g_ivl, g_jvl, g_qvl, g_ist, g_bst, g_jst, g_qst, g_aln, g_isa, g_dl1, g_dl2, g_dl3, g_dl4, g_dl5, g_dd, g_rfs, g_rfn, p_sm0, p_sm1, p_sm2, p_sm3, p_sm4, true_and, and_true, if_true, if_false, ↓reduceIte, Nat.reduceEqDiff, reduceCtorEq, or_true, true_or, and_self, Int32.reduceLT, Int32.reduceAdd, Int32.reduceSub, Int32.reduceToNatClampNeg, not_false_eq_true, not_true_eq_false, a7]⟩
    have hB2 : CB σ ad (nt σ) (p_set h 12 (aI 5 (jn (cr σ) f i))) := CB_st hB (by decide) (by decide)
    rw [e102_2]
    by_cases hib : i < nt σ
    · have r2 : (nI i < σ 0 2) = True := by rw [e02]; exact nI_T hib (by omega)
      obtain ⟨b57, bh, hbj⟩ := hB2.2.1 i hib
      obtain ⟨-, bh0, hbj0⟩ := hB.2.1 i hib
      have hc6 : p_bt (kc (σ 5 i)) = true := by
        obtain ⟨n, ps, bt, sr, hI⟩ := hI
        obtain ⟨-, -, e5⟩ := IN_n hI
        obtain ⟨-, -, -, hE, -⟩ := hI
        exact (kc_bt (hE i (by omega)).1).1
      have n12 : (ad i = 12) = False := eq_false (by omega)
      by_cases hp : p_is (kc (σ 5 i)) 2 = true
      · have hx : cr σ i = bc (kc (σ 5 i)) (σ 7 i) := by
          unfold cr
          rw [if_pos hib, if_pos hp]
          rfl
        simp (decide := true) only [e102_0, e102_1, e102_3, e102_4, e102_7, e102_8, e102_9, e102_12, e102_12n, e102_13, e102_14, e102_17, e102_20, e102_21, e102_21n, e102_22n, e102_22, e102_25, e102_28, e102_28n, e102_29, e102_32, e102_35, e102_36, e102_37, e102_40, e102_43, e102_44, e102_47, e102_48, e102_51, e102_52, e102_55, m102, ok_11_5_11, fv13_5, ok_4_2_4, fv9_2, ok_11_1_11, fv13_1, Kt_some, Kt_none, V_ite, g_if, g_ss, g_1, g_2, g_cn, g_iok, g_sok, g_bok, g_jok, g_qok, g_ivl, g_jvl, g_qvl, g_ist, g_bst, g_jst, g_qst, g_aln, g_isa, g_dl1, g_dl2, g_dl3, g_dl4, g_dl5, g_dd, g_rfs, g_rfn, p_sm0, p_sm1, p_sm2, p_sm3, p_sm4, true_and, and_true, if_true, if_false, ↓reduceIte, Nat.reduceEqDiff, reduceCtorEq, or_true, true_or, and_self, Int32.reduceLT, Int32.reduceAdd, Int32.reduceSub, Int32.reduceToNatClampNeg, not_false_eq_true, not_true_eq_false, e1, a1, m1, c100 hI hA2 hB2, r1, r2, v3, c3, n12, hbj0, hc6, i_ite, hp, c_carries hbj hc6, cr_s σ f hx, nI_1]
        exact ih (i + 1) _ (by omega)
      · have hx : cr σ i = 0 := by
          unfold cr
          rw [if_pos hib, if_neg hp]
        simp (decide := true) only [e102_0, e102_1, e102_3, e102_4, e102_7, e102_8, e102_9, e102_12, e102_12n, e102_13, e102_14, e102_17, e102_20, e102_21, e102_21n, e102_22n, e102_22, e102_25, e102_28, e102_28n, e102_29, e102_32, e102_35, e102_36, e102_37, e102_40, e102_43, e102_44, e102_47, e102_48, e102_51, e102_52, e102_55, m102, ok_11_5_11, fv13_5, ok_4_2_4, fv9_2, ok_11_1_11, fv13_1, Kt_some, Kt_none, V_ite, g_if, g_ss, g_1, g_2, g_cn, g_iok, g_sok, g_bok, g_jok, g_qok, g_ivl, g_jvl, g_qvl, g_ist, g_bst, g_jst, g_qst, g_aln, g_isa, g_dl1, g_dl2, g_dl3, g_dl4, g_dl5, g_dd, g_rfs, g_rfn, p_sm0, p_sm1, p_sm2, p_sm3, p_sm4, true_and, and_true, if_true, if_false, ↓reduceIte, Nat.reduceEqDiff, reduceCtorEq, or_true, true_or, and_self, Int32.reduceLT, Int32.reduceAdd, Int32.reduceSub, Int32.reduceToNatClampNeg, not_false_eq_true, not_true_eq_false, e1, a1, m1, c100 hI hA2 hB2, r1, r2, v3, c3, n12, hbj0, hc6, i_ite, hp, cr_s σ f hx, nI_1]
        exact ih (i + 1) _ (by omega)
    · have r2 : (nI i < σ 0 2) = False := by rw [e02]; exact nI_F (by omega) (by omega)
      have hx : cr σ i = 0 := by
        unfold cr
        rw [if_neg hib]
      simp (decide := true) only [e102_0, e102_1, e102_3, e102_4, e102_7, e102_8, e102_9, e102_12, e102_12n, e102_13, e102_14, e102_17, e102_20, e102_21, e102_21n, e102_22n, e102_22, e102_25, e102_28, e102_28n, e102_29, e102_32, e102_35, e102_36, e102_37, e102_40, e102_43, e102_44, e102_47, e102_48, e102_51, e102_52, e102_55, m102, ok_11_5_11, fv13_5, ok_4_2_4, fv9_2, ok_11_1_11, fv13_1, Kt_some, Kt_none, V_ite, g_if, g_ss, g_1, g_2, g_cn, g_iok, g_sok, g_bok, g_jok, g_qok, g_ivl, g_jvl, g_qvl, g_ist, g_bst, g_jst, g_qst, g_aln, g_isa, g_dl1, g_dl2, g_dl3, g_dl4, g_dl5, g_dd, g_rfs, g_rfn, p_sm0, p_sm1, p_sm2, p_sm3, p_sm4, true_and, and_true, if_true, if_false, ↓reduceIte, Nat.reduceEqDiff, reduceCtorEq, or_true, true_or, and_self, Int32.reduceLT, Int32.reduceAdd, Int32.reduceSub, Int32.reduceToNatClampNeg, not_false_eq_true, not_true_eq_false, e1, a1, m1, c100 hI hA2 hB2, r1, r2, v3, c3, cr_s σ f hx, nI_1]
      exact ih (i + 1) _ (by omega)
theorem c102 {mk : Int32} {f : Nat → Int32} {H2 : pH} (hI : IV σ) (hA : CA σ h) (hB : CB σ ad (nt σ) h) (hM : CM σ h) (h12 : p_get h 12 = some (aI 5 f)) (hR : ∀ R : Option Value → pH → Prop, Vm 17 [.ref 10, .ref 4, .int mk] (p_set h 12 (aI 5 (jn (cr σ) f 5))) R = R none H2) : Vm 102 [.ref 1, .int mk] h K = K none H2 := by
  have := l102 (K := K) hI hA hB hM hR 5 0 none (by omega)
  rw [jn_0, g_same h12] at this
  simp (decide := true) only [e102_0, e102_1, e102_3, e102_4, e102_7, e102_8, e102_9, e102_12, e102_12n, e102_13, e102_14, e102_17, e102_20, e102_21, e102_21n, e102_22n, e102_22, e102_25, e102_28, e102_28n, e102_29, e102_32, e102_35, e102_36, e102_37, e102_40, e102_43, e102_44, e102_47, e102_48, e102_51, e102_52, e102_55, m102, ok_11_5_11, fv13_5, ok_4_2_4, fv9_2, ok_11_1_11, fv13_1, Kt_some, Kt_none, V_ite, g_if, g_ss, g_1, g_2, g_cn, g_iok, g_sok, g_bok, g_jok, g_qok, g_ivl, g_jvl, g_qvl, g_ist, g_bst, g_jst, g_qst, g_aln, g_isa, g_dl1, g_dl2, g_dl3, g_dl4, g_dl5, g_dd, g_rfs, g_rfn, p_sm0, p_sm1, p_sm2, p_sm3, p_sm4, true_and, and_true, if_true, if_false, ↓reduceIte, Nat.reduceEqDiff, reduceCtorEq, or_true, true_or, and_self, Int32.reduceLT, Int32.reduceAdd, Int32.reduceSub, Int32.reduceToNatClampNeg, not_false_eq_true, not_true_eq_false]
  exact this
/-! the same ways whatever lay in the rows -/
theorem pt_P (P P2 : Nat → Bool) (mk db : Int32) (w m : Nat → Int32) (x : Nat) (hP : ∀ j, j ≤ x → P j = P2 j) : ∀ (n p : Nat) (s d : Int32), p ≤ x → pt P mk db w m x n p s d = pt P2 mk db w m x n p s d
  | 0, _, _, _, _ => rfl
  | n + 1, p, s, d, hp => by
    unfold pt
    have h2 : (p - 1) &&& x ≤ x := Nat.and_le_right
    rw [hP p hp, pt_P P P2 mk db w m x hP n _ _ _ h2, pt_P P P2 mk db w m x hP n _ _ _ h2]
theorem pc_cc (P P2 : Nat → Bool) (mk db : Int32) (w m w2 m2 : Nat → Int32) (x : Nat) (hP : ∀ j, j ≤ x → P j = P2 j) (hw : ∀ j, j ≤ x → w j = w2 j) (hm : ∀ j, j ≤ x → m j = m2 j) : pc P mk db w m x = pc P2 mk db w2 m2 x := by
  rw [pc_c P mk db w m w2 m2 x hw hm]
  unfold pc
  rw [hP 0 (by omega)]
  exact pt_P P P2 mk db w2 m2 x hP x x _ _ (Nat.le_refl x)
theorem fw_c (H L fr : Int32) (ln t t2 : Nat → Int32) (mk : Int32) (kk : Nat) (w m w2 m2 : Nat → Int32) (ht : ∀ x, x < 32 → t x = t2 x) (hw : ∀ x, x < 32 → w x = w2 x) (hm : ∀ x, x < 32 → m x = m2 x) : ∀ i x, x < 32 → (fw H L fr ln t mk kk w m i).1 x = (fw H L fr ln t2 mk kk w2 m2 i).1 x ∧ (fw H L fr ln t mk kk w m i).2 x = (fw H L fr ln t2 mk kk w2 m2 i).2 x
  | 0, x, hx => ⟨hw x hx, hm x hx⟩
  | i + 1, x, hx => by
    have ih := fw_c H L fr ln t t2 mk kk w m w2 m2 ht hw hm i
    have e : pc (ftp H L (hd fr ln i) (ln i) t) mk (nI (2 ^ (i + 1))) (fw H L fr ln t mk kk w m i).1 (fw H L fr ln t mk kk w m i).2 x = pc (ftp H L (hd fr ln i) (ln i) t2) mk (nI (2 ^ (i + 1))) (fw H L fr ln t2 mk kk w2 m2 i).1 (fw H L fr ln t2 mk kk w2 m2 i).2 x := by
      refine pc_cc _ _ _ _ _ _ _ _ _ (fun j hj => ?_) (fun j hj => (ih j (by omega)).1) (fun j hj => (ih j (by omega)).2)
      unfold ftp
      rw [ht j (by omega)]
    constructor
    · show dq _ _ _ _ _ _ 0 x = dq _ _ _ _ _ _ 0 x
      unfold dq
      rw [e, (ih x hx).1]
    · show dr _ _ _ _ _ _ 0 x = dr _ _ _ _ _ _ 0 x
      unfold dr
      rw [e, (ih x hx).2]
theorem su_c (w w2 : Nat → Int32) : ∀ k, (∀ x, x < k → w x = w2 x) → su w k = su w2 k
  | 0, _ => rfl
  | k + 1, h => by
    unfold su
    rw [su_c w w2 k (fun x hx => h x (by omega)), h k (by omega)]
theorem ou_c (w w2 : Nat → Int32) : ∀ k, (∀ x, x < k → w x = w2 x) → ou w k = ou w2 k
  | 0, _ => rfl
  | k + 1, h => by
    unfold ou
    rw [ou_c w w2 k (fun x hx => h x (by omega)), h k (by omega)]
theorem tf_c (c c2 f f2 : Nat → Int32) (hf : f 0 = f2 0) : ∀ i, (∀ j, j < i → c j = c2 j) → ∀ x, x < 2 ^ i → tf c f i x = tf c2 f2 i x
  | 0, _, x, hx => by
    have : x = 0 := by
      rw [Nat.pow_zero] at hx
      omega
    subst this
    exact hf
  | i + 1, hc, x, hx => by
    have ih := tf_c c c2 f f2 hf i (fun j hj => hc j (by omega))
    have e : 2 ^ (i + 1) = 2 ^ i + 2 ^ i := by rw [Nat.pow_succ]; omega
    unfold tf
    by_cases hq : 2 ^ i ≤ x
    · rw [if_pos ⟨hq, hx⟩, if_pos ⟨hq, hx⟩, ih _ (by omega), hc i (by omega)]
    · rw [if_neg (by omega), if_neg (by omega), ih _ (by omega)]
theorem km_c (c c2 : Nat → Int32) : ∀ i, (∀ j, j < i → c j = c2 j) → km c i = km c2 i
  | 0, _ => rfl
  | i + 1, h => by
    unfold km
    rw [h i (by omega), km_c c c2 i (fun j hj => h j (by omega))]
theorem tf_0 (c f : Nat → Int32) : ∀ i, tf c f i 0 = f 0
  | 0 => rfl
  | i + 1 => by
    have : 0 < 2 ^ i := Nat.pow_pos (by decide)
    unfold tf
    rw [if_neg (by omega)]
    exact tf_0 c f i
/-- ways and days of the mud that there is -/
def mw (σ : pS) (mk : Int32) : (Nat → Int32) × (Nat → Int32) := fw (σ 1 (σ 0 6).toNatClampNeg) (σ 2 (σ 0 6).toNatClampNeg) (σ 0 7) (σ 10) (tf (cr σ) (fun _ => 0) 5) mk (km (cr σ) 5) (upd (fun _ => 0) 0 1) (upd (fun _ => 0) 0 1) (σ 0 8).toNatClampNeg
theorem x_mark {mk : Int32} (hC : CR σ h) (hI : IV σ) (hb : 0 < σ 0 6) (hK : ∀ (h2 : pH) (cs : Int32) (w m : Nat → Int32), CR σ h2 → MF h h2 → p_get h2 10 = some (oU (σ 0 8) (σ 0 6) (σ 0 7) cs) → p_get h2 14 = some (aI 32 w) → p_get h2 15 = some (aI 32 m) → p_get h2 1 = p_get h 1 → su w 32 = su (mw σ mk).1 32 → ou m 32 = ou (mw σ mk).2 32 → K none h2) : Vm 102 [.ref 1, .int mk] h K := by
  obtain ⟨ad, hA, hB, hM, hKp, hJ, hS⟩ := id hC
  obtain ⟨a1, a2, a3, a4, a5, a6, a7⟩ := id hA
  obtain ⟨⟨cs, m1⟩, m2⟩ := id hM
  obtain ⟨j1, ⟨f12, j2⟩, ⟨f13, j3, z13⟩, ⟨f14, j4⟩, ⟨f15, j5⟩, j6, j7, j8, j9, j10⟩ := id hJ
  obtain ⟨n, ps, bt, sr, hI2⟩ := id hI
  obtain ⟨⟨g1, g2, g3, -⟩, -, -, -, -, -, ⟨b, l, e6, b4, b5, e8, l7, -⟩, -⟩ := hI2
  have hb0 : b ≠ 0 := by
    rintro rfl
    rw [e6] at hb
    exact absurd hb (by decide)
  have hbn : b < n := by
    rcases b5 with q | q
    · exact absurd q hb0
    · exact q
  have a4' := a4
  rw [g1] at a4'
  have m1' := m1
  rw [e6, e8] at m1'
  have hR := fun R => c17 (K := R) (h := p_set h 12 (aI 5 (jn (cr σ) f12 5))) (n := n) (b := b) (l := l) (mk := mk) (fh := σ 1) (fl := σ 2) (ln := σ 10) (c := jn (cr σ) f12 5) (f13 := f13) (f14 := f14) (f15 := f15) (fr := σ 0 7) (cs := cs) (by simp (decide := true) only [Kt_some, Kt_none, V_ite, g_if, g_ss, g_1, g_2, g_cn, g_iok, g_sok, g_bok, g_jok, g_qok, g_ivl, g_jvl, g_qvl, g_ist, g_bst, g_jst, g_qst, g_aln, g_isa, g_dl1, g_dl2, g_dl3, g_dl4, g_dl5, g_dd, g_rfs, g_rfn, p_sm0, p_sm1, p_sm2, p_sm3, p_sm4, true_and, and_true, if_true, if_false, ↓reduceIte, Nat.reduceEqDiff, reduceCtorEq, or_true, true_or, and_self, Int32.reduceLT, Int32.reduceAdd, Int32.reduceSub, Int32.reduceToNatClampNeg, not_false_eq_true, not_true_eq_false, a4']) (by simp (decide := true) only [Kt_some, Kt_none, V_ite, g_if, g_ss, g_1, g_2, g_cn, g_iok, g_sok, g_bok, g_jok, g_qok, g_ivl, g_jvl, g_qvl, g_ist, g_bst, g_jst, g_qst, g_aln, g_isa, g_dl1, g_dl2, g_dl3, g_dl4, g_dl5, g_dd, g_rfs, g_rfn, p_sm0, p_sm1, p_sm2, p_sm3, p_sm4, true_and, and_true, if_true, if_false, ↓reduceIte, Nat.reduceEqDiff, reduceCtorEq, or_true, true_or, and_self, Int32.reduceLT, Int32.reduceAdd, Int32.reduceSub, Int32.reduceToNatClampNeg, not_false_eq_true, not_true_eq_false, a5]) (by simp (decide := true) only [Kt_some, Kt_none, V_ite, g_if, g_ss, g_1, g_2, g_cn, g_iok, g_sok, g_bok, g_jok, g_qok, g_ivl, g_jvl, g_qvl, g_ist, g_bst, g_jst, g_qst, g_aln, g_isa, g_dl1, g_dl2, g_dl3, g_dl4, g_dl5, g_dd, g_rfs, g_rfn, p_sm0, p_sm1, p_sm2, p_sm3, p_sm4, true_and, and_true, if_true, if_false, ↓reduceIte, Nat.reduceEqDiff, reduceCtorEq, or_true, true_or, and_self, Int32.reduceLT, Int32.reduceAdd, Int32.reduceSub, Int32.reduceToNatClampNeg, not_false_eq_true, not_true_eq_false, a6]) (by simp (decide := true) only [Kt_some, Kt_none, V_ite, g_if, g_ss, g_1, g_2, g_cn, g_iok, g_sok, g_bok, g_jok, g_qok, g_ivl, g_jvl, g_qvl, g_ist, g_bst, g_jst, g_qst, g_aln, g_isa, g_dl1, g_dl2, g_dl3, g_dl4, g_dl5, g_dd, g_rfs, g_rfn, p_sm0, p_sm1, p_sm2, p_sm3, p_sm4, true_and, and_true, if_true, if_false, ↓reduceIte, Nat.reduceEqDiff, reduceCtorEq, or_true, true_or, and_self, Int32.reduceLT, Int32.reduceAdd, Int32.reduceSub, Int32.reduceToNatClampNeg, not_false_eq_true, not_true_eq_false, m1']) (by simp (decide := true) only [Kt_some, Kt_none, V_ite, g_if, g_ss, g_1, g_2, g_cn, g_iok, g_sok, g_bok, g_jok, g_qok, g_ivl, g_jvl, g_qvl, g_ist, g_bst, g_jst, g_qst, g_aln, g_isa, g_dl1, g_dl2, g_dl3, g_dl4, g_dl5, g_dd, g_rfs, g_rfn, p_sm0, p_sm1, p_sm2, p_sm3, p_sm4, true_and, and_true, if_true, if_false, ↓reduceIte, Nat.reduceEqDiff, reduceCtorEq, or_true, true_or, and_self, Int32.reduceLT, Int32.reduceAdd, Int32.reduceSub, Int32.reduceToNatClampNeg, not_false_eq_true, not_true_eq_false, m2]) (by simp (decide := true) only [Kt_some, Kt_none, V_ite, g_if, g_ss, g_1, g_2, g_cn, g_iok, g_sok, g_bok, g_jok, g_qok, g_ivl, g_jvl, g_qvl, g_ist, g_bst, g_jst, g_qst, g_aln, g_isa, g_dl1, g_dl2, g_dl3, g_dl4, g_dl5, g_dd, g_rfs, g_rfn, p_sm0, p_sm1, p_sm2, p_sm3, p_sm4, true_and, and_true, if_true, if_false, ↓reduceIte, Nat.reduceEqDiff, reduceCtorEq, or_true, true_or, and_self, Int32.reduceLT, Int32.reduceAdd, Int32.reduceSub, Int32.reduceToNatClampNeg, not_false_eq_true, not_true_eq_false]) (by simp (decide := true) only [Kt_some, Kt_none, V_ite, g_if, g_ss, g_1, g_2, g_cn, g_iok, g_sok, g_bok, g_jok, g_qok, g_ivl, g_jvl, g_qvl, g_ist, g_bst, g_jst, g_qst, g_aln, g_isa, g_dl1, g_dl2, g_dl3, g_dl4, g_dl5, g_dd, g_rfs, g_rfn, p_sm0, p_sm1, p_sm2, p_sm3, p_sm4, true_and, and_true, if_true, if_false, ↓reduceIte, Nat.reduceEqDiff, reduceCtorEq, or_true, true_or, and_self, Int32.reduceLT, Int32.reduceAdd, Int32.reduceSub, Int32.reduceToNatClampNeg, not_false_eq_true, not_true_eq_false, j3]) (by simp (decide := true) only [Kt_some, Kt_none, V_ite, g_if, g_ss, g_1, g_2, g_cn, g_iok, g_sok, g_bok, g_jok, g_qok, g_ivl, g_jvl, g_qvl, g_ist, g_bst, g_jst, g_qst, g_aln, g_isa, g_dl1, g_dl2, g_dl3, g_dl4, g_dl5, g_dd, g_rfs, g_rfn, p_sm0, p_sm1, p_sm2, p_sm3, p_sm4, true_and, and_true, if_true, if_false, ↓reduceIte, Nat.reduceEqDiff, reduceCtorEq, or_true, true_or, and_self, Int32.reduceLT, Int32.reduceAdd, Int32.reduceSub, Int32.reduceToNatClampNeg, not_false_eq_true, not_true_eq_false, j4]) (by simp (decide := true) only [Kt_some, Kt_none, V_ite, g_if, g_ss, g_1, g_2, g_cn, g_iok, g_sok, g_bok, g_jok, g_qok, g_ivl, g_jvl, g_qvl, g_ist, g_bst, g_jst, g_qst, g_aln, g_isa, g_dl1, g_dl2, g_dl3, g_dl4, g_dl5, g_dd, g_rfs, g_rfn, p_sm0, p_sm1, p_sm2, p_sm3, p_sm4, true_and, and_true, if_true, if_false, ↓reduceIte, Nat.reduceEqDiff, reduceCtorEq, or_true, true_or, and_self, Int32.reduceLT, Int32.reduceAdd, Int32.reduceSub, Int32.reduceToNatClampNeg, not_false_eq_true, not_true_eq_false, j5]) g3 hbn l7
  rw [c102 hI hA hB hM j2 hR]
  have hc5 : ∀ j, j < 5 → jn (cr σ) f12 5 j = cr σ j := fun j hj => by unfold jn; rw [if_pos hj]
  have hkm := km_c _ _ 5 hc5
  have htf := tf_c (jn (cr σ) f12 5) (cr σ) f13 (fun _ => 0) z13 5 hc5
  have hfw := fw_c (σ 1 b) (σ 2 b) (σ 0 7) (σ 10) (tf (jn (cr σ) f12 5) f13 5) (tf (cr σ) (fun _ => 0) 5) mk (km (cr σ) 5) (upd (fi f14 0 32) 0 1) (upd (fi f15 0 32) 0 1) (upd (fun _ => 0) 0 1) (upd (fun _ => 0) 0 1) (fun x hx => htf x hx) (fun x hx => by
    by_cases h0 : x = 0
    · subst h0; rw [pk_us, pk_us]
    · rw [pk_un h0, pk_un h0]; unfold fi; rw [if_pos hx]) (fun x hx => by
    by_cases h0 : x = 0
    · subst h0; rw [pk_us, pk_us]
    · rw [pk_un h0, pk_un h0]; unfold fi; rw [if_pos hx]) l
  rw [hkm]
  have hmw : mw σ mk = fw (σ 1 b) (σ 2 b) (σ 0 7) (σ 10) (tf (cr σ) (fun _ => 0) 5) mk (km (cr σ) 5) (upd (fun _ => 0) 0 1) (upd (fun _ => 0) 0 1) l := by
    unfold mw
    rw [e6, e8, nI_c (a := b) (by omega), nI_c (a := l) (by omega)]
  rw [← hmw] at hfw
  generalize fw (σ 1 b) (σ 2 b) (σ 0 7) (σ 10) (tf (jn (cr σ) f12 5) f13 5) mk (km (cr σ) 5) (upd (fi f14 0 32) 0 1) (upd (fi f15 0 32) 0 1) l = W at hfw
  refine hK _ (nI (km (cr σ) 5)) W.1 W.2 ⟨ad, ⟨?_, ?_, ?_, ?_, ?_, ?_, ?_⟩, ?_, ⟨⟨nI (km (cr σ) 5), ?_⟩, ?_⟩, ?_, ?_, ?_⟩ ?_ ?_ ?_ ?_ ?_ (su_c _ _ 32 (fun x hx => (hfw x hx).1)) (ou_c _ _ 32 (fun x hx => (hfw x hx).2))
  · simp (decide := true) only [Kt_some, Kt_none, V_ite, g_if, g_ss, g_1, g_2, g_cn, g_iok, g_sok, g_bok, g_jok, g_qok, g_ivl, g_jvl, g_qvl, g_ist, g_bst, g_jst, g_qst, g_aln, g_isa, g_dl1, g_dl2, g_dl3, g_dl4, g_dl5, g_dd, g_rfs, g_rfn, p_sm0, p_sm1, p_sm2, p_sm3, p_sm4, true_and, and_true, if_true, if_false, ↓reduceIte, Nat.reduceEqDiff, reduceCtorEq, or_true, true_or, and_self, Int32.reduceLT, Int32.reduceAdd, Int32.reduceSub, Int32.reduceToNatClampNeg, not_false_eq_true, not_true_eq_false, a1]
  · simp (decide := true) only [Kt_some, Kt_none, V_ite, g_if, g_ss, g_1, g_2, g_cn, g_iok, g_sok, g_bok, g_jok, g_qok, g_ivl, g_jvl, g_qvl, g_ist, g_bst, g_jst, g_qst, g_aln, g_isa, g_dl1, g_dl2, g_dl3, g_dl4, g_dl5, g_dd, g_rfs, g_rfn, p_sm0, p_sm1, p_sm2, p_sm3, p_sm4, true_and, and_true, if_true, if_false, ↓reduceIte, Nat.reduceEqDiff, reduceCtorEq, or_true, true_or, and_self, Int32.reduceLT, Int32.reduceAdd, Int32.reduceSub, Int32.reduceToNatClampNeg, not_false_eq_true, not_true_eq_false, a2]
  · simp (decide := true) only [Kt_some, Kt_none, V_ite, g_if, g_ss, g_1, g_2, g_cn, g_iok, g_sok, g_bok, g_jok, g_qok, g_ivl, g_jvl, g_qvl, g_ist, g_bst, g_jst, g_qst, g_aln, g_isa, g_dl1, g_dl2, g_dl3, g_dl4, g_dl5, g_dd, g_rfs, g_rfn, p_sm0, p_sm1, p_sm2, p_sm3, p_sm4, true_and, and_true, if_true, if_false, ↓reduceIte, Nat.reduceEqDiff, reduceCtorEq, or_true, true_or, and_self, Int32.reduceLT, Int32.reduceAdd, Int32.reduceSub, Int32.reduceToNatClampNeg, not_false_eq_true, not_true_eq_false, a3]
  · simp (decide := true) only [Kt_some, Kt_none, V_ite, g_if, g_ss, g_1, g_2, g_cn, g_iok, g_sok, g_bok, g_jok, g_qok, g_ivl, g_jvl, g_qvl, g_ist, g_bst, g_jst, g_qst, g_aln, g_isa, g_dl1, g_dl2, g_dl3, g_dl4, g_dl5, g_dd, g_rfs, g_rfn, p_sm0, p_sm1, p_sm2, p_sm3, p_sm4, true_and, and_true, if_true, if_false, ↓reduceIte, Nat.reduceEqDiff, reduceCtorEq, or_true, true_or, and_self, Int32.reduceLT, Int32.reduceAdd, Int32.reduceSub, Int32.reduceToNatClampNeg, not_false_eq_true, not_true_eq_false, a4]
  · simp (decide := true) only [Kt_some, Kt_none, V_ite, g_if, g_ss, g_1, g_2, g_cn, g_iok, g_sok, g_bok, g_jok, g_qok, g_ivl, g_jvl, g_qvl, g_ist, g_bst, g_jst, g_qst, g_aln, g_isa, g_dl1, g_dl2, g_dl3, g_dl4, g_dl5, g_dd, g_rfs, g_rfn, p_sm0, p_sm1, p_sm2, p_sm3, p_sm4, true_and, and_true, if_true, if_false, ↓reduceIte, Nat.reduceEqDiff, reduceCtorEq, or_true, true_or, and_self, Int32.reduceLT, Int32.reduceAdd, Int32.reduceSub, Int32.reduceToNatClampNeg, not_false_eq_true, not_true_eq_false, a5]
  · simp (decide := true) only [Kt_some, Kt_none, V_ite, g_if, g_ss, g_1, g_2, g_cn, g_iok, g_sok, g_bok, g_jok, g_qok, g_ivl, g_jvl, g_qvl, g_ist, g_bst, g_jst, g_qst, g_aln, g_isa, g_dl1, g_dl2, g_dl3, g_dl4, g_dl5, g_dd, g_rfs, g_rfn, p_sm0, p_sm1, p_sm2, p_sm3, p_sm4, true_and, and_true, if_true, if_false, ↓reduceIte, Nat.reduceEqDiff, reduceCtorEq, or_true, true_or, and_self, Int32.reduceLT, Int32.reduceAdd, Int32.reduceSub, Int32.reduceToNatClampNeg, not_false_eq_true, not_true_eq_false, a6]
  · simp (decide := true) only [Kt_some, Kt_none, V_ite, g_if, g_ss, g_1, g_2, g_cn, g_iok, g_sok, g_bok, g_jok, g_qok, g_ivl, g_jvl, g_qvl, g_ist, g_bst, g_jst, g_qst, g_aln, g_isa, g_dl1, g_dl2, g_dl3, g_dl4, g_dl5, g_dd, g_rfs, g_rfn, p_sm0, p_sm1, p_sm2, p_sm3, p_sm4, true_and, and_true, if_true, if_false, ↓reduceIte, Nat.reduceEqDiff, reduceCtorEq, or_true, true_or, and_self, Int32.reduceLT, Int32.reduceAdd, Int32.reduceSub, Int32.reduceToNatClampNeg, not_false_eq_true, not_true_eq_false, a7]
  · (repeat' (first | exact hB | exact hM | exact hKp | exact hJ | exact hS | exact MF_rf _ | refine CB_st ?_ (by decide) (by decide) | refine CM_st ?_ (by decide) (by decide) | refine CK_st ?_ (by decide) | refine CJ_st ?_ (by decide) | refine CS_st ?_ (by decide) (by decide) (by decide) (by decide) | refine MF_st ?_ (by decide)))
  · simp (decide := true) only [Kt_some, Kt_none, V_ite, g_if, g_ss, g_1, g_2, g_cn, g_iok, g_sok, g_bok, g_jok, g_qok, g_ivl, g_jvl, g_qvl, g_ist, g_bst, g_jst, g_qst, g_aln, g_isa, g_dl1, g_dl2, g_dl3, g_dl4, g_dl5, g_dd, g_rfs, g_rfn, p_sm0, p_sm1, p_sm2, p_sm3, p_sm4, true_and, and_true, if_true, if_false, ↓reduceIte, Nat.reduceEqDiff, reduceCtorEq, or_true, true_or, and_self, Int32.reduceLT, Int32.reduceAdd, Int32.reduceSub, Int32.reduceToNatClampNeg, not_false_eq_true, not_true_eq_false]
    rw [e6, e8]
  · simp (decide := true) only [Kt_some, Kt_none, V_ite, g_if, g_ss, g_1, g_2, g_cn, g_iok, g_sok, g_bok, g_jok, g_qok, g_ivl, g_jvl, g_qvl, g_ist, g_bst, g_jst, g_qst, g_aln, g_isa, g_dl1, g_dl2, g_dl3, g_dl4, g_dl5, g_dd, g_rfs, g_rfn, p_sm0, p_sm1, p_sm2, p_sm3, p_sm4, true_and, and_true, if_true, if_false, ↓reduceIte, Nat.reduceEqDiff, reduceCtorEq, or_true, true_or, and_self, Int32.reduceLT, Int32.reduceAdd, Int32.reduceSub, Int32.reduceToNatClampNeg, not_false_eq_true, not_true_eq_false, m2]
  · (repeat' (first | exact hB | exact hM | exact hKp | exact hJ | exact hS | exact MF_rf _ | refine CB_st ?_ (by decide) (by decide) | refine CM_st ?_ (by decide) (by decide) | refine CK_st ?_ (by decide) | refine CJ_st ?_ (by decide) | refine CS_st ?_ (by decide) (by decide) (by decide) (by decide) | refine MF_st ?_ (by decide)))
  · refine ⟨?_, ⟨jn (cr σ) f12 5, by simp (decide := true) only [Kt_some, Kt_none, V_ite, g_if, g_ss, g_1, g_2, g_cn, g_iok, g_sok, g_bok, g_jok, g_qok, g_ivl, g_jvl, g_qvl, g_ist, g_bst, g_jst, g_qst, g_aln, g_isa, g_dl1, g_dl2, g_dl3, g_dl4, g_dl5, g_dd, g_rfs, g_rfn, p_sm0, p_sm1, p_sm2, p_sm3, p_sm4, true_and, and_true, if_true, if_false, ↓reduceIte, Nat.reduceEqDiff, reduceCtorEq, or_true, true_or, and_self, Int32.reduceLT, Int32.reduceAdd, Int32.reduceSub, Int32.reduceToNatClampNeg, not_false_eq_true, not_true_eq_false]⟩, ⟨tf (jn (cr σ) f12 5) f13 5, by simp (decide := true) only [Kt_some, Kt_none, V_ite, g_if, g_ss, g_1, g_2, g_cn, g_iok, g_sok, g_bok, g_jok, g_qok, g_ivl, g_jvl, g_qvl, g_ist, g_bst, g_jst, g_qst, g_aln, g_isa, g_dl1, g_dl2, g_dl3, g_dl4, g_dl5, g_dd, g_rfs, g_rfn, p_sm0, p_sm1, p_sm2, p_sm3, p_sm4, true_and, and_true, if_true, if_false, ↓reduceIte, Nat.reduceEqDiff, reduceCtorEq, or_true, true_or, and_self, Int32.reduceLT, Int32.reduceAdd, Int32.reduceSub, Int32.reduceToNatClampNeg, not_false_eq_true, not_true_eq_false], ?_⟩, ⟨W.1, by simp (decide := true) only [Kt_some, Kt_none, V_ite, g_if, g_ss, g_1, g_2, g_cn, g_iok, g_sok, g_bok, g_jok, g_qok, g_ivl, g_jvl, g_qvl, g_ist, g_bst, g_jst, g_qst, g_aln, g_isa, g_dl1, g_dl2, g_dl3, g_dl4, g_dl5, g_dd, g_rfs, g_rfn, p_sm0, p_sm1, p_sm2, p_sm3, p_sm4, true_and, and_true, if_true, if_false, ↓reduceIte, Nat.reduceEqDiff, reduceCtorEq, or_true, true_or, and_self, Int32.reduceLT, Int32.reduceAdd, Int32.reduceSub, Int32.reduceToNatClampNeg, not_false_eq_true, not_true_eq_false]⟩, ⟨W.2, by simp (decide := true) only [Kt_some, Kt_none, V_ite, g_if, g_ss, g_1, g_2, g_cn, g_iok, g_sok, g_bok, g_jok, g_qok, g_ivl, g_jvl, g_qvl, g_ist, g_bst, g_jst, g_qst, g_aln, g_isa, g_dl1, g_dl2, g_dl3, g_dl4, g_dl5, g_dd, g_rfs, g_rfn, p_sm0, p_sm1, p_sm2, p_sm3, p_sm4, true_and, and_true, if_true, if_false, ↓reduceIte, Nat.reduceEqDiff, reduceCtorEq, or_true, true_or, and_self, Int32.reduceLT, Int32.reduceAdd, Int32.reduceSub, Int32.reduceToNatClampNeg, not_false_eq_true, not_true_eq_false]⟩, ?_, ?_, ?_, ?_, ?_⟩
    · exact IA_st (IA_st (IA_st (IA_st (IA_st j1 (by decide)) (by decide)) (by decide)) (by decide)) (by decide)
    · rw [tf_0]
      exact z13
    · simp (decide := true) only [Kt_some, Kt_none, V_ite, g_if, g_ss, g_1, g_2, g_cn, g_iok, g_sok, g_bok, g_jok, g_qok, g_ivl, g_jvl, g_qvl, g_ist, g_bst, g_jst, g_qst, g_aln, g_isa, g_dl1, g_dl2, g_dl3, g_dl4, g_dl5, g_dd, g_rfs, g_rfn, p_sm0, p_sm1, p_sm2, p_sm3, p_sm4, true_and, and_true, if_true, if_false, ↓reduceIte, Nat.reduceEqDiff, reduceCtorEq, or_true, true_or, and_self, Int32.reduceLT, Int32.reduceAdd, Int32.reduceSub, Int32.reduceToNatClampNeg, not_false_eq_true, not_true_eq_false, j6]
    · exact JA_st (JA_st (JA_st (JA_st (JA_st j7 (by decide)) (by decide)) (by decide)) (by decide)) (by decide)
    · exact JA_st (JA_st (JA_st (JA_st (JA_st j8 (by decide)) (by decide)) (by decide)) (by decide)) (by decide)
    · exact IA_st (IA_st (IA_st (IA_st (IA_st j9 (by decide)) (by decide)) (by decide)) (by decide)) (by decide)
    · exact IA_st (IA_st (IA_st (IA_st (IA_st j10 (by decide)) (by decide)) (by decide)) (by decide)) (by decide)
  · (repeat' (first | exact hB | exact hM | exact hKp | exact hJ | exact hS | exact MF_rf _ | refine CB_st ?_ (by decide) (by decide) | refine CM_st ?_ (by decide) (by decide) | refine CK_st ?_ (by decide) | refine CJ_st ?_ (by decide) | refine CS_st ?_ (by decide) (by decide) (by decide) (by decide) | refine MF_st ?_ (by decide)))
  · (repeat' (first | exact hB | exact hM | exact hKp | exact hJ | exact hS | exact MF_rf _ | refine CB_st ?_ (by decide) (by decide) | refine CM_st ?_ (by decide) (by decide) | refine CK_st ?_ (by decide) | refine CJ_st ?_ (by decide) | refine CS_st ?_ (by decide) (by decide) (by decide) (by decide) | refine MF_st ?_ (by decide)))
  · simp (decide := true) only [Kt_some, Kt_none, V_ite, g_if, g_ss, g_1, g_2, g_cn, g_iok, g_sok, g_bok, g_jok, g_qok, g_ivl, g_jvl, g_qvl, g_ist, g_bst, g_jst, g_qst, g_aln, g_isa, g_dl1, g_dl2, g_dl3, g_dl4, g_dl5, g_dd, g_rfs, g_rfn, p_sm0, p_sm1, p_sm2, p_sm3, p_sm4, true_and, and_true, if_true, if_false, ↓reduceIte, Nat.reduceEqDiff, reduceCtorEq, or_true, true_or, and_self, Int32.reduceLT, Int32.reduceAdd, Int32.reduceSub, Int32.reduceToNatClampNeg, not_false_eq_true, not_true_eq_false]
    rw [e6, e8]
  · simp (decide := true) only [Kt_some, Kt_none, V_ite, g_if, g_ss, g_1, g_2, g_cn, g_iok, g_sok, g_bok, g_jok, g_qok, g_ivl, g_jvl, g_qvl, g_ist, g_bst, g_jst, g_qst, g_aln, g_isa, g_dl1, g_dl2, g_dl3, g_dl4, g_dl5, g_dd, g_rfs, g_rfn, p_sm0, p_sm1, p_sm2, p_sm3, p_sm4, true_and, and_true, if_true, if_false, ↓reduceIte, Nat.reduceEqDiff, reduceCtorEq, or_true, true_or, and_self, Int32.reduceLT, Int32.reduceAdd, Int32.reduceSub, Int32.reduceToNatClampNeg, not_false_eq_true, not_true_eq_false]
  · simp (decide := true) only [Kt_some, Kt_none, V_ite, g_if, g_ss, g_1, g_2, g_cn, g_iok, g_sok, g_bok, g_jok, g_qok, g_ivl, g_jvl, g_qvl, g_ist, g_bst, g_jst, g_qst, g_aln, g_isa, g_dl1, g_dl2, g_dl3, g_dl4, g_dl5, g_dd, g_rfs, g_rfn, p_sm0, p_sm1, p_sm2, p_sm3, p_sm4, true_and, and_true, if_true, if_false, ↓reduceIte, Nat.reduceEqDiff, reduceCtorEq, or_true, true_or, and_self, Int32.reduceLT, Int32.reduceAdd, Int32.reduceSub, Int32.reduceToNatClampNeg, not_false_eq_true, not_true_eq_false]
  · simp (decide := true) only [Kt_some, Kt_none, V_ite, g_if, g_ss, g_1, g_2, g_cn, g_iok, g_sok, g_bok, g_jok, g_qok, g_ivl, g_jvl, g_qvl, g_ist, g_bst, g_jst, g_qst, g_aln, g_isa, g_dl1, g_dl2, g_dl3, g_dl4, g_dl5, g_dd, g_rfs, g_rfn, p_sm0, p_sm1, p_sm2, p_sm3, p_sm4, true_and, and_true, if_true, if_false, ↓reduceIte, Nat.reduceEqDiff, reduceCtorEq, or_true, true_or, and_self, Int32.reduceLT, Int32.reduceAdd, Int32.reduceSub, Int32.reduceToNatClampNeg, not_false_eq_true, not_true_eq_false]
def f_poured (σ : pS) : Int32 × pS := (if 0 < σ 0 6 then su (mw σ 0).1 32 else -103, σ)
theorem x_poured (hC : CR σ h) (hI : IV σ) (hK : ∀ h2, CR (f_poured σ).2 h2 → MF h h2 → K (some (.int (f_poured σ).1)) h2) : Vm 89 [.ref 1] h K := by
  obtain ⟨ad, hA, hB, hM, hKp, hJ, hS⟩ := id hC
  obtain ⟨a1, a2, a3, a4, a5, a6, a7⟩ := id hA
  obtain ⟨⟨cs, m1⟩, m2⟩ := id hM
  unfold f_poured at hK
  by_cases hb : 0 < σ 0 6
  · simp only [hb, if_true] at hK
    simp (decide := true) only [e89_0, e89_1, e89_4, e89_7, e89_10, e89_12, e89_13, e89_14, e89_15, e89_18, e89_19, e89_22, e89_25, m89, ok_11_5_11, fv13_5, Kt_some, Kt_none, V_ite, g_if, g_ss, g_1, g_2, g_cn, g_iok, g_sok, g_bok, g_jok, g_qok, g_ivl, g_jvl, g_qvl, g_ist, g_bst, g_jst, g_qst, g_aln, g_isa, g_dl1, g_dl2, g_dl3, g_dl4, g_dl5, g_dd, g_rfs, g_rfn, p_sm0, p_sm1, p_sm2, p_sm3, p_sm4, true_and, and_true, if_true, if_false, ↓reduceIte, Nat.reduceEqDiff, reduceCtorEq, or_true, true_or, and_self, Int32.reduceLT, Int32.reduceAdd, Int32.reduceSub, Int32.reduceToNatClampNeg, not_false_eq_true, not_true_eq_false, a1, m1, c13 m1, hb]
    refine x_mark hC hI hb (fun h2 cs w m hC2 hF h10 h14 h15 h1 hsu hou => ?_)
    rw [a1] at h1
    simp (decide := true) only [e89_0, e89_1, e89_4, e89_7, e89_10, e89_12, e89_13, e89_14, e89_15, e89_18, e89_19, e89_22, e89_25, m89, ok_11_5_11, fv13_5, Kt_some, Kt_none, V_ite, g_if, g_ss, g_1, g_2, g_cn, g_iok, g_sok, g_bok, g_jok, g_qok, g_ivl, g_jvl, g_qvl, g_ist, g_bst, g_jst, g_qst, g_aln, g_isa, g_dl1, g_dl2, g_dl3, g_dl4, g_dl5, g_dd, g_rfs, g_rfn, p_sm0, p_sm1, p_sm2, p_sm3, p_sm4, true_and, and_true, if_true, if_false, ↓reduceIte, Nat.reduceEqDiff, reduceCtorEq, or_true, true_or, and_self, Int32.reduceLT, Int32.reduceAdd, Int32.reduceSub, Int32.reduceToNatClampNeg, not_false_eq_true, not_true_eq_false, h1, h10, c22 h10 h14]
    rw [hsu]
    exact hK h2 hC2 hF
  · simp only [hb, if_false] at hK
    simp (decide := true) only [e89_0, e89_1, e89_4, e89_7, e89_10, e89_12, e89_13, e89_14, e89_15, e89_18, e89_19, e89_22, e89_25, m89, ok_11_5_11, fv13_5, Kt_some, Kt_none, V_ite, g_if, g_ss, g_1, g_2, g_cn, g_iok, g_sok, g_bok, g_jok, g_qok, g_ivl, g_jvl, g_qvl, g_ist, g_bst, g_jst, g_qst, g_aln, g_isa, g_dl1, g_dl2, g_dl3, g_dl4, g_dl5, g_dd, g_rfs, g_rfn, p_sm0, p_sm1, p_sm2, p_sm3, p_sm4, true_and, and_true, if_true, if_false, ↓reduceIte, Nat.reduceEqDiff, reduceCtorEq, or_true, true_or, and_self, Int32.reduceLT, Int32.reduceAdd, Int32.reduceSub, Int32.reduceToNatClampNeg, not_false_eq_true, not_true_eq_false, a1, m1, c13 m1, hb]
    exact hK h hC (MF_rf h)
def f_sure (σ : pS) (b : Int32) : Int32 × pS := (if b < 0 then -101 else if b < σ 0 2 then (if 0 < σ 0 6 then (if p_is (kc (σ 5 b.toNatClampNeg)) 2 = true then od 8 0 (ou (mw σ (nI (2 ^ b.toNatClampNeg))).2 32) else -103) else -103) else -101, σ)
theorem x_sure {b : Int32} (hC : CR σ h) (hI : IV σ) (hK : ∀ h2, CR (f_sure σ b).2 h2 → MF h h2 → K (some (.int (f_sure σ b).1)) h2) : Vm 90 [.ref 1, .int b] h K := by
  obtain ⟨ad, hA, hB, hM, hKp, hJ, hS⟩ := id hC
  obtain ⟨a1, a2, a3, a4, a5, a6, a7⟩ := id hA
  obtain ⟨⟨cs, m1⟩, m2⟩ := id hM
  unfold f_sure at hK
  by_cases h0 : b < 0
  · simp only [h0, if_true] at hK
    simp (decide := true) only [e90_0, e90_1, e90_2, e90_5, e90_5n, e90_6, e90_6n, e90_7, e90_7r, e90_10, e90_12, e90_13, e90_14, e90_17, e90_20, e90_23, e90_23n, e90_24n, e90_24, e90_27, e90_30, e90_32, e90_33, e90_34, e90_35, e90_36, e90_37, e90_40, e90_41, e90_44, e90_47, m90, ok_11_5_11, fv13_5, Kt_some, Kt_none, V_ite, g_if, g_ss, g_1, g_2, g_cn, g_iok, g_sok, g_bok, g_jok, g_qok, g_ivl, g_jvl, g_qvl, g_ist, g_bst, g_jst, g_qst, g_aln, g_isa, g_dl1, g_dl2, g_dl3, g_dl4, g_dl5, g_dd, g_rfs, g_rfn, p_sm0, p_sm1, p_sm2, p_sm3, p_sm4, true_and, and_true, if_true, if_false, ↓reduceIte, Nat.reduceEqDiff, reduceCtorEq, or_true, true_or, and_self, Int32.reduceLT, Int32.reduceAdd, Int32.reduceSub, Int32.reduceToNatClampNeg, not_false_eq_true, not_true_eq_false, a1, c100 hI hA hB, h0]
    exact hK h hC (MF_rf h)
  by_cases h1 : b < σ 0 2
  · obtain ⟨j, hj1, hj2, hj3, hj4, hj5, hj6, hj7⟩ := bt_in hI h0 h1
    obtain ⟨b57, bh, hbj⟩ := hB.2.1 j hj3
    simp only [h0, h1, if_true, if_false, hj2] at hK
    by_cases hb : 0 < σ 0 6
    · by_cases hp : p_is (kc (σ 5 j)) 2 = true
      · simp only [hb, hp, if_true] at hK
        have s3 := sh_i j (by omega)
        rw [← hj1] at s3
        simp (decide := true) only [e90_0, e90_1, e90_2, e90_5, e90_5n, e90_6, e90_6n, e90_7, e90_7r, e90_10, e90_12, e90_13, e90_14, e90_17, e90_20, e90_23, e90_23n, e90_24n, e90_24, e90_27, e90_30, e90_32, e90_33, e90_34, e90_35, e90_36, e90_37, e90_40, e90_41, e90_44, e90_47, m90, ok_11_5_11, fv13_5, Kt_some, Kt_none, V_ite, g_if, g_ss, g_1, g_2, g_cn, g_iok, g_sok, g_bok, g_jok, g_qok, g_ivl, g_jvl, g_qvl, g_ist, g_bst, g_jst, g_qst, g_aln, g_isa, g_dl1, g_dl2, g_dl3, g_dl4, g_dl5, g_dd, g_rfs, g_rfn, p_sm0, p_sm1, p_sm2, p_sm3, p_sm4, true_and, and_true, if_true, if_false, ↓reduceIte, Nat.reduceEqDiff, reduceCtorEq, or_true, true_or, and_self, Int32.reduceLT, Int32.reduceAdd, Int32.reduceSub, Int32.reduceToNatClampNeg, not_false_eq_true, not_true_eq_false, a1, m1, c13 m1, c100 hI hA hB, h0, h1, hj2, hb, hbj, hj6, i_ite, hp, s3]
        refine x_mark hC hI hb (fun h2 cs w m hC2 hF h10 h14 h15 h1 hsu hou => ?_)
        rw [a1] at h1
        simp (decide := true) only [e90_0, e90_1, e90_2, e90_5, e90_5n, e90_6, e90_6n, e90_7, e90_7r, e90_10, e90_12, e90_13, e90_14, e90_17, e90_20, e90_23, e90_23n, e90_24n, e90_24, e90_27, e90_30, e90_32, e90_33, e90_34, e90_35, e90_36, e90_37, e90_40, e90_41, e90_44, e90_47, m90, ok_11_5_11, fv13_5, Kt_some, Kt_none, V_ite, g_if, g_ss, g_1, g_2, g_cn, g_iok, g_sok, g_bok, g_jok, g_qok, g_ivl, g_jvl, g_qvl, g_ist, g_bst, g_jst, g_qst, g_aln, g_isa, g_dl1, g_dl2, g_dl3, g_dl4, g_dl5, g_dd, g_rfs, g_rfn, p_sm0, p_sm1, p_sm2, p_sm3, p_sm4, true_and, and_true, if_true, if_false, ↓reduceIte, Nat.reduceEqDiff, reduceCtorEq, or_true, true_or, and_self, Int32.reduceLT, Int32.reduceAdd, Int32.reduceSub, Int32.reduceToNatClampNeg, not_false_eq_true, not_true_eq_false, h1, h10, c23 h10 h15]
        rw [hou]
        exact hK h2 hC2 hF
      · simp only [hb, hp, if_true, if_false] at hK
        simp (decide := true) only [e90_0, e90_1, e90_2, e90_5, e90_5n, e90_6, e90_6n, e90_7, e90_7r, e90_10, e90_12, e90_13, e90_14, e90_17, e90_20, e90_23, e90_23n, e90_24n, e90_24, e90_27, e90_30, e90_32, e90_33, e90_34, e90_35, e90_36, e90_37, e90_40, e90_41, e90_44, e90_47, m90, ok_11_5_11, fv13_5, Kt_some, Kt_none, V_ite, g_if, g_ss, g_1, g_2, g_cn, g_iok, g_sok, g_bok, g_jok, g_qok, g_ivl, g_jvl, g_qvl, g_ist, g_bst, g_jst, g_qst, g_aln, g_isa, g_dl1, g_dl2, g_dl3, g_dl4, g_dl5, g_dd, g_rfs, g_rfn, p_sm0, p_sm1, p_sm2, p_sm3, p_sm4, true_and, and_true, if_true, if_false, ↓reduceIte, Nat.reduceEqDiff, reduceCtorEq, or_true, true_or, and_self, Int32.reduceLT, Int32.reduceAdd, Int32.reduceSub, Int32.reduceToNatClampNeg, not_false_eq_true, not_true_eq_false, a1, m1, c13 m1, c100 hI hA hB, h0, h1, hj2, hb, hbj, hj6, i_ite, hp]
        exact hK h hC (MF_rf h)
    · simp only [hb, if_false] at hK
      simp (decide := true) only [e90_0, e90_1, e90_2, e90_5, e90_5n, e90_6, e90_6n, e90_7, e90_7r, e90_10, e90_12, e90_13, e90_14, e90_17, e90_20, e90_23, e90_23n, e90_24n, e90_24, e90_27, e90_30, e90_32, e90_33, e90_34, e90_35, e90_36, e90_37, e90_40, e90_41, e90_44, e90_47, m90, ok_11_5_11, fv13_5, Kt_some, Kt_none, V_ite, g_if, g_ss, g_1, g_2, g_cn, g_iok, g_sok, g_bok, g_jok, g_qok, g_ivl, g_jvl, g_qvl, g_ist, g_bst, g_jst, g_qst, g_aln, g_isa, g_dl1, g_dl2, g_dl3, g_dl4, g_dl5, g_dd, g_rfs, g_rfn, p_sm0, p_sm1, p_sm2, p_sm3, p_sm4, true_and, and_true, if_true, if_false, ↓reduceIte, Nat.reduceEqDiff, reduceCtorEq, or_true, true_or, and_self, Int32.reduceLT, Int32.reduceAdd, Int32.reduceSub, Int32.reduceToNatClampNeg, not_false_eq_true, not_true_eq_false, a1, m1, c13 m1, c100 hI hA hB, h0, h1, hj2, hb, hbj, hj6]
      exact hK h hC (MF_rf h)
  · simp only [h0, h1, if_true, if_false] at hK
    simp (decide := true) only [e90_0, e90_1, e90_2, e90_5, e90_5n, e90_6, e90_6n, e90_7, e90_7r, e90_10, e90_12, e90_13, e90_14, e90_17, e90_20, e90_23, e90_23n, e90_24n, e90_24, e90_27, e90_30, e90_32, e90_33, e90_34, e90_35, e90_36, e90_37, e90_40, e90_41, e90_44, e90_47, m90, ok_11_5_11, fv13_5, Kt_some, Kt_none, V_ite, g_if, g_ss, g_1, g_2, g_cn, g_iok, g_sok, g_bok, g_jok, g_qok, g_ivl, g_jvl, g_qvl, g_ist, g_bst, g_jst, g_qst, g_aln, g_isa, g_dl1, g_dl2, g_dl3, g_dl4, g_dl5, g_dd, g_rfs, g_rfn, p_sm0, p_sm1, p_sm2, p_sm3, p_sm4, true_and, and_true, if_true, if_false, ↓reduceIte, Nat.reduceEqDiff, reduceCtorEq, or_true, true_or, and_self, Int32.reduceLT, Int32.reduceAdd, Int32.reduceSub, Int32.reduceToNatClampNeg, not_false_eq_true, not_true_eq_false, a1, c100 hI hA hB, h0, h1]
    exact hK h hC (MF_rf h)
end S31
