section S59
/-! the model's codes of the states of a search -/
def mcd (w : Nat → Nat) (ld cp bp : Nat) : Nat := bp + 4 * cp + 16 * ld + 112 * (w 1 + 6 * w 2 + 36 * w 3)
def mcc (c : Nat) : Nat := mcd (sW 0 c) (sL c) (sC c) (sB c)
def fv (f : Nat) : Nat := if f = 31 then 99 else f + 1
/-- a row of water, a load, two places, that can be told -/
def TB (n : Nat) (w : Nat → Nat) (ld cp bp : Nat) : Prop := (∀ i, 1 ≤ i → i < 4 → w i ≤ 5) ∧ (∀ i, n ≤ i → i < 4 → w i = 0) ∧ ld ≤ 6 ∧ cp < 4 ∧ bp < 4
def BD (c : Nat) : Prop := c < 65536 ∧ c % 8 ≤ 5 ∧ c / 8 % 8 ≤ 5 ∧ c / 64 % 8 ≤ 5 ∧ sL c ≤ 6
theorem mcd_lt {n : Nat} {w : Nat → Nat} {ld cp bp : Nat} (h : TB n w ld cp bp) : mcd w ld cp bp < 24192 := by
  obtain ⟨h1, -, h2, h3, h4⟩ := h
  have a := h1 1 (by omega) (by omega)
  have b := h1 2 (by omega) (by omega)
  have c := h1 3 (by omega) (by omega)
  unfold mcd
  omega
theorem mcd_d {n : Nat} {w : Nat → Nat} {ld cp bp : Nat} (h : TB n w ld cp bp) : mcd w ld cp bp % 4 = bp ∧ mcd w ld cp bp / 4 % 4 = cp ∧ mcd w ld cp bp / 16 % 7 = ld ∧ mcd w ld cp bp / 112 % 6 = w 1 ∧ mcd w ld cp bp / 112 / 6 % 6 = w 2 ∧ mcd w ld cp bp / 112 / 6 / 6 % 6 = w 3 := by
  obtain ⟨h1, -, h2, h3, h4⟩ := h
  have a := h1 1 (by omega) (by omega)
  have b := h1 2 (by omega) (by omega)
  have c := h1 3 (by omega) (by omega)
  unfold mcd
  have e : (bp + 4 * cp + 16 * ld + 112 * (w 1 + 6 * w 2 + 36 * w 3)) / 112 = w 1 + 6 * w 2 + 36 * w 3 := by omega
  rw [e]
  omega
theorem mk_8 {n : Nat} {w : Nat → Nat} {ld cp bp : Nat} (h : TB n w ld cp bp) : mkc w ld cp bp < 65536 ∧ (∀ H0 i, 1 ≤ i → i < 4 → sW H0 (mkc w ld cp bp) i = w i) ∧ sL (mkc w ld cp bp) = ld ∧ sC (mkc w ld cp bp) = cp ∧ sB (mkc w ld cp bp) = bp := by
  obtain ⟨h1, -, h2, h3, h4⟩ := h
  have a := h1 1 (by omega) (by omega)
  have b := h1 2 (by omega) (by omega)
  have c := h1 3 (by omega) (by omega)
  exact mk_d (by omega) (by omega) (by omega) (by omega) h3 h4
theorem mcc_mk {n : Nat} {w : Nat → Nat} {ld cp bp : Nat} (h : TB n w ld cp bp) : mcc (mkc w ld cp bp) = mcd w ld cp bp := by
  obtain ⟨-, e1, e2, e3, e4⟩ := mk_8 h
  unfold mcc
  rw [e2, e3, e4]
  unfold mcd
  rw [e1 0 1 (by omega) (by omega), e1 0 2 (by omega) (by omega), e1 0 3 (by omega) (by omega)]
theorem BD_mk {n : Nat} {w : Nat → Nat} {ld cp bp : Nat} (h : TB n w ld cp bp) : BD (mkc w ld cp bp) := by
  obtain ⟨e0, e1, e2, e3, e4⟩ := mk_8 h
  obtain ⟨h1, -, h2, h3, h4⟩ := h
  have a := e1 0 1 (by omega) (by omega)
  have b := e1 0 2 (by omega) (by omega)
  have c := e1 0 3 (by omega) (by omega)
  refine ⟨e0, ?_, ?_, ?_, by omega⟩
  · have := h1 1 (by omega) (by omega)
    have q : mkc w ld cp bp % 8 = w 1 := a
    omega
  · have := h1 2 (by omega) (by omega)
    have q : mkc w ld cp bp / 8 % 8 = w 2 := b
    omega
  · have := h1 3 (by omega) (by omega)
    have q : mkc w ld cp bp / 64 % 8 = w 3 := c
    omega
theorem mcc_e (c : Nat) : mcc c = sB c + 4 * sC c + 16 * sL c + 112 * (c % 8 + 6 * (c / 8 % 8) + 36 * (c / 64 % 8)) := rfl
theorem mcc_lt {c : Nat} (h : BD c) : mcc c < 24192 := by
  obtain ⟨h0, h1, h2, h3, h4⟩ := h
  obtain ⟨b1, b2, b3⟩ := sb4 c
  rw [mcc_e]
  omega
theorem mcc_inj {c d : Nat} (hc : BD c) (hd : BD d) (h : mcc c = mcc d) : c = d := by
  obtain ⟨c0, c1, c2, c3, c4⟩ := hc
  obtain ⟨d0, d1, d2, d3, d4⟩ := hd
  obtain ⟨-, b2, b3⟩ := sb4 c
  obtain ⟨-, e2, e3⟩ := sb4 d
  rw [mcc_e, mcc_e] at h
  rw [c_dec c0, c_dec d0]
  generalize sB c = x1 at *
  generalize sC c = x2 at *
  generalize sL c = x3 at *
  generalize c % 8 = x4 at *
  generalize c / 8 % 8 = x5 at *
  generalize c / 64 % 8 = x6 at *
  generalize sB d = y1 at *
  generalize sC d = y2 at *
  generalize sL d = y3 at *
  generalize d % 8 = y4 at *
  generalize d / 8 % 8 = y5 at *
  generalize d / 64 % 8 = y6 at *
  have q1 : x1 = y1 ∧ x2 + 4 * (x3 + 7 * (x4 + 6 * x5 + 36 * x6)) = y2 + 4 * (y3 + 7 * (y4 + 6 * y5 + 36 * y6)) := st2 (d := 4) b3 e3 (by omega)
  obtain ⟨q1, h⟩ := q1
  obtain ⟨q2, h⟩ := st2 (d := 4) b2 e2 h
  obtain ⟨q3, h⟩ := st2 (d := 7) (show x3 < 7 by omega) (show y3 < 7 by omega) h
  have q4 : x4 = y4 ∧ x5 + 6 * x6 = y5 + 6 * y6 := st2 (d := 6) (by omega) (by omega) (by omega)
  obtain ⟨q4, h⟩ := q4
  obtain ⟨q5, q6⟩ := st2 (d := 6) (show x5 < 6 by omega) (show y5 < 6 by omega) h
  rw [q1, q2, q3, q4, q5, q6]
theorem VC_BD {n : Nat} {H : Nat → Nat} {cc c : Nat} (hn : n ≤ 4) (hH : ∀ i, i < n → H i ≤ 5) (hcc : cc ≤ 6) (hv : VC n H cc c) : BD c := by
  obtain ⟨a1, a2, a3, a4, a5, -, -⟩ := VC_k hn hH hcc hv
  exact ⟨a1, a2, a3, a4, a5⟩
theorem VC_TB {n : Nat} {H : Nat → Nat} {cc c : Nat} (hn : n ≤ 4) (hH : ∀ i, i < n → H i ≤ 5) (hcc : cc ≤ 6) (hv : VC n H cc c) : TB n (sW (H 0) c) (sL c) (sC c) (sB c) ∧ mcc c = mcd (sW (H 0) c) (sL c) (sC c) (sB c) := by
  obtain ⟨a1, a2, a3, a4, a5, a6, a7⟩ := VC_k hn hH hcc hv
  refine ⟨⟨fun i h1 h4 => ?_, hv.2.2.1, a5, a6, by omega⟩, rfl⟩
  rcases (show i = 1 ∨ i = 2 ∨ i = 3 by omega) with rfl | rfl | rfl
  · exact a2
  · exact a3
  · exact a4
/-- queue and first acts of the model -/
def QF (L : List Nat) (q f : Nat → Int32) : Prop := (∀ k, k < L.length → q k = nI (mcc (L.getD k 0 % 65536))) ∧ (∀ e ∈ L, f (mcc (e % 65536)) = nI (fv (e / 65536))) ∧ (∀ m, m < 24192 → (∀ e ∈ L, mcc (e % 65536) ≠ m) → f m = 0) ∧ ∀ e ∈ L, BD (e % 65536) ∧ e / 65536 ≤ 31
theorem fv_b {f : Nat} (h : f ≤ 31) : 1 ≤ fv f ∧ fv f ≤ 99 := by
  unfold fv
  split <;> omega
theorem QF_0 {L : List Nat} {q f : Nat → Int32} {c : Nat} (h : QF L q f) (hc : BD c) : (f (mcc c) = 0) ↔ has L c = false := by
  obtain ⟨h1, h2, h3, h4⟩ := h
  constructor
  · intro hz
    cases hh : has L c with
    | false => rfl
    | true =>
      exfalso
      unfold has at hh
      rw [List.any_eq_true] at hh
      obtain ⟨e, he, q1⟩ := hh
      have q1 : e % 65536 = c := beq_iff_eq.mp q1
      have := h2 e he
      rw [q1, hz] at this
      obtain ⟨b1, b2⟩ := fv_b (h4 e he).2
      exact nI_ne0 (by omega) (by omega) this.symm
  · intro hh
    refine h3 _ (mcc_lt hc) (fun e he q => ?_)
    have := mcc_inj (h4 e he).1 hc q
    unfold has at hh
    rw [List.any_eq_false] at hh
    exact hh e he (beq_iff_eq.mpr this)
theorem QF_ins {L : List Nat} {q f : Nat → Int32} {c F : Nat} (h : QF L q f) (hc : BD c) (hh : has L c = false) (hF : F ≤ 31) : QF (L ++ [c + 65536 * F]) (upd q L.length (nI (mcc c))) (upd f (mcc c) (nI (fv F))) := by
  obtain ⟨h1, h2, h3, h4⟩ := h
  have e1 : (c + 65536 * F) % 65536 = c := by have := hc.1; omega
  have e2 : (c + 65536 * F) / 65536 = F := by have := hc.1; omega
  have hne : ∀ e ∈ L, mcc (e % 65536) ≠ mcc c := fun e he q => by
    have := mcc_inj (h4 e he).1 hc q
    unfold has at hh
    rw [List.any_eq_false] at hh
    exact hh e he (beq_iff_eq.mpr this)
  refine ⟨fun k hk => ?_, fun e he => ?_, fun m hm hq => ?_, fun e he => ?_⟩
  · rw [List.length_append, List.length_singleton] at hk
    by_cases hkl : k = L.length
    · subst hkl
      rw [pk_us]
      have : (L ++ [c + 65536 * F]).getD L.length 0 = c + 65536 * F := by simp [List.getD]
      rw [this, e1]
    · rw [pk_un hkl, h1 k (by omega)]
      have : (L ++ [c + 65536 * F]).getD k 0 = L.getD k 0 := by simp [List.getD, List.getElem?_append, show k < L.length by omega]
      rw [this]
  · rcases List.mem_append.mp he with he | he
    · rw [pk_un (hne e he), h2 e he]
    · rw [List.mem_singleton.mp he, e1, e2, pk_us]
  · have hmc : m ≠ mcc c := fun r => hq (c + 65536 * F) (List.mem_append.mpr (Or.inr (List.mem_singleton.mpr rfl))) (by rw [e1, r])
    rw [pk_un hmc]
    exact h3 m hm (fun e he => hq e (List.mem_append.mpr (Or.inl he)))
  · rcases List.mem_append.mp he with he | he
    · exact h4 e he
    · rw [List.mem_singleton.mp he, e1, e2]
      exact ⟨hc, hF⟩
theorem nb_b : ∀ k : Nat, k < 128 → vp_nar .byte (nI k) = nI k ∧ vp_nar .byte (nI k).toInt8.toInt32 = nI k := by
  intro k hk
  have e : ∀ k : Nat, k < 128 → (nI k).toInt8.toInt32 = nI k := by decide +kernel
  have := pk_vb (nI k)
  rw [e k hk] at this
  rw [e k hk]
  exact ⟨this, this⟩
end S59
