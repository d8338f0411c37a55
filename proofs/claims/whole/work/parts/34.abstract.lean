section S34
/-! the acts of the search, on numbers -/
def qN (H : Nat → Nat) : (Nat → Nat) → Nat → Nat → (Nat → Nat)
  | w, 0, _ => w
  | w, i + 1, k => if 0 < k then qN H (va_up w (i + 1) (w (i + 1) + min k (H (i + 1) - w (i + 1)))) i (k - min k (H (i + 1) - w (i + 1))) else w
def dN (w : Nat → Nat) (p k : Nat) : Nat → Nat := if p = 0 then w else va_up w p (w p - k)
def rz (n : Nat) (w : Nat → Nat) (p k : Nat) : Bool := decide (k ≤ w p) && decide (p + 1 < n) && decide (k ≤ w (p + 1))
def can (n : Nat) (H : Nat → Nat) (nb nc cc c : Nat) (a : Nat) : Bool :=
  if a = 0 then rz n (sW (H 0) c) (sB c) nb else if a = 1 then rz n (sW (H 0) c) (sC c) nc else if a = 2 then decide (sL c = 0) && decide (0 < sC c) else if a = 3 then decide (0 < sL c) else if a = 4 then decide (0 < sL c) && decide (sC c + 1 < n) else decide (10 < a) && decide (a - 10 ≤ sW (H 0) c (sC c)) && decide (sL c + (a - 10) ≤ cc)
def nxt (H : Nat → Nat) (c a : Nat) : Nat :=
  if a = 0 then mkc (sW (H 0) c) (sL c) (sC c) (sB c + 1) else if a = 1 then mkc (sW (H 0) c) (sL c) (sC c + 1) (sB c) else if a = 2 then mkc (sW (H 0) c) 0 0 (sB c) else if a = 3 then mkc (qN H (sW (H 0) c) (sC c) (sL c)) 0 (sC c) (sB c) else if a = 4 then mkc (qN H (sW (H 0) c) (sC c + 1) (sL c)) 0 (sC c) (sB c) else mkc (dN (sW (H 0) c) (sC c) (a - 10)) (sL c + (a - 10)) (sC c) (sB c)
def xs (n : Nat) (H : Nat → Nat) (nb nc cc : Nat) (L : List Nat) (c f a : Nat) : List Nat := if can n H nb nc cc c a = true then ins L (nxt H c a) (fa f a) else L
def xr (n : Nat) (H : Nat → Nat) (nb nc cc : Nat) (L : List Nat) (c f : Nat) : Nat → List Nat
  | 0 => L
  | a + 1 => xs n H nb nc cc (xr n H nb nc cc L c f a) c f a
/-- the boat comes to the top -/
def fd (n : Nat) (H : Nat → Nat) (nb c : Nat) : Bool := rz n (sW (H 0) c) (sB c) nb && decide (sB c + 2 = n)
/-- a state that can be -/
def VC (n : Nat) (H : Nat → Nat) (cc c : Nat) : Prop := c < 65536 ∧ (∀ i, 1 ≤ i → i < n → sW (H 0) c i ≤ H i) ∧ (∀ i, n ≤ i → i < 4 → sW (H 0) c i = 0) ∧ sL c ≤ cc ∧ sC c < n ∧ sB c + 1 < n
def QV (n : Nat) (H : Nat → Nat) (cc : Nat) (L : List Nat) : Prop := (∀ e ∈ L, VC n H cc (e % 65536) ∧ e / 65536 ≤ 31) ∧ L.Pairwise (fun e e2 => e % 65536 ≠ e2 % 65536)
theorem mk_d {w : Nat → Nat} {ld cp bp : Nat} (w1 : w 1 < 8) (w2 : w 2 < 8) (w3 : w 3 < 8) (hl : ld < 8) (hc : cp < 4) (hb : bp < 4) : mkc w ld cp bp < 65536 ∧ (∀ H0 i, 1 ≤ i → i < 4 → sW H0 (mkc w ld cp bp) i = w i) ∧ sL (mkc w ld cp bp) = ld ∧ sC (mkc w ld cp bp) = cp ∧ sB (mkc w ld cp bp) = bp := by
  unfold mkc sL sC sB sW
  refine ⟨by omega, fun H0 i h1 h2 => ?_, by omega, by omega, by omega⟩
  rcases (show i = 1 ∨ i = 2 ∨ i = 3 by omega) with rfl | rfl | rfl
  · simp only [show ¬ (1 : Nat) = 0 by decide, if_false, if_true]; omega
  · simp only [show ¬ (2 : Nat) = 0 by decide, show ¬ (2 : Nat) = 1 by decide, if_false, if_true]; omega
  · simp only [show ¬ (3 : Nat) = 0 by decide, show ¬ (3 : Nat) = 1 by decide, show ¬ (3 : Nat) = 2 by decide, if_false, if_true]; omega
theorem va_s {α : Type} (f : Nat → α) (k : Nat) (x : α) : va_up f k x k = x := if_pos rfl
theorem va_n {α : Type} (f : Nat → α) {k j : Nat} (x : α) (h : j ≠ k) : va_up f k x j = f j := if_neg h
/-- pouring stays within what the basins hold -/
theorem qN_in (H : Nat → Nat) : ∀ (i : Nat) (w : Nat → Nat) (k : Nat), (∀ j, 1 ≤ j → j ≤ i → w j ≤ H j) → (∀ j, 1 ≤ j → j ≤ i → qN H w i k j ≤ H j) ∧ (∀ j, j = 0 ∨ i < j → qN H w i k j = w j)
  | 0, w, k, _ => ⟨fun j h1 h2 => by omega, fun j _ => rfl⟩
  | i + 1, w, k, h => by
    unfold qN
    by_cases hk : 0 < k
    · rw [if_pos hk]
      have hw : ∀ j, 1 ≤ j → j ≤ i → va_up w (i + 1) (w (i + 1) + min k (H (i + 1) - w (i + 1))) j ≤ H j := fun j h1 h2 => by
        rw [va_n _ _ (by omega)]
        exact h j h1 (by omega)
      obtain ⟨g1, g2⟩ := qN_in H i (va_up w (i + 1) (w (i + 1) + min k (H (i + 1) - w (i + 1)))) (k - min k (H (i + 1) - w (i + 1))) hw
      refine ⟨fun j h1 h2 => ?_, fun j hj => ?_⟩
      · by_cases hji : j = i + 1
        · subst hji
          rw [g2 (i + 1) (by omega), va_s]
          have := h (i + 1) (by omega) (by omega)
          omega
        · exact g1 j h1 (by omega)
      · rw [g2 j (by omega), va_n _ _ (by omega)]
    · rw [if_neg hk]
      exact ⟨fun j h1 h2 => h j h1 h2, fun j _ => rfl⟩
section VV
variable {n : Nat} {H : Nat → Nat} {nb nc cc : Nat}
theorem sW_lt (H0 c : Nat) {i : Nat} (h1 : 1 ≤ i) : sW H0 c i < 8 := by
  unfold sW
  split
  · omega
  · split
    · omega
    · split
      · omega
      · split <;> omega
theorem sW_0 (H0 c : Nat) : sW H0 c 0 = H0 := rfl
/-- the water of a state that can be, whatever is made of it -/
theorem VC_mk {w : Nat → Nat} {ld cp bp : Nat} (hn : n ≤ 4) (hH : ∀ i, i < n → H i ≤ 5) (hw : ∀ i, 1 ≤ i → i < n → w i ≤ H i) (hz : ∀ i, n ≤ i → i < 4 → w i = 0) (hl : ld ≤ cc) (hcc : cc ≤ 6) (hc : cp < n) (hb : bp + 1 < n) : VC n H cc (mkc w ld cp bp) := by
  have hw8 : ∀ i, 1 ≤ i → i < 4 → w i < 8 := fun i h1 h4 => by
    by_cases hi : i < n
    · have := hw i h1 hi
      have := hH i hi
      omega
    · rw [hz i (by omega) h4]; omega
  obtain ⟨m1, m2, m3, m4, m5⟩ := mk_d (w := w) (ld := ld) (cp := cp) (bp := bp) (hw8 1 (by omega) (by omega)) (hw8 2 (by omega) (by omega)) (hw8 3 (by omega) (by omega)) (by omega) (by omega) (by omega)
  refine ⟨m1, fun i h1 h2 => ?_, fun i h1 h2 => ?_, by omega, by omega, by omega⟩
  · rw [m2 (H 0) i h1 (by omega)]; exact hw i h1 h2
  · rw [m2 (H 0) i (by omega) h2]; exact hz i h1 h2
theorem VC_nxt {c a : Nat} (hn : n ≤ 4) (hH : ∀ i, i < n → H i ≤ 5) (hcc : cc ≤ 6) (hv : VC n H cc c) (hc : can n H nb nc cc c a = true) (ha : ¬ (a = 0 ∧ sB c + 2 = n)) : VC n H cc (nxt H c a) := by
  obtain ⟨v1, v2, v3, v4, v5, v6⟩ := hv
  unfold can at hc
  unfold nxt
  by_cases a0 : a = 0
  · rw [if_pos a0] at hc ⊢
    unfold rz at hc
    simp only [Bool.and_eq_true, decide_eq_true_eq] at hc
    exact VC_mk hn hH v2 v3 v4 hcc v5 (by omega)
  rw [if_neg a0] at hc ⊢
  by_cases a1 : a = 1
  · rw [if_pos a1] at hc ⊢
    unfold rz at hc
    simp only [Bool.and_eq_true, decide_eq_true_eq] at hc
    exact VC_mk hn hH v2 v3 v4 hcc (by omega) v6
  rw [if_neg a1] at hc ⊢
  by_cases a2 : a = 2
  · rw [if_pos a2]
    exact VC_mk hn hH v2 v3 (by omega) hcc (by omega) v6
  rw [if_neg a2] at hc ⊢
  by_cases a3 : a = 3
  · rw [if_pos a3]
    obtain ⟨p1, p2⟩ := qN_in H (sC c) (sW (H 0) c) (sL c) (fun j h1 h2 => v2 j h1 (by omega))
    refine VC_mk hn hH (fun i h1 h2 => ?_) (fun i h1 h2 => ?_) (by omega) hcc v5 v6
    · by_cases hi : i ≤ sC c
      · exact p1 i h1 hi
      · rw [p2 i (by omega)]; exact v2 i h1 h2
    · rw [p2 i (by omega)]; exact v3 i h1 h2
  rw [if_neg a3] at hc ⊢
  by_cases a4 : a = 4
  · rw [if_pos a4] at hc ⊢
    simp only [Bool.and_eq_true, decide_eq_true_eq] at hc
    obtain ⟨p1, p2⟩ := qN_in H (sC c + 1) (sW (H 0) c) (sL c) (fun j h1 h2 => v2 j h1 (by omega))
    refine VC_mk hn hH (fun i h1 h2 => ?_) (fun i h1 h2 => ?_) (by omega) hcc v5 v6
    · by_cases hi : i ≤ sC c + 1
      · exact p1 i h1 hi
      · rw [p2 i (by omega)]; exact v2 i h1 h2
    · rw [p2 i (by omega)]; exact v3 i h1 h2
  rw [if_neg a4] at hc ⊢
  simp only [Bool.and_eq_true, decide_eq_true_eq] at hc
  refine VC_mk hn hH (fun i h1 h2 => ?_) (fun i h1 h2 => ?_) hc.2 hcc v5 v6
  · unfold dN
    split
    · exact v2 i h1 h2
    · by_cases hi : i = sC c
      · subst hi; rw [va_s]; have := v2 _ h1 h2; omega
      · rw [va_n _ _ hi]; exact v2 i h1 h2
  · unfold dN
    split
    · exact v3 i h1 h2
    · rw [va_n _ _ (by omega)]; exact v3 i h1 h2
theorem QV_ins {L : List Nat} {c f : Nat} (hq : QV n H cc L) (hv : VC n H cc c) (hf : f ≤ 31) : QV n H cc (ins L c f) := by
  unfold ins
  by_cases hh : has L c = true
  · rw [if_pos hh]; exact hq
  · rw [if_neg hh]
    have e1 : (c + 65536 * f) % 65536 = c := by have := hv.1; omega
    have e2 : (c + 65536 * f) / 65536 = f := by have := hv.1; omega
    refine ⟨fun e he => ?_, ?_⟩
    · rcases List.mem_append.mp he with he | he
      · exact hq.1 e he
      · rw [List.mem_singleton.mp he, e1, e2]
        exact ⟨hv, hf⟩
    · rw [List.pairwise_append]
      refine ⟨hq.2, List.pairwise_singleton _ _, fun a ha b hb => ?_⟩
      rw [List.mem_singleton.mp hb, e1]
      intro q
      apply hh
      unfold has
      rw [List.any_eq_true]
      exact ⟨a, ha, by rw [q]; exact beq_self_eq_true c⟩
theorem QV_xs {L : List Nat} {c f a : Nat} (hn : n ≤ 4) (hH : ∀ i, i < n → H i ≤ 5) (hcc : cc ≤ 6) (hq : QV n H cc L) (hv : VC n H cc c) (hf : f ≤ 31) (ha : a ≤ 31) (h0 : ¬ (a = 0 ∧ fd n H nb c = true)) : QV n H cc (xs n H nb nc cc L c f a) := by
  unfold xs
  by_cases hc : can n H nb nc cc c a = true
  · rw [if_pos hc]
    refine QV_ins hq (VC_nxt hn hH hcc hv hc (fun q => h0 ⟨q.1, ?_⟩)) ?_
    · obtain ⟨rfl, q2⟩ := q
      unfold can at hc
      rw [if_pos rfl] at hc
      unfold fd
      rw [hc, q2]
      simp
    · unfold fa; split <;> omega
  · rw [if_neg hc]; exact hq
theorem pigeon : ∀ (N : Nat) (l : List Nat), l.Nodup → (∀ x ∈ l, x < N) → l.length ≤ N
  | 0, l, _, hl => by
    cases l with
    | nil => exact Nat.le_refl 0
    | cons a l => exact absurd (hl a (List.mem_cons_self ..)) (Nat.not_lt_zero a)
  | N + 1, l, hn, hl => by
    have ih := pigeon N (l.erase N) (hn.erase N) (fun x hx => by
      have := (List.Nodup.mem_erase_iff hn).mp hx
      have := hl x this.2
      omega)
    rw [List.length_erase] at ih
    split at ih <;> omega
theorem st2 {d x y A B : Nat} (hx : x < d) (hy : y < d) (h : x + d * A = y + d * B) : x = y ∧ A = B := by
  have h1 : (x + d * A) % d = (y + d * B) % d := by rw [h]
  rw [Nat.add_mul_mod_self_left, Nat.add_mul_mod_self_left, Nat.mod_eq_of_lt hx, Nat.mod_eq_of_lt hy] at h1
  subst h1
  exact ⟨rfl, Nat.eq_of_mul_eq_mul_left (by omega) (Nat.add_left_cancel h)⟩
theorem c_dec {c : Nat} (hc : c < 65536) : c = c % 8 + 8 * (c / 8 % 8) + 64 * (c / 64 % 8) + 512 * sL c + 4096 * sC c + 16384 * sB c := by
  unfold sL sC sB
  omega
def kap (c : Nat) : Nat := sB c + 3 * (sC c + 4 * (sL c + 7 * (c % 8 + 6 * (c / 8 % 8 + 6 * (c / 64 % 8)))))
theorem VC_k {c : Nat} (hn : n ≤ 4) (hH : ∀ i, i < n → H i ≤ 5) (hcc : cc ≤ 6) (hv : VC n H cc c) : c < 65536 ∧ c % 8 ≤ 5 ∧ c / 8 % 8 ≤ 5 ∧ c / 64 % 8 ≤ 5 ∧ sL c ≤ 6 ∧ sC c < 4 ∧ sB c < 3 := by
  obtain ⟨v1, v2, v3, v4, v5, v6⟩ := hv
  have key : ∀ i, 1 ≤ i → i < 4 → sW (H 0) c i ≤ 5 := fun i h1 h4 => by
    by_cases hi : i < n
    · have := v2 i h1 hi
      have := hH i hi
      omega
    · rw [v3 i (by omega) h4]; omega
  exact ⟨v1, key 1 (by omega) (by omega), key 2 (by omega) (by omega), key 3 (by omega) (by omega), by omega, by omega, by omega⟩
theorem QV_len {L : List Nat} (hn : n ≤ 4) (hH : ∀ i, i < n → H i ≤ 5) (hcc : cc ≤ 6) (hq : QV n H cc L) : L.length ≤ 18144 := by
  have h1 : (L.map (fun e => kap (e % 65536))).Nodup := by
    rw [List.nodup_iff_pairwise_ne, List.pairwise_map]
    refine List.Pairwise.imp_of_mem (fun {a b} ha hb hab q => hab ?_) hq.2
    obtain ⟨a1, a2, a3, a4, a5, a6, a7⟩ := VC_k hn hH hcc (hq.1 a ha).1
    obtain ⟨b1, b2, b3, b4, b5, b6, b7⟩ := VC_k hn hH hcc (hq.1 b hb).1
    rw [c_dec a1, c_dec b1]
    unfold kap at q
    obtain ⟨q1, q⟩ := st2 a7 b7 q
    obtain ⟨q2, q⟩ := st2 a6 b6 q
    obtain ⟨q3, q⟩ := st2 (show sL (a % 65536) < 7 by omega) (show sL (b % 65536) < 7 by omega) q
    obtain ⟨q4, q⟩ := st2 (show a % 65536 % 8 < 6 by omega) (show b % 65536 % 8 < 6 by omega) q
    obtain ⟨q5, q6⟩ := st2 (show a % 65536 / 8 % 8 < 6 by omega) (show b % 65536 / 8 % 8 < 6 by omega) q
    rw [q1, q2, q3, q4, q5, q6]
  have h2 := pigeon 18144 _ h1 (fun x hx => by
    obtain ⟨e, he, rfl⟩ := List.mem_map.mp hx
    obtain ⟨a1, a2, a3, a4, a5, a6, a7⟩ := VC_k hn hH hcc (hq.1 e he).1
    unfold kap
    omega)
  rwa [List.length_map] at h2
theorem QV_cap {L : List Nat} {c : Nat} (hn : n ≤ 4) (hH : ∀ i, i < n → H i ≤ 5) (hcc : cc ≤ 6) (hq : QV n H cc L) (hv : VC n H cc c) (hh : has L c = false) : L.length < 18144 := by
  have := QV_len hn hH hcc (QV_ins (f := 0) hq hv (by omega))
  unfold ins at this
  rw [if_neg (by rw [hh]; decide), List.length_append, List.length_singleton] at this
  omega
end VV
end S34
