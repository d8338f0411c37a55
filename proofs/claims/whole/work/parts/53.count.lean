section S53
/-! counting: sums over ranges, over parts of a set (a row of truths), over rows of choices -/
def ct_sm : Nat → (Nat → Nat) → Nat
  | 0, _ => 0
  | i + 1, f => ct_sm i f + f i
theorem ct_sm_c {f g : Nat → Nat} : ∀ i, (∀ v, v < i → f v = g v) → ct_sm i f = ct_sm i g
  | 0, _ => rfl
  | i + 1, h => by
    show ct_sm i f + f i = ct_sm i g + g i
    rw [ct_sm_c i (fun v hv => h v (by omega)), h i (by omega)]
theorem ct_sm_a (f g : Nat → Nat) : ∀ i, ct_sm i (fun v => f v + g v) = ct_sm i f + ct_sm i g
  | 0 => rfl
  | i + 1 => by
    show ct_sm i (fun v => f v + g v) + (f i + g i) = (ct_sm i f + f i) + (ct_sm i g + g i)
    rw [ct_sm_a f g i]; omega
theorem ct_sm_0 (f : Nat → Nat) : ∀ i, ct_sm (i + 1) f = f 0 + ct_sm i (fun v => f (v + 1))
  | 0 => by show 0 + f 0 = f 0 + 0; omega
  | i + 1 => by
    show ct_sm (i + 1) f + f (i + 1) = f 0 + (ct_sm i (fun v => f (v + 1)) + f (i + 1))
    rw [ct_sm_0 f i]; omega
theorem ct_sm_z : ∀ i, ct_sm i (fun _ => 0) = 0
  | 0 => rfl
  | i + 1 => ct_sm_z i
theorem ct_sm_le {f g : Nat → Nat} (h : ∀ v, f v ≤ g v) : ∀ i, ct_sm i f ≤ ct_sm i g
  | 0 => Nat.le_refl 0
  | i + 1 => Nat.add_le_add (ct_sm_le h i) (h i)
theorem ct_sm_k (c : Nat) : ∀ i, ct_sm i (fun _ => c) = i * c
  | 0 => by rw [Nat.zero_mul]; rfl
  | i + 1 => by
    show ct_sm i (fun _ => c) + c = (i + 1) * c
    rw [ct_sm_k c i, Nat.succ_mul]
theorem ct_sm_ap (f : Nat → Nat) (n : Nat) : ∀ m, ct_sm (n + m) f = ct_sm n f + ct_sm m (fun v => f (n + v))
  | 0 => rfl
  | m + 1 => by
    show ct_sm (n + m) f + f (n + m) = ct_sm n f + (ct_sm m (fun v => f (n + v)) + f (n + m))
    rw [ct_sm_ap f n m]; omega
def ct_ss : List Bool → (List Bool → Nat) → Nat
  | [], f => f []
  | true :: r, f => ct_ss r (fun p => f (false :: p)) + ct_ss r (fun p => f (true :: p))
  | false :: r, f => ct_ss r (fun p => f (false :: p))
theorem ct_sx (i : Nat) : ∀ (x : List Bool) (f : Nat → List Bool → Nat), ct_sm i (fun v => ct_ss x (f v)) = ct_ss x (fun p => ct_sm i (fun v => f v p))
  | [], f => rfl
  | true :: r, f => by
    show ct_sm i (fun v => ct_ss r (fun p => f v (false :: p)) + ct_ss r (fun p => f v (true :: p))) = ct_ss r (fun p => ct_sm i (fun v => f v (false :: p))) + ct_ss r (fun p => ct_sm i (fun v => f v (true :: p)))
    rw [ct_sm_a (fun v => ct_ss r (fun p => f v (false :: p))) (fun v => ct_ss r (fun p => f v (true :: p))), ct_sx i r (fun v p => f v (false :: p)), ct_sx i r (fun v p => f v (true :: p))]
  | false :: r, f => ct_sx i r (fun v p => f v (false :: p))
def ct_sq : List Bool → List Bool → Prop
  | [], [] => True
  | c :: p, b :: x => (c = true → b = true) ∧ ct_sq p x
  | _, _ => False
theorem ct_sq_l : ∀ (p x : List Bool), ct_sq p x → p.length = x.length
  | [], [], _ => rfl
  | c :: p, b :: x, h => congrArg (fun y => y + 1) (ct_sq_l p x h.2)
  | [], _ :: _, h => False.elim h
  | _ :: _, [], h => False.elim h
theorem ct_ss_c : ∀ (x : List Bool) (f g : List Bool → Nat), (∀ p, ct_sq p x → f p = g p) → ct_ss x f = ct_ss x g
  | [], f, g, h => h [] trivial
  | true :: r, f, g, h => by
    have a := ct_ss_c r (fun p => f (false :: p)) (fun p => g (false :: p)) (fun p hp => h (false :: p) (And.intro (fun q => by cases q) hp))
    have b := ct_ss_c r (fun p => f (true :: p)) (fun p => g (true :: p)) (fun p hp => h (true :: p) (And.intro (fun _ => rfl) hp))
    show ct_ss r (fun p => f (false :: p)) + ct_ss r (fun p => f (true :: p)) = ct_ss r (fun p => g (false :: p)) + ct_ss r (fun p => g (true :: p))
    rw [a, b]
  | false :: r, f, g, h => ct_ss_c r (fun p => f (false :: p)) (fun p => g (false :: p)) (fun p hp => h (false :: p) (And.intro (fun q => by cases q) hp))
/-- what is left of a set without a part; a row with d where the part is -/
def ct_df : List Bool → List Bool → List Bool
  | _ :: x, true :: p => false :: ct_df x p
  | b :: x, false :: p => b :: ct_df x p
  | _, _ => []
def ct_ov (d : Nat) : List Bool → List Nat → List Nat
  | true :: p, _ :: a => d :: ct_ov d p a
  | false :: p, v :: a => v :: ct_ov d p a
  | _, _ => []
/-- each of the set a day from 1 to i, the others none -/
def ct_E (i : Nat) : List Bool → (List Nat → Nat) → Nat
  | [], F => F []
  | true :: r, F => ct_sm i (fun v => ct_E i r (fun a => F ((v + 1) :: a)))
  | false :: r, F => ct_E i r (fun a => F (0 :: a))
/-- each of the set a day from 0 to l -/
def ct_N (l : Nat) : List Bool → (List Nat → Nat) → Nat
  | [], F => F []
  | true :: r, F => ct_sm (l + 1) (fun v => ct_N l r (fun a => F (v :: a)))
  | false :: r, F => ct_N l r (fun a => F (0 :: a))
theorem ct_E_s (i : Nat) : ∀ (x : List Bool) (F : List Nat → Nat), ct_E (i + 1) x F = ct_ss x (fun p => ct_E i (ct_df x p) (fun a => F (ct_ov (i + 1) p a)))
  | [], F => rfl
  | true :: r, F => by
    show ct_sm i (fun v => ct_E (i + 1) r (fun a => F ((v + 1) :: a))) + ct_E (i + 1) r (fun a => F ((i + 1) :: a)) = _
    rw [ct_E_s i r (fun a => F ((i + 1) :: a)), ct_sm_c i (fun v _ => ct_E_s i r (fun a => F ((v + 1) :: a))), ct_sx i r (fun v p => ct_E i (ct_df r p) (fun a => F ((v + 1) :: ct_ov (i + 1) p a)))]
    rfl
  | false :: r, F => ct_E_s i r (fun a => F (0 :: a))
theorem ct_N_s (l : Nat) : ∀ (x : List Bool) (F : List Nat → Nat), ct_N l x F = ct_ss x (fun p => ct_E l p F)
  | [], F => rfl
  | true :: r, F => by
    show ct_sm (l + 1) (fun v => ct_N l r (fun a => F (v :: a))) = ct_ss r (fun p => ct_E l p (fun a => F (0 :: a))) + ct_ss r (fun p => ct_sm l (fun v => ct_E l p (fun a => F ((v + 1) :: a))))
    rw [ct_sm_0, ct_N_s l r (fun a => F (0 :: a)), ct_sm_c l (fun v _ => ct_N_s l r (fun a => F ((v + 1) :: a))), ct_sx l r (fun v p => ct_E l p (fun a => F ((v + 1) :: a)))]
  | false :: r, F => ct_N_s l r (fun a => F (0 :: a))
/-- the rows that are told -/
def ct_sp (i : Nat) : List Bool → List Nat → Prop
  | [], [] => True
  | true :: x, v :: a => (1 ≤ v ∧ v ≤ i) ∧ ct_sp i x a
  | false :: x, v :: a => v = 0 ∧ ct_sp i x a
  | _, _ => False
theorem ct_E_c (i : Nat) : ∀ (x : List Bool) (F G : List Nat → Nat), (∀ a, ct_sp i x a → F a = G a) → ct_E i x F = ct_E i x G
  | [], F, G, h => h [] trivial
  | true :: r, F, G, h => ct_sm_c i (fun v hv => ct_E_c i r (fun a => F ((v + 1) :: a)) (fun a => G ((v + 1) :: a)) (fun a ha => h ((v + 1) :: a) (And.intro (And.intro (by omega) (by omega)) ha)))
  | false :: r, F, G, h => ct_E_c i r (fun a => F (0 :: a)) (fun a => G (0 :: a)) (fun a ha => h (0 :: a) (And.intro rfl ha))
theorem ct_E_z (i : Nat) : ∀ (x : List Bool), ct_E i x (fun _ => 0) = 0
  | [] => rfl
  | true :: r => by
    show ct_sm i (fun v => ct_E i r (fun _ => 0)) = 0
    rw [ct_sm_c i (fun v _ => ct_E_z i r)]
    exact ct_sm_z i
  | false :: r => ct_E_z i r
theorem ct_E_le (i : Nat) : ∀ (x : List Bool) (F G : List Nat → Nat), (∀ a, F a ≤ G a) → ct_E i x F ≤ ct_E i x G
  | [], F, G, h => h []
  | true :: r, F, G, h => ct_sm_le (fun v => ct_E_le i r (fun a => F ((v + 1) :: a)) (fun a => G ((v + 1) :: a)) (fun a => h ((v + 1) :: a))) i
  | false :: r, F, G, h => ct_E_le i r (fun a => F (0 :: a)) (fun a => G (0 :: a)) (fun a => h (0 :: a))
theorem ct_E_b (i : Nat) (hi : i ≤ 8) : ∀ (x : List Bool), ct_E i x (fun _ => 1) ≤ 8 ^ x.length
  | [] => Nat.le_refl 1
  | true :: r => by
    show ct_sm i (fun v => ct_E i r (fun _ => 1)) ≤ 8 ^ (r.length + 1)
    rw [ct_sm_k, Nat.pow_succ, Nat.mul_comm]
    exact Nat.mul_le_mul (ct_E_b i hi r) hi
  | false :: r => by
    show ct_E i r (fun _ => 1) ≤ 8 ^ (r.length + 1)
    have := ct_E_b i hi r
    rw [Nat.pow_succ]
    omega
/-- who has d; a set as a number -/
def ct_cw (d : Nat) : List Nat → Nat
  | [] => 0
  | v :: a => (if v = d then 1 else 0) + 2 * ct_cw d a
def ct_bv : List Bool → Nat
  | [] => 0
  | true :: x => 1 + 2 * ct_bv x
  | false :: x => 2 * ct_bv x
/-- the days from 1 to i hold -/
def ct_vl (P : Nat → Nat → Bool) : Nat → List Nat → Bool
  | 0, _ => true
  | i + 1, a => ct_vl P i a && P i (ct_cw (i + 1) a)
theorem ct_cw_o (i d : Nat) (hd : i < d) : ∀ (p x : List Bool) (a : List Nat), ct_sq p x → ct_sp i (ct_df x p) a → ct_cw d (ct_ov d p a) = ct_bv p ∧ (∀ e, 1 ≤ e → e ≤ i → ct_cw e (ct_ov d p a) = ct_cw e a) ∧ ∀ k, (ct_ov d p a).getD k 0 = if p.getD k false = true then d else a.getD k 0
  | [], [], [], _, _ => ⟨rfl, fun _ _ _ => rfl, fun k => rfl⟩
  | [], _ :: _, _, h, _ => False.elim h
  | _ :: _, [], _, h, _ => False.elim h
  | [], [], _ :: _, _, h => False.elim h
  | true :: p, b :: x, [], _, h => False.elim h
  | true :: p, b :: x, v :: a, hq, hs => by
    obtain ⟨s1, s2⟩ := (show v = 0 ∧ ct_sp i (ct_df x p) a from hs)
    obtain ⟨i1, i2, i3⟩ := ct_cw_o i d hd p x a hq.2 s2
    refine ⟨?_, fun e h1 h2 => ?_, fun k => ?_⟩
    · show (if d = d then 1 else 0) + 2 * ct_cw d (ct_ov d p a) = 1 + 2 * ct_bv p
      rw [if_pos rfl, i1]
    · show (if d = e then 1 else 0) + 2 * ct_cw e (ct_ov d p a) = (if v = e then 1 else 0) + 2 * ct_cw e a
      rw [if_neg (by omega), if_neg (by omega), i2 e h1 h2]
    · cases k with
      | zero => rfl
      | succ k => exact i3 k
  | false :: p, b :: x, [], _, h => by
    cases b <;> exact False.elim h
  | false :: p, b :: x, v :: a, hq, hs => by
    have hs2 : v ≤ i ∧ ct_sp i (ct_df x p) a := by
      cases b with
      | true => exact ⟨(show (1 ≤ v ∧ v ≤ i) ∧ ct_sp i (ct_df x p) a from hs).1.2, (show (1 ≤ v ∧ v ≤ i) ∧ ct_sp i (ct_df x p) a from hs).2⟩
      | false =>
        have := (show v = 0 ∧ ct_sp i (ct_df x p) a from hs)
        exact ⟨by omega, this.2⟩
    obtain ⟨s1, s2⟩ := hs2
    obtain ⟨i1, i2, i3⟩ := ct_cw_o i d hd p x a hq.2 s2
    refine ⟨?_, fun e h1 h2 => ?_, fun k => ?_⟩
    · show (if v = d then 1 else 0) + 2 * ct_cw d (ct_ov d p a) = 2 * ct_bv p
      rw [if_neg (by omega), i1]
      omega
    · show (if v = e then 1 else 0) + 2 * ct_cw e (ct_ov d p a) = (if v = e then 1 else 0) + 2 * ct_cw e a
      rw [i2 e h1 h2]
    · cases k with
      | zero => rfl
      | succ k => exact i3 k
theorem ct_vl_o (P : Nat → Nat → Bool) {i : Nat} {p x : List Bool} {a : List Nat} (hq : ct_sq p x) (hs : ct_sp i (ct_df x p) a) : ct_vl P (i + 1) (ct_ov (i + 1) p a) = (ct_vl P i a && P i (ct_bv p)) := by
  obtain ⟨i1, i2, -⟩ := ct_cw_o i (i + 1) (by omega) p x a hq hs
  have key : ∀ j, j ≤ i → ct_vl P j (ct_ov (i + 1) p a) = ct_vl P j a := by
    intro j
    induction j with
    | zero => intro _; rfl
    | succ j ih =>
      intro hj
      show (ct_vl P j (ct_ov (i + 1) p a) && P j (ct_cw (j + 1) (ct_ov (i + 1) p a))) = (ct_vl P j a && P j (ct_cw (j + 1) a))
      rw [ih (by omega), i2 (j + 1) (by omega) (by omega)]
  show (ct_vl P i (ct_ov (i + 1) p a) && P i (ct_cw (i + 1) (ct_ov (i + 1) p a))) = _
  rw [key i (Nat.le_refl i), i1]
/-- in how many ways; in how many of these one has the day e -/
def ct_F (P : Nat → Nat → Bool) (l : Nat) (a : List Nat) : Nat := if ct_vl P l a = true then 1 else 0
def ct_G (P : Nat → Nat → Bool) (k e l : Nat) (a : List Nat) : Nat := if ct_vl P l a = true then (if a.getD k 0 = e then 1 else 0) else 0
def ct_W (P : Nat → Nat → Bool) (i : Nat) (x : List Bool) : Nat := ct_E i x (ct_F P i)
def ct_D (P : Nat → Nat → Bool) (k e i : Nat) (x : List Bool) : Nat := ct_E i x (ct_G P k e i)
theorem ct_GF (P : Nat → Nat → Bool) (k e l : Nat) (a : List Nat) : ct_G P k e l a ≤ ct_F P l a := by
  unfold ct_G ct_F
  split
  · split <;> omega
  · exact Nat.le_refl 0
theorem ct_F1 (P : Nat → Nat → Bool) (l : Nat) (a : List Nat) : ct_F P l a ≤ 1 := by
  unfold ct_F
  split <;> omega
theorem ct_W_b (P : Nat → Nat → Bool) {i : Nat} (hi : i ≤ 8) {x : List Bool} (hx : x.length = 5) : ct_W P i x ≤ 32768 := by
  have a := ct_E_le i x (ct_F P i) (fun _ => 1) (ct_F1 P i)
  have b := ct_E_b i hi x
  rw [hx] at b
  have c : (8 : Nat) ^ 5 = 32768 := by decide
  unfold ct_W
  omega
theorem ct_D_W (P : Nat → Nat → Bool) (k e i : Nat) (x : List Bool) : ct_D P k e i x ≤ ct_W P i x := ct_E_le i x _ _ (ct_GF P k e i)
theorem ct_W_s (P : Nat → Nat → Bool) (i : Nat) (x : List Bool) : ct_W P (i + 1) x = ct_ss x (fun p => if P i (ct_bv p) = true then ct_W P i (ct_df x p) else 0) := by
  unfold ct_W
  rw [ct_E_s]
  refine ct_ss_c x _ _ (fun p hp => ?_)
  by_cases hP : P i (ct_bv p) = true
  · rw [if_pos hP]
    refine ct_E_c i _ _ _ (fun a ha => ?_)
    unfold ct_F
    rw [ct_vl_o P hp ha, hP, Bool.and_true]
  · rw [if_neg hP]
    refine (ct_E_c i _ _ (fun _ => 0) (fun a ha => ?_)).trans (ct_E_z i _)
    unfold ct_F
    rw [Bool.not_eq_true] at hP
    rw [ct_vl_o P hp ha, hP, Bool.and_false, if_neg (by decide)]
theorem ct_D_s (P : Nat → Nat → Bool) (k e i : Nat) (x : List Bool) : ct_D P k e (i + 1) x = ct_ss x (fun p => if P i (ct_bv p) = true then (if p.getD k false = true then (if e = i + 1 then ct_W P i (ct_df x p) else 0) else ct_D P k e i (ct_df x p)) else 0) := by
  unfold ct_D
  rw [ct_E_s]
  refine ct_ss_c x _ _ (fun p hp => ?_)
  by_cases hP : P i (ct_bv p) = true
  · rw [if_pos hP]
    by_cases hk : p.getD k false = true
    · rw [if_pos hk]
      by_cases he : e = i + 1
      · rw [if_pos he]
        refine ct_E_c i _ _ _ (fun a ha => ?_)
        obtain ⟨-, -, i3⟩ := ct_cw_o i (i + 1) (by omega) p x a hp ha
        unfold ct_G ct_F
        rw [ct_vl_o P hp ha, hP, Bool.and_true, i3 k, if_pos hk, if_pos he.symm]
      · rw [if_neg he]
        refine (ct_E_c i _ _ (fun _ => 0) (fun a ha => ?_)).trans (ct_E_z i _)
        obtain ⟨-, -, i3⟩ := ct_cw_o i (i + 1) (by omega) p x a hp ha
        unfold ct_G
        rw [i3 k, if_pos hk, if_neg (c := i + 1 = e) (fun q => he q.symm)]
        split <;> rfl
    · rw [if_neg hk]
      refine ct_E_c i _ _ _ (fun a ha => ?_)
      obtain ⟨-, -, i3⟩ := ct_cw_o i (i + 1) (by omega) p x a hp ha
      unfold ct_G
      rw [ct_vl_o P hp ha, hP, Bool.and_true, i3 k, if_neg hk]
  · rw [if_neg hP]
    refine (ct_E_c i _ _ (fun _ => 0) (fun a ha => ?_)).trans (ct_E_z i _)
    unfold ct_G
    rw [Bool.not_eq_true] at hP
    rw [ct_vl_o P hp ha, hP, Bool.and_false, if_neg (by decide)]
/-- at the beginning -/
theorem ct_E_0 : ∀ (x : List Bool) (F : List Nat → Nat), ct_bv x ≠ 0 → ct_E 0 x F = 0
  | [], F, h => absurd rfl h
  | true :: r, F, h => rfl
  | false :: r, F, h => ct_E_0 r (fun a => F (0 :: a)) (fun q => h (by show 2 * ct_bv r = 0; rw [q]))
/-- all codes -/
def ct_cs (l : Nat) : List Bool → Nat
  | [] => 1
  | true :: r => (l + 1) * ct_cs l r
  | false :: r => ct_cs l r
def ct_as (l : Nat) : List Bool → Nat → List Nat
  | [], _ => []
  | true :: r, c => (c % (l + 1)) :: ct_as l r (c / (l + 1))
  | false :: r, c => 0 :: ct_as l r c
theorem ct_sm_m (n : Nat) (hn : 0 < n) (f : Nat → Nat → Nat) : ∀ m, ct_sm (n * m) (fun c => f (c % n) (c / n)) = ct_sm n (fun r => ct_sm m (fun q => f r q))
  | 0 => by
    rw [Nat.mul_zero]
    exact (ct_sm_z n).symm
  | m + 1 => by
    rw [Nat.mul_succ, ct_sm_ap, ct_sm_m n hn f m]
    have e : ct_sm n (fun v => f ((n * m + v) % n) ((n * m + v) / n)) = ct_sm n (fun v => f v m) := ct_sm_c n (fun v hv => by
      rw [Nat.mul_add_mod, Nat.mod_eq_of_lt hv, Nat.mul_add_div hn, Nat.div_eq_of_lt hv, Nat.add_zero])
    rw [e]
    exact (ct_sm_a (fun r => ct_sm m (fun q => f r q)) (fun r => f r m) n).symm
theorem ct_N_e (l : Nat) : ∀ (x : List Bool) (F : List Nat → Nat), ct_sm (ct_cs l x) (fun c => F (ct_as l x c)) = ct_N l x F
  | [], F => by show 0 + F [] = F []; omega
  | true :: r, F => by
    show ct_sm ((l + 1) * ct_cs l r) (fun c => F ((c % (l + 1)) :: ct_as l r (c / (l + 1)))) = ct_sm (l + 1) (fun v => ct_N l r (fun a => F (v :: a)))
    rw [ct_sm_m (l + 1) (by omega) (fun v q => F (v :: ct_as l r q))]
    exact ct_sm_c (l + 1) (fun v _ => ct_N_e l r (fun a => F (v :: a)))
  | false :: r, F => ct_N_e l r (fun a => F (0 :: a))
theorem ct_cs_b (l : Nat) (hl : l ≤ 7) : ∀ (x : List Bool), 1 ≤ ct_cs l x ∧ ct_cs l x ≤ 8 ^ x.length
  | [] => ⟨Nat.le_refl 1, Nat.le_refl 1⟩
  | true :: r => by
    obtain ⟨a, b⟩ := ct_cs_b l hl r
    show 1 ≤ (l + 1) * ct_cs l r ∧ (l + 1) * ct_cs l r ≤ 8 ^ (r.length + 1)
    rw [Nat.pow_succ, Nat.mul_comm (8 ^ r.length)]
    exact ⟨Nat.mul_le_mul (show 1 ≤ l + 1 by omega) a, Nat.mul_le_mul (by omega) b⟩
  | false :: r => by
    obtain ⟨a, b⟩ := ct_cs_b l hl r
    show 1 ≤ ct_cs l r ∧ ct_cs l r ≤ 8 ^ (r.length + 1)
    rw [Nat.pow_succ]
    omega
/-- sums over a row of numbers -/
def ct_ls : List Nat → (Nat → Nat) → Nat
  | [], _ => 0
  | p :: L, f => f p + ct_ls L f
theorem ct_ls_a (f : Nat → Nat) : ∀ L M, ct_ls (L ++ M) f = ct_ls L f + ct_ls M f
  | [], M => by show ct_ls M f = 0 + ct_ls M f; omega
  | p :: L, M => by
    show f p + ct_ls (L ++ M) f = f p + ct_ls L f + ct_ls M f
    rw [ct_ls_a f L M]; omega
theorem ct_ls_m (f g : Nat → Nat) : ∀ L, ct_ls (L.map g) f = ct_ls L (fun y => f (g y))
  | [] => rfl
  | p :: L => by
    show f (g p) + ct_ls (L.map g) f = f (g p) + ct_ls L (fun y => f (g y))
    rw [ct_ls_m f g L]
theorem ct_ls_p (f : Nat → Nat) {L M : List Nat} (h : L.Perm M) : ct_ls L f = ct_ls M f := by
  induction h with
  | nil => rfl
  | cons x _ ih => show f x + _ = f x + _; rw [ih]
  | swap x y l => show f y + (f x + _) = f x + (f y + _); omega
  | trans _ _ a b => exact a.trans b
def ct_sl : List Bool → List Nat
  | [] => [0]
  | true :: r => (ct_sl r).map (fun y => 2 * y) ++ (ct_sl r).map (fun y => 1 + 2 * y)
  | false :: r => (ct_sl r).map (fun y => 2 * y)
theorem ct_ss_l : ∀ (x : List Bool) (f : Nat → Nat), ct_ss x (fun p => f (ct_bv p)) = ct_ls (ct_sl x) f
  | [], f => rfl
  | true :: r, f => by
    show ct_ss r (fun p => f (2 * ct_bv p)) + ct_ss r (fun p => f (1 + 2 * ct_bv p)) = ct_ls ((ct_sl r).map (fun y => 2 * y) ++ (ct_sl r).map (fun y => 1 + 2 * y)) f
    rw [ct_ls_a, ct_ls_m, ct_ls_m, ct_ss_l r (fun y => f (2 * y)), ct_ss_l r (fun y => f (1 + 2 * y))]
  | false :: r, f => by
    show ct_ss r (fun p => f (2 * ct_bv p)) = ct_ls ((ct_sl r).map (fun y => 2 * y)) f
    rw [ct_ls_m, ct_ss_l r (fun y => f (2 * y))]
def ct_bl (c : Nat) : List Bool := [c.testBit 0, c.testBit 1, c.testBit 2, c.testBit 3, c.testBit 4]
theorem ct_vb : ∀ c : Nat, c < 32 → ct_bv (ct_bl c) = c := by decide +kernel
theorem ct_5 {x : List Bool} (h : x.length = 5) : ∃ a b c d e, x = [a, b, c, d, e] := by
  match x, h with
  | [a, b, c, d, e], _ => exact ⟨a, b, c, d, e, rfl⟩
theorem ct_bw5 : ∀ a b c d e : Bool, ct_bl (ct_bv [a, b, c, d, e]) = [a, b, c, d, e] ∧ ct_bv [a, b, c, d, e] < 32 := by decide +kernel
theorem ct_bw {x : List Bool} (h : x.length = 5) : ct_bl (ct_bv x) = x ∧ ct_bv x < 32 := by
  obtain ⟨a, b, c, d, e, rfl⟩ := ct_5 h
  exact ct_bw5 a b c d e
/-- the parts that the class goes through -/
def ct_dl (x : Nat) : Nat → Nat → List Nat
  | 0, _ => []
  | n + 1, p => if p = 0 then [] else p :: ct_dl x n ((p - 1) &&& x)
theorem ct_dlp : ∀ x : Nat, x < 32 → (ct_dl x x x ++ [0]).isPerm (ct_sl (ct_bl x)) = true := by decide +kernel
theorem ct_kkp : ∀ x : Nat, x < 32 → ((List.range 32).filter (fun c => c &&& x == c)).isPerm (ct_sl (ct_bl x)) = true := by decide +kernel
theorem ct_dls {x : Nat} (hx : x < 32) (f : Nat → Nat) : ct_ls (ct_dl x x x) f + f 0 = ct_ss (ct_bl x) (fun p => f (ct_bv p)) := by
  rw [ct_ss_l, ← ct_ls_p f (List.isPerm_iff.mp (ct_dlp x hx)), ct_ls_a]
  rfl
theorem ct_df_v : ∀ (p x : List Bool), ct_sq p x → ct_bv (ct_df x p) + ct_bv p = ct_bv x
  | [], [], _ => rfl
  | [], _ :: _, h => False.elim h
  | _ :: _, [], h => False.elim h
  | true :: p, b :: x, h => by
    have e := h.1 rfl
    subst e
    have := ct_df_v p x h.2
    show 2 * ct_bv (ct_df x p) + (1 + 2 * ct_bv p) = 1 + 2 * ct_bv x
    omega
  | false :: p, true :: x, h => by
    have := ct_df_v p x h.2
    show 1 + 2 * ct_bv (ct_df x p) + 2 * ct_bv p = 1 + 2 * ct_bv x
    omega
  | false :: p, false :: x, h => by
    have := ct_df_v p x h.2
    show 2 * ct_bv (ct_df x p) + 2 * ct_bv p = 2 * ct_bv x
    omega
theorem ct_df_l : ∀ (p x : List Bool), ct_sq p x → (ct_df x p).length = x.length
  | [], [], _ => rfl
  | [], _ :: _, h => False.elim h
  | _ :: _, [], h => False.elim h
  | true :: p, b :: x, h => congrArg (fun y => y + 1) (ct_df_l p x h.2)
  | false :: p, b :: x, h => congrArg (fun y => y + 1) (ct_df_l p x h.2)
theorem ct_bl_d {p : List Bool} {X : Nat} (hX : X < 32) (h : ct_sq p (ct_bl X)) : ct_bl (X - ct_bv p) = ct_df (ct_bl X) p ∧ ct_bv p < 32 ∧ ct_bv p ≤ X := by
  have a := ct_df_v p (ct_bl X) h
  have b := ct_df_l p (ct_bl X) h
  rw [ct_vb X hX] at a
  have e : X - ct_bv p = ct_bv (ct_df (ct_bl X) p) := by omega
  rw [e]
  exact ⟨(ct_bw b).1, (ct_bw (ct_sq_l p _ h)).2, by omega⟩
end S53
