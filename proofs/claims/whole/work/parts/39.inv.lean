section S39
variable {σ : pS} {M : Nat}
/-- what always holds, after at most M stairs -/
def IVN (σ : pS) (M : Nat) : Prop := ∃ n ps bt sr : Nat, IN σ n ps bt sr ∧ sr ≤ M
theorem IVN_IV (h : IVN σ M) : IV σ := by
  obtain ⟨n, ps, bt, sr, hI, -⟩ := h
  exact ⟨n, ps, bt, sr, hI⟩
theorem IVN_s (h : IVN σ M) : IVN σ (M + 1) := by
  obtain ⟨n, ps, bt, sr, hI, h2⟩ := h
  exact ⟨n, ps, bt, sr, hI, by omega⟩
theorem v_blank (h : IVN σ M) : IVN (f_blank σ).2 (M + 1) := by
  obtain ⟨n, ps, bt, sr, ⟨⟨a1, a2, a3, a4, a5, a6⟩, h2, h3, h4, h5, h6, h7, h8, h9⟩, hM⟩ := h
  exact ⟨n, 0, bt, sr, ⟨⟨a1, a2, a3, rfl, by omega, a6⟩, h2, fun i hi => absurd hi (Nat.not_lt_zero i), h4, h5, h6, h7, h8, h9⟩, by omega⟩
theorem bo_rg (w : Int64) (i : Int32) : rg (bo w i) 0 255 := by
  unfold bo
  rw [pk_and _ (m := 255) 8 (by decide)]
  exact ⟨_, rfl, by omega, by omega⟩
theorem li_in (g : Nat → Int32) : ∀ (d i t m : Nat), t ≤ i → li g d i t = some m → ∀ j, t ≤ j → j < m → i ≤ j ∧ ¬ g j = 0 ∧ ¬ 126 < g j
  | 0, i, t, m, _, e, j, h1, h2 => by cases e; omega
  | d + 1, i, t, m, ht, e, j, h1, h2 => by
    unfold li at e
    split at e
    · cases e
    · rename_i hg
      split at e
      · have := li_in g d (i + 1) t m (by omega) e j h1 h2
        exact ⟨by omega, this.2⟩
      · rename_i hz
        split at e
        · cases e
        · by_cases hj : j = t
          · subst hj
            have : j = i := by omega
            subst this
            exact ⟨by omega, hz, hg⟩
          · have := li_in g d (i + 1) (t + 1) m (by omega) e j (by omega) h2
            exact ⟨by omega, this.2⟩
theorem v_letters {w : Int64} (h : IVN σ M) : IVN (f_letters σ w).2 (M + 1) := by
  have h0 := IVN_s h
  unfold f_letters
  split
  · exact h0
  · rename_i t ht
    split
    · exact h0
    · rename_i h14
      obtain ⟨n, ps, bt, sr, hI, hM⟩ := h
      obtain ⟨-, e2, -⟩ := IN_n hI
      rw [e2] at h14 ⊢
      obtain ⟨⟨a1, a2, a3, a4, a5, a6⟩, h2, h3, h4, h5, h6, h7, h8, h9⟩ := hI
      refine ⟨n, ps + t, bt, sr, ⟨⟨a1, a2, a3, rfl, by omega, a6⟩, h2, fun i hi => ?_, h4, h5, h6, h7, h8, h9⟩, by omega⟩
      show rg (ap (σ 4) ps (fun j => bo w (nI j)) t i) 1 126
      unfold ap
      by_cases hq : ps ≤ i ∧ i < ps + t
      · rw [if_pos hq]
        obtain ⟨-, q1, q2⟩ := li_in _ 8 0 0 t (by omega) ht (i - ps) (by omega) (by omega)
        obtain ⟨m, m1, -, m2⟩ := bo_rg w (nI (i - ps))
        show rg (bo w (nI (i - ps))) 1 126
        rw [m1] at q1 q2 ⊢
        refine ⟨m, rfl, ?_, ?_⟩
        · rcases Nat.eq_zero_or_pos m with r | r
          · subst r; exact absurd rfl q1
          · exact r
        · exact Nat.not_lt.mp (fun r => q2 (nI_lt (a := 126) r (by omega)))
      · rw [if_neg hq]
        exact h3 i (by omega)
theorem ff_all (f : Nat → Int32) : ∀ d i, ff f d i = i + d → ∀ j, i ≤ j → j < i + d → ft j (f j) = true
  | 0, i, _, j, h1, h2 => by omega
  | d + 1, i, e, j, h1, h2 => by
    unfold ff at e
    split at e
    · rename_i hf
      by_cases hj : j = i
      · subst hj; exact hf
      · exact ff_all f d (i + 1) (by omega) j (by omega) (by omega)
    · omega
theorem dg_in {c : Int32} {a b : Nat} (hc : rg c 1 126) (ha : 48 ≤ a) (ha2 : a < 1000) (hb : b < 1000) (h1 : ¬ c < nI a) (h2 : ¬ nI b < c) : rg (c - 48) (a - 48) (b - 48) := by
  obtain ⟨m, rfl, m1, m2⟩ := hc
  have k1 : a ≤ m := Nat.not_lt.mp (fun q => h1 (nI_lt q (by omega)))
  have k2 : m ≤ b := Nat.not_lt.mp (fun q => h2 (nI_lt q (by omega)))
  exact ⟨m - 48, pk_sub (a := m) (b := 48) (by omega), by omega, by omega⟩
theorem v_stair (hMs : M < 1000000) (h : IVN σ M) : IVN (f_stair σ).2 (M + 1) := by
  have h0 := IVN_s h
  unfold f_stair
  split
  · rename_i hw
    obtain ⟨n, ps, bt, sr, hI, hM⟩ := h
    obtain ⟨-, e2, -⟩ := IN_n hI
    rw [e2] at hw ⊢
    obtain ⟨⟨a1, a2, a3, a4, a5, a6, a7, a8, a9, a10, a11⟩, h2, h3, h4, h5, h6, h7, h8, ks, kb, k1, k2, k3, k4, k5⟩ := hI
    have h11 : ps ≤ 11 := by
      rcases ff_11 (σ 4) ps 0 (by omega) with q | q <;> omega
    have hall := ff_all (σ 4) ps 0 (by omega)
    have hN : 2 ≤ (ps + 1) / 3 ∧ (ps + 1) / 3 ≤ 4 := by omega
    generalize hNe : (ps + 1) / 3 = N at *
    have hH : ∀ i, i < N → rg (rd (σ 1) (σ 4) 0 N i) 1 5 := by
      intro i hi
      unfold rd
      rw [if_pos hi]
      have hf := hall (3 * i + 0) (by omega) (by omega)
      unfold ft at hf
      rw [if_neg (by omega), if_pos (by omega)] at hf
      by_cases q1 : σ 4 (3 * i + 0) < 49
      · rw [if_pos q1] at hf; cases hf
      · rw [if_neg q1] at hf
        by_cases q2 : 53 < σ 4 (3 * i + 0)
        · rw [if_pos q2] at hf; cases hf
        · exact dg_in (a := 49) (b := 53) (h3 _ (by omega)) (by omega) (by omega) (by omega) q1 q2
    have hL : ∀ i, i < N → rg (rd (σ 2) (σ 4) 1 N i) 0 5 := by
      intro i hi
      unfold rd
      rw [if_pos hi]
      have hf := hall (3 * i + 1) (by omega) (by omega)
      unfold ft at hf
      rw [if_neg (by omega), if_neg (by omega), if_pos (by omega)] at hf
      by_cases q1 : σ 4 (3 * i + 1) < 48
      · rw [if_pos q1] at hf; cases hf
      · rw [if_neg q1] at hf
        by_cases q2 : 53 < σ 4 (3 * i + 1)
        · rw [if_pos q2] at hf; cases hf
        · exact dg_in (a := 48) (b := 53) (h3 _ (by omega)) (by omega) (by omega) (by omega) q1 q2
    refine ⟨N, 0, 0, sr + 1, ⟨⟨rfl, by omega, by omega, rfl, by omega, rfl, by omega, by omega, ?_, by omega, by omega⟩, fun i hi => ⟨hH i hi, hL i hi⟩, fun i hi => absurd hi (Nat.not_lt_zero i), fun i hi => absurd hi (Nat.not_lt_zero i), ⟨fun i hi => ?_, fun _ => ?_, fun i q1 q2 => ?_⟩, fun i hi => absurd hi (Nat.not_lt_zero i), ⟨0, 0, rfl, by omega, by omega, rfl, by omega, by omega, ⟨0, rfl, by omega, by omega⟩, fun i hi => absurd hi (Nat.not_lt_zero i)⟩, h8, ks, kb, k1, by omega, k3, k4, fun q => by omega⟩, by omega⟩
    · show σ 0 4 + 1 = nI (sr + 1)
      rw [a9, nI_1]
    · show ∃ m H : Nat, upd (fi (σ 3) 0 4) 0 (rd (σ 1) (σ 4) 0 N 0) i = nI m ∧ rd (σ 1) (σ 4) 0 N i = nI H ∧ m ≤ H ∧ H ≤ 5
      obtain ⟨H, q1, q2, q3⟩ := hH i hi
      by_cases hi0 : i = 0
      · subst hi0
        exact ⟨H, H, by rw [pk_us]; exact q1, q1, Nat.le_refl _, q3⟩
      · refine ⟨0, H, ?_, q1, by omega, q3⟩
        rw [pk_un hi0]
        unfold fi
        rw [if_pos (by omega)]
        rfl
    · show upd (fi (σ 3) 0 4) 0 (rd (σ 1) (σ 4) 0 N 0) 0 = rd (σ 1) (σ 4) 0 N 0
      exact pk_us
    · show upd (fi (σ 3) 0 4) 0 (rd (σ 1) (σ 4) 0 N 0) i = 0
      rw [pk_un (by omega)]
      unfold fi
      rw [if_pos q2]
  · exact h0
theorem v_boat {k d c : Int32} (h : IVN σ M) : IVN (f_boat σ k d c).2 (M + 1) := by
  have h0 := IVN_s h
  unfold f_boat
  by_cases k0 : k < 0
  · simp only [k0, if_true]; exact h0
  by_cases k4 : 4 < k
  · simp only [k0, k4, if_true, if_false]; exact h0
  by_cases d0 : d < 0
  · simp only [k0, k4, d0, if_true, if_false]; exact h0
  by_cases d5 : 5 < d
  · simp only [k0, k4, d0, d5, if_true, if_false]; exact h0
  by_cases hc : ic k c = true
  · by_cases h2 : σ 0 0 = 0
    · simp only [k0, k4, d0, d5, hc, h2, if_true, if_false]; exact h0
    by_cases h3 : σ 0 2 < 5
    · simp only [k0, k4, d0, d5, hc, h2, h3, if_true, if_false]
      obtain ⟨n, ps, bt, sr, hI, hM⟩ := h
      obtain ⟨-, -, e3⟩ := IN_n hI
      rw [e3]
      obtain ⟨⟨a1, a2, a3, a4, a5, a6, a7, a8, a9, a10, a11⟩, g2, g3, g4, g5, g6, g7, g8, ks, kb, y1, y2, y3, y4, y5⟩ := hI
      have hb5 : bt < 5 := by
        rw [a6] at h3
        exact (nI_ltI (a := bt) (b := 5) (by omega) (by omega)).mp h3
      have hn0 : n ≠ 0 := by
        rintro rfl
        exact h2 a1
      have rk : rg k 0 4 := by
        obtain ⟨m, hm31, rfl⟩ := nI_of k0
        exact ⟨m, rfl, by omega, Nat.not_lt.mp (fun q => k4 (nI_lt (a := 4) q (by omega)))⟩
      have rd5 : rg d 0 5 := by
        obtain ⟨m, hm31, rfl⟩ := nI_of d0
        exact ⟨m, rfl, by omega, Nat.not_lt.mp (fun q => d5 (nI_lt (a := 5) q (by omega)))⟩
      have rc : rg c 0 3 := by
        unfold ic at hc
        by_cases k3 : k < 3
        · rw [if_pos k3] at hc
          exact ⟨0, of_decide_eq_true hc, by omega, by omega⟩
        · rw [if_neg k3] at hc
          by_cases c1 : c < 1
          · rw [if_pos c1] at hc; cases hc
          · rw [if_neg c1] at hc
            by_cases c3 : 3 < c
            · rw [if_pos c3] at hc; cases hc
            · obtain ⟨m, hm31, rfl⟩ := nI_of (x := c) (fun q => c1 (Int32.lt_trans q (by decide)))
              exact ⟨m, rfl, by omega, Nat.not_lt.mp (fun q => c3 (nI_lt (a := 3) q (by omega)))⟩
      have hbc : ∃ cc : Nat, bc (kc k) c = nI cc ∧ cc ≤ 6 := by
        obtain ⟨a, rfl, -, ha⟩ := rk
        obtain ⟨b, rfl, -, hb⟩ := rc
        have : ∀ a : Nat, a ≤ 4 → ∀ b : Nat, b ≤ 3 → ∃ m : Nat, m ≤ 6 ∧ bc (kc (nI a)) (nI b) = nI m := by decide +kernel
        obtain ⟨m, m1, m2⟩ := this a ha b hb
        exact ⟨m, m2, m1⟩
      refine ⟨n, ps, bt + 1, sr, ⟨⟨a1, a2, a3, a4, a5, ?_, by omega, by omega, a9, a10, a11⟩, g2, g3, fun i hi => ?_, g5, fun i hi => ?_, g7, g8, ks, kb, y1, y2, y3, y4, fun q1 q2 => ?_⟩, by omega⟩
      · show σ 0 2 + 1 = nI (bt + 1)
        rw [a6, nI_1]
      · show rg (upd (σ 5) bt k i) 0 4 ∧ rg (upd (σ 6) bt d i) 0 5 ∧ rg (upd (σ 7) bt c i) 0 3
        by_cases hib : i = bt
        · subst hib
          rw [pk_us, pk_us, pk_us]
          exact ⟨rk, rd5, rc⟩
        · rw [pk_un hib, pk_un hib, pk_un hib]
          exact g4 i (by omega)
      · show (∃ m : Nat, upd (σ 8) bt 0 i = nI m ∧ m < n) ∧ ∃ m cc : Nat, upd (σ 9) bt 0 i = nI m ∧ bc (kc (upd (σ 5) bt k i)) (upd (σ 7) bt c i) = nI cc ∧ m ≤ cc ∧ cc ≤ 6
        by_cases hib : i = bt
        · subst hib
          rw [pk_us, pk_us, pk_us, pk_us]
          obtain ⟨cc, q1, q2⟩ := hbc
          exact ⟨⟨0, rfl, by omega⟩, 0, cc, rfl, q1, by omega, q2⟩
        · rw [pk_un hib, pk_un hib, pk_un hib, pk_un hib]
          exact g6 i (by omega)
      · obtain ⟨z1, z2, z3, z4⟩ := y5 q1 q2
        refine ⟨by omega, z2, fun i hi => ?_, z4⟩
        show (∃ m : Nat, σ 12 i = nI m ∧ m < n) ∧ ∃ m cc : Nat, σ 13 i = nI m ∧ bc (kc (upd (σ 5) bt k i)) (upd (σ 7) bt c i) = nI cc ∧ m ≤ cc ∧ cc ≤ 6
        rw [pk_un (show i ≠ bt by omega), pk_un (show i ≠ bt by omega)]
        exact z3 i hi
    · simp only [k0, k4, d0, d5, hc, h2, h3, if_true, if_false]; exact h0
  · simp only [k0, k4, d0, d5, hc, if_true, if_false]; exact h0
/-- another water, another place and load of one boat -/
theorem v_ws {w : Nat → Int32} {j : Nat} {pl ld : Int32} (h : IVN σ M) (hw : INw σ (nn σ) w) (hj : j < nt σ) (hp : ∃ m : Nat, pl = nI m ∧ m < nn σ) (hl : ∃ m c : Nat, ld = nI m ∧ ca σ j = nI c ∧ m ≤ c ∧ c ≤ 6) : IVN (sb (s1 σ 3 w) j pl ld) (M + 1) := by
  obtain ⟨n, ps, bt, sr, hI, hM⟩ := h
  obtain ⟨e1, -, e3⟩ := IN_n hI
  rw [e1] at hw hp
  rw [e3] at hj
  obtain ⟨h1, h2, h3, h4, h5, h6, h7, h8, h9⟩ := hI
  refine ⟨n, ps, bt, sr, ⟨h1, h2, h3, h4, hw, fun i hi => ?_, h7, h8, h9⟩, by omega⟩
  show (∃ m : Nat, upd (σ 8) j pl i = nI m ∧ m < n) ∧ ∃ m c : Nat, upd (σ 9) j ld i = nI m ∧ bc (kc (σ 5 i)) (σ 7 i) = nI c ∧ m ≤ c ∧ c ≤ 6
  by_cases hij : i = j
  · subst hij
    rw [pk_us, pk_us]
    exact ⟨hp, hl⟩
  · rw [pk_un hij, pk_un hij]
    exact h6 i hi
theorem s1_id (σ : pS) (k : Nat) : s1 σ k (σ k) = σ := by
  funext j
  rw [s1_if]
  by_cases hj : j = k
  · subst hj; rw [if_pos rfl]
  · rw [if_neg hj]
theorem w_now (h : IVN σ M) : INw σ (nn σ) (σ 3) := by
  obtain ⟨n, ps, bt, sr, hI, hM⟩ := h
  obtain ⟨e1, -, -⟩ := IN_n hI
  rw [e1]
  exact hI.2.2.2.2.1
theorem v_rise {b : Int32} (h : IVN σ M) : IVN (f_rise σ b).2 (M + 1) := by
  have h0 := IVN_s h
  have hI := IVN_IV h
  unfold f_rise
  by_cases b0 : b < 0
  · simp only [b0, if_true]; exact h0
  by_cases b1 : b < σ 0 2
  · obtain ⟨j, hj1, hj2, hj3, -⟩ := bt_in hI b0 b1
    obtain ⟨n, m, q1, q2, q3, q4, q5, q6, l, c, q7, q8, q9, q10⟩ := pl_in hI hj3
    have hnn : nn σ = n := by unfold nn; rw [q1]; exact nI_c (by omega)
    simp only [b0, b1, if_true, if_false, hj2, q6, hnn]
    split
    · exact h0
    · split
      · rename_i hlt
        split
        · exact h0
        · have := v_ws (w := σ 3) (pl := σ 8 j + 1) (ld := σ 9 j) h (w_now h) hj3 ⟨m + 1, by rw [q4, nI_1], by omega⟩ ⟨l, c, q7, q8, q9, q10⟩
          rw [s1_id] at this
          exact this
      · exact h0
  · simp only [b0, b1, if_true, if_false]; exact h0
theorem v_down {b : Int32} (h : IVN σ M) : IVN (f_down σ b).2 (M + 1) := by
  have h0 := IVN_s h
  have hI := IVN_IV h
  unfold f_down
  by_cases b0 : b < 0
  · simp only [b0, if_true]; exact h0
  by_cases b1 : b < σ 0 2
  · obtain ⟨j, hj1, hj2, hj3, -⟩ := bt_in hI b0 b1
    obtain ⟨n, m, q1, q2, q3, q4, q5, q6, l, c, q7, q8, q9, q10⟩ := pl_in hI hj3
    have hnn : nn σ = n := by unfold nn; rw [q1]; exact nI_c (by omega)
    simp only [b0, b1, if_true, if_false, hj2]
    split
    · exact h0
    · split
      · exact h0
      · have := v_ws (w := σ 3) (pl := 0) (ld := σ 9 j) h (w_now h) hj3 ⟨0, rfl, by omega⟩ ⟨l, c, q7, q8, q9, q10⟩
        rw [s1_id] at this
        exact this
  · simp only [b0, b1, if_true, if_false]; exact h0
theorem v_take {b k : Int32} (h : IVN σ M) : IVN (f_take σ b k).2 (M + 1) := by
  have h0 := IVN_s h
  have hI := IVN_IV h
  unfold f_take
  by_cases b0 : b < 0
  · simp only [b0, if_true]; exact h0
  by_cases b1 : b < σ 0 2
  · obtain ⟨j, hj1, hj2, hj3, -⟩ := bt_in hI b0 b1
    obtain ⟨n, m, q1, q2, q3, q4, q5, q6, l, c, q7, q8, q9, q10⟩ := pl_in hI hj3
    have hnn : nn σ = n := by unfold nn; rw [q1]; exact nI_c (by omega)
    simp only [b0, b1, if_true, if_false, hj2, q6]
    by_cases k1 : k < 1
    · simp only [k1, if_true]; exact h0
    by_cases k6 : 6 < k
    · simp only [k1, k6, if_true, if_false]; exact h0
    by_cases w1 : σ 3 m < k
    · simp only [k1, k6, w1, if_true, if_false]; exact h0
    by_cases w2 : ca σ j < σ 9 j + k
    · simp only [k1, k6, w1, w2, if_true, if_false]; exact h0
    simp only [k1, k6, w1, w2, if_true, if_false]
    obtain ⟨kk, hkk, rfl⟩ := nI_of (x := k) (fun q => k1 (Int32.lt_trans q (by decide)))
    have hk6 : kk ≤ 6 := Nat.not_lt.mp (fun q => k6 (nI_lt (a := 6) q (by omega)))
    have hwn := w_now h
    rw [hnn] at hwn
    obtain ⟨x, H, x1, x2, x3, x4⟩ := hwn.1 m q5
    have hkx : kk ≤ x := by
      rw [x1] at w1
      exact Nat.not_lt.mp (fun q => w1 (nI_lt q (by omega)))
    rw [q7, q8, nI_add] at w2
    have hlc : l + kk ≤ c := Nat.not_lt.mp (fun q => w2 (nI_lt q (by omega)))
    refine v_ws h ?_ hj3 ⟨m, q4, by omega⟩ ⟨l + kk, c, by rw [q7, nI_add], q8, hlc, q10⟩
    rw [hnn]
    unfold wt
    by_cases hm0 : m = 0
    · rw [if_pos hm0]; exact hwn
    · rw [if_neg hm0]
      refine ⟨fun i hi => ?_, fun hn1 => ?_, fun i h1 h2 => ?_⟩
      · by_cases him : i = m
        · subst him
          refine ⟨x - kk, H, ?_, x2, by omega, x4⟩
          rw [pk_us, x1, pk_sub hkx]
        · rw [pk_un him]; exact hwn.1 i hi
      · rw [pk_un (fun q => hm0 q.symm)]; exact hwn.2.1 hn1
      · rw [pk_un (by omega)]; exact hwn.2.2 i h1 h2
  · simp only [b0, b1, if_true, if_false]; exact h0
/-- pouring keeps the water within bounds -/
theorem INw_pw {n i k : Nat} {w : Nat → Int32} (hn : n ≤ 4) (hi : i < n) (hk : k < 100) (hw : INw σ n w) : INw σ n (pw (σ 1) w i (nI k)).1 := by
  obtain ⟨h1, h2, h3⟩ := hw
  have hx : ∀ j, j < 4 → w j = nI (w j).toNatClampNeg := by
    intro j hj
    by_cases hjn : j < n
    · obtain ⟨m, H, q1, q2, q3, q4⟩ := h1 j hjn
      rw [q1, nI_c (a := m) (by omega)]
    · rw [h3 j (by omega) hj]; rfl
  have hH : ∀ j, j < n → ∃ m H : Nat, w j = nI m ∧ σ 1 j = nI H ∧ m ≤ H ∧ H ≤ 5 ∧ (w j).toNatClampNeg = m ∧ (σ 1 j).toNatClampNeg = H := by
    intro j hj
    obtain ⟨m, H, q1, q2, q3, q4⟩ := h1 j hj
    exact ⟨m, H, q1, q2, q3, q4, by rw [q1, nI_c (a := m) (by omega)], by rw [q2, nI_c (a := H) (by omega)]⟩
  have hq := pw_q (fun j => (σ 1 j).toNatClampNeg) (σ 1) i w (fun j => (w j).toNatClampNeg) k (by omega) hk (fun j q1 q2 => by
    obtain ⟨m, H, r1, r2, r3, r4, r5, r6⟩ := hH j (by omega)
    show σ 1 j = nI ((σ 1 j).toNatClampNeg) ∧ (w j).toNatClampNeg ≤ (σ 1 j).toNatClampNeg ∧ (σ 1 j).toNatClampNeg ≤ 5
    rw [r5, r6]
    exact ⟨r2, r3, r4⟩) (fun j hj => hx j hj)
  obtain ⟨p1, p2⟩ := qN_in (fun j => (σ 1 j).toNatClampNeg) i (fun j => (w j).toNatClampNeg) k (fun j q1 q2 => by
    obtain ⟨m, H, r1, r2, r3, r4, r5, r6⟩ := hH j (by omega)
    show (w j).toNatClampNeg ≤ (σ 1 j).toNatClampNeg
    rw [r5, r6]
    exact r3)
  refine ⟨fun j hj => ?_, fun hn1 => ?_, fun j q1 q2 => ?_⟩
  · obtain ⟨m, H, r1, r2, r3, r4, r5, r6⟩ := hH j hj
    refine ⟨_, H, hq j (by omega), r2, ?_, r4⟩
    by_cases hji : 1 ≤ j ∧ j ≤ i
    · have := p1 j hji.1 hji.2
      omega
    · rw [p2 j (by omega)]
      omega
  · rw [pw_0]; exact h2 hn1
  · rw [hq j q2, p2 j (by omega), h3 j q1 q2]
    rfl
theorem INw_lk {n : Nat} {w : Nat → Int32} (hw : INw σ n w) (hL : ∀ i, i < n → rg (σ 2 i) 0 5) : INw σ n (lk (σ 2) w n) := by
  obtain ⟨h1, h2, h3⟩ := hw
  refine ⟨fun j hj => ?_, fun hn1 => ?_, fun j q1 q2 => ?_⟩
  · obtain ⟨m, H, q1, q2, q3, q4⟩ := h1 j hj
    obtain ⟨l, l1, -, l2⟩ := hL j hj
    unfold lk
    by_cases hj0 : 1 ≤ j ∧ j < n
    · rw [if_pos hj0]
      refine ⟨min m m - l, H, ?_, q2, by omega, q4⟩
      have := mm_n (v := m) (H := m) (L := l) (by omega) (by omega) (by omega)
      rw [← this, q1, l1]
      congr 1
      unfold mn
      rw [if_neg (nI_nlt (Nat.le_refl m) (by omega))]
    · rw [if_neg hj0]
      exact ⟨m, H, q1, q2, q3, q4⟩
  · rw [lk_00]; exact h2 hn1
  · unfold lk
    rw [if_neg (by omega)]
    exact h3 j q1 q2
theorem v_pour {b k : Int32} (h : IVN σ M) : IVN (f_pour σ b k).2 (M + 1) := by
  have h0 := IVN_s h
  have hI := IVN_IV h
  unfold f_pour
  by_cases b0 : b < 0
  · simp only [b0, if_true]; exact h0
  by_cases b1 : b < σ 0 2
  · obtain ⟨j, hj1, hj2, hj3, -⟩ := bt_in hI b0 b1
    obtain ⟨n, m, q1, q2, q3, q4, q5, q6, l, c, q7, q8, q9, q10⟩ := pl_in hI hj3
    have hnn : nn σ = n := by unfold nn; rw [q1]; exact nI_c (by omega)
    simp only [b0, b1, if_true, if_false, hj2, q6]
    by_cases k1 : k < 0
    · simp only [k1, if_true]; exact h0
    by_cases k6 : 1 < k
    · simp only [k1, k6, if_true, if_false]; exact h0
    by_cases w1 : σ 9 j < 1
    · simp only [k1, k6, w1, if_true, if_false]; exact h0
    by_cases w2 : m + k.toNatClampNeg < nn σ
    · simp only [k1, k6, w1, w2, if_true, if_false]
      refine v_ws h ?_ hj3 ⟨m, q4, by omega⟩ ⟨0, c, rfl, q8, by omega, q10⟩
      rw [q7]
      exact INw_pw (by omega) w2 (by omega) (w_now h)
    · simp only [k1, k6, w1, w2, if_true, if_false]; exact h0
  · simp only [b0, b1, if_true, if_false]; exact h0
theorem v_day {r : Int32} (h : IVN σ M) : IVN (f_day σ r).2 (M + 1) := by
  have h0 := IVN_s h
  unfold f_day
  by_cases r0 : r < 0
  · simp only [r0, if_true]; exact h0
  by_cases r9 : 9 < r
  · simp only [r0, r9, if_true, if_false]; exact h0
  by_cases h2 : σ 0 0 = 0
  · simp only [r0, r9, h2, if_true, if_false]; exact h0
  simp only [r0, r9, h2, if_true, if_false]
  have hwn := w_now h
  obtain ⟨n, ps, bt, sr, hI, hM⟩ := h
  obtain ⟨e1, -, -⟩ := IN_n hI
  rw [e1] at hwn ⊢
  obtain ⟨⟨a1, a2, a3, a4⟩, g2, g3, g4, g5, g6, g7, g8, g9⟩ := hI
  have hn : 2 ≤ n := by
    rcases a2 with rfl | q
    · exact absurd a1 h2
    · exact q
  obtain ⟨rr, hrr, rfl⟩ := nI_of r0
  have hr9 : rr ≤ 9 := Nat.not_lt.mp (fun q => r9 (nI_lt (a := 9) q (by omega)))
  have hw2 := INw_lk (INw_pw (k := rr) (i := n - 1) a3 (by omega) (by omega) hwn) (fun i hi => (g2 i hi).2)
  exact ⟨n, ps, bt, sr, ⟨⟨a1, a2, a3, a4⟩, g2, g3, g4, hw2, g6, g7, g8, g9⟩, by omega⟩
theorem v_fewest {b c k : Int32} (h : IVN σ M) : IVN (f_fewest σ b c k).2 (M + 1) := by
  have h0 := IVN_s h
  unfold f_fewest
  repeat' split
  all_goals first | exact h0 | skip
  all_goals
    have h40 : σ 0 5 < 40 := by assumption
    obtain ⟨n, ps, bt, sr, ⟨g1, g2, g3, g4, g5, g6, g7, ⟨m, q1, -, q2⟩, g9⟩, hM⟩ := h
    refine ⟨n, ps, bt, sr, ⟨g1, g2, g3, g4, g5, g6, g7, ?_, g9⟩, by omega⟩
    show rg (σ 0 5 + 1) 0 40
    rw [q1] at h40 ⊢
    have := (nI_ltI (a := m) (b := 40) (by omega) (by omega)).mp h40
    exact ⟨m + 1, nI_1 m, by omega, by omega⟩
theorem v_mud {b k : Int32} (h : IVN σ M) : IVN (f_mud σ b k).2 (M + 1) := by
  have h0 := IVN_s h
  unfold f_mud
  by_cases hb : b = 0
  · simp only [hb, if_true]; exact h0
  by_cases b0 : b < 0
  · simp only [hb, b0, if_true, if_false]; exact h0
  by_cases b1 : b < σ 0 0
  · by_cases k0 : k < 0
    · simp only [hb, b0, b1, k0, if_true, if_false]; exact h0
    by_cases k1 : σ 1 b.toNatClampNeg < k
    · simp only [hb, b0, b1, k0, k1, if_true, if_false]; exact h0
    simp only [hb, b0, b1, k0, k1, if_true, if_false]
    obtain ⟨n, ps, bt, sr, ⟨⟨a1, a2, a3, a4⟩, g2, g3, g4, g5, g6, g7, g8, g9⟩, hM⟩ := h
    obtain ⟨bb, hbb, rfl⟩ := nI_of b0
    rw [a1] at b1
    have hbn : bb < n := (nI_ltI (by omega) (by omega)).mp b1
    obtain ⟨H, q1, q2, q3⟩ := (g2 bb hbn).1
    rw [nI_c (a := bb) (by omega), q1] at k1
    obtain ⟨kk, hkk, rfl⟩ := nI_of k0
    have hk : kk ≤ H := Nat.not_lt.mp (fun q => k1 (nI_lt q (by omega)))
    refine ⟨n, ps, bt, sr, ⟨⟨a1, a2, a3, a4⟩, g2, g3, g4, g5, g6, ⟨bb, 0, rfl, by omega, by omega, rfl, by omega, fun _ => rfl, ⟨kk, rfl, by omega, by omega⟩, fun i hi => absurd hi (Nat.not_lt_zero i)⟩, g8, g9⟩, by omega⟩
  · simp only [hb, b0, b1, if_true, if_false]; exact h0
theorem v_line {k : Int32} (h : IVN σ M) : IVN (f_line σ k).2 (M + 1) := by
  have h0 := IVN_s h
  unfold f_line
  by_cases hb : 0 < σ 0 6
  · by_cases k0 : k < 0
    · simp only [hb, k0, if_true, if_false]; exact h0
    by_cases k5 : 5 < k
    · simp only [hb, k0, k5, if_true, if_false]; exact h0
    by_cases h7 : σ 0 8 < 7
    · simp only [hb, k0, k5, h7, if_true, if_false]
      obtain ⟨n, ps, bt, sr, ⟨g1, g2, g3, g4, g5, g6, ⟨b, l, m1, m2, m3, m4, m5, m6, m7, m8⟩, g8, g9⟩, hM⟩ := h
      have hb0 : b ≠ 0 := by
        rintro rfl
        rw [m1] at hb
        exact absurd hb (by decide)
      rw [m4] at h7
      have hl : l < 7 := (nI_ltI (a := l) (b := 7) (by omega) (by omega)).mp h7
      obtain ⟨kk, hkk, rfl⟩ := nI_of k0
      have hk : kk ≤ 5 := Nat.not_lt.mp (fun q => k5 (nI_lt (a := 5) q (by omega)))
      refine ⟨n, ps, bt, sr, ⟨g1, g2, g3, g4, g5, g6, ⟨b, l + 1, m1, m2, m3, ?_, by omega, fun q => absurd q hb0, m7, fun i hi => ?_⟩, g8, g9⟩, by omega⟩
      · show σ 0 8 + 1 = nI (l + 1)
        rw [m4, nI_1]
      · show rg (upd (σ 10) (σ 0 8).toNatClampNeg (nI kk) i) 0 5
        rw [m4, nI_c (a := l) (by omega)]
        by_cases hil : i = l
        · subst hil; rw [pk_us]; exact ⟨kk, rfl, by omega, hk⟩
        · rw [pk_un hil]; exact m8 i (by omega)
    · simp only [hb, k0, k5, h7, if_true, if_false]; exact h0
  · simp only [hb, if_false]; exact h0
theorem v_image (h : IVN σ M) : IVN (f_image σ).2 (M + 1) := by
  have h0 := IVN_s h
  unfold f_image
  by_cases h2 : σ 0 0 = 0
  · simp only [h2, if_true]; exact h0
  · simp only [h2, if_false]
    obtain ⟨n, ps, bt, sr, hI, hM⟩ := h
    obtain ⟨-, -, e3⟩ := IN_n hI
    rw [e3]
    obtain ⟨⟨a1, a2, a3, a4, a5, a6, a7, a8, a9, a10, a11⟩, g2, g3, g4, g5, g6, g7, g8, g9⟩ := hI
    refine ⟨n, ps, bt, sr, ⟨⟨a1, a2, a3, a4, a5, a6, a7, a8, a9, a10, a11⟩, g2, g3, g4, g5, g6, g7, g8, sr, bt, a9, Nat.le_refl _, a6, a7, fun _ _ => ⟨Nat.le_refl _, ?_, ?_, ?_⟩⟩, by omega⟩
    · obtain ⟨w1, w2, w3⟩ := g5
      refine ⟨fun i hi => ?_, fun hn => ?_, fun i q1 q2 => ?_⟩
      · show ∃ m H : Nat, jn (σ 3) (σ 11) 4 i = nI m ∧ σ 1 i = nI H ∧ m ≤ H ∧ H ≤ 5
        unfold jn
        rw [if_pos (by omega)]
        exact w1 i hi
      · show jn (σ 3) (σ 11) 4 0 = σ 1 0
        unfold jn
        rw [if_pos (by omega)]
        exact w2 hn
      · show jn (σ 3) (σ 11) 4 i = 0
        unfold jn
        rw [if_pos q2]
        exact w3 i q1 q2
    · intro i hi
      show (∃ m : Nat, jn (σ 8) (σ 12) bt i = nI m ∧ m < n) ∧ ∃ m c : Nat, jn (σ 9) (σ 13) bt i = nI m ∧ bc (kc (σ 5 i)) (σ 7 i) = nI c ∧ m ≤ c ∧ c ≤ 6
      unfold jn
      rw [if_pos hi, if_pos hi]
      exact g6 i hi
    · obtain ⟨b, l, m1, m2, m3, m4, m5, m6, m7, m8⟩ := g7
      refine ⟨b, l, m1, m2, m3, m4, m5, m6, m7, fun i hi => ?_⟩
      show rg (jn (σ 10) (σ 14) 7 i) 0 5
      unfold jn
      rw [if_pos (by omega)]
      exact m8 i hi
theorem v_restore (h : IVN σ M) : IVN (f_restore σ).2 (M + 1) := by
  have h0 := IVN_s h
  unfold f_restore
  by_cases h9 : σ 0 9 = 0
  · simp only [h9, if_true]; exact h0
  by_cases h4 : σ 0 9 = σ 0 4
  · rw [if_neg h9, if_pos h4]
    obtain ⟨n, ps, bt, sr, ⟨⟨a1, a2, a3, a4, a5, a6, a7, a8, a9, a10, a11⟩, g2, g3, g4, g5, g6, g7, g8, ks, kb, y1, y2, y3, y4, y5⟩, hM⟩ := h
    have hks : ks = sr := by
      rw [y1, a9] at h4
      exact (nI_eq (by omega) (by omega)).mp h4
    have hk0 : 0 < ks := by
      rcases Nat.eq_zero_or_pos ks with q | q
      · subst q; exact absurd y1 h9
      · exact q
    obtain ⟨z1, z2, z3, z4⟩ := y5 hks hk0
    rw [y3, nI_c (a := kb) (by omega)]
    have hw : ∀ τ : pS, τ 1 = σ 1 → INw τ n (jn (σ 11) (σ 3) 4) := by
      intro τ ht
      obtain ⟨w1, w2, w3⟩ := z2
      refine ⟨fun i hi => ?_, fun hn => ?_, fun i q1 q2 => ?_⟩
      · unfold jn
        rw [if_pos (by omega), ht]
        exact w1 i hi
      · unfold jn
        rw [if_pos (by omega), ht]
        exact w2 hn
      · unfold jn
        rw [if_pos q2]
        exact w3 i q1 q2
    refine ⟨n, ps, kb, sr, ⟨⟨a1, a2, a3, a4, a5, rfl, by omega, by omega, a9, a10, a11⟩, g2, g3, fun i hi => g4 i (by omega), hw _ rfl, fun i hi => ?_, ?_, g8, ks, kb, y1, y2, y3, y4, fun _ _ => ⟨Nat.le_refl _, z2, z3, z4⟩⟩, by omega⟩
    · show (∃ m : Nat, jn (σ 12) (σ 8) kb i = nI m ∧ m < n) ∧ ∃ m c : Nat, jn (σ 13) (σ 9) kb i = nI m ∧ bc (kc (σ 5 i)) (σ 7 i) = nI c ∧ m ≤ c ∧ c ≤ 6
      unfold jn
      rw [if_pos hi, if_pos hi]
      exact z3 i hi
    · obtain ⟨b, l, m1, m2, m3, m4, m5, m6, m7, m8⟩ := z4
      refine ⟨b, l, m1, m2, m3, m4, m5, m6, m7, fun i hi => ?_⟩
      show rg (jn (σ 14) (σ 10) 7 i) 0 5
      unfold jn
      rw [if_pos (by omega)]
      exact m8 i hi
  · rw [if_neg h9, if_neg h4]; exact h0
end S39
