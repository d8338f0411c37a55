section S65
variable {σ : pS} {M : Nat}
/-! a carrier's can holds something -/
theorem i_letters {w : Int64} (h : IC σ) : IC (f_letters σ w).2 := by
  unfold f_letters
  split
  · exact h
  · split
    · exact h
    · exact h
theorem i_blank (h : IC σ) : IC (f_blank σ).2 := h
theorem i_stair (h : IC σ) : IC (f_stair σ).2 := by
  unfold f_stair
  split
  · intro i hi
    exact absurd hi (Nat.not_lt_zero i)
  · exact h
theorem i_rise {b : Int32} (h : IC σ) : IC (f_rise σ b).2 := by
  unfold f_rise
  repeat' split
  all_goals exact h
theorem i_take {b k : Int32} (h : IC σ) : IC (f_take σ b k).2 := by
  unfold f_take
  repeat' split
  all_goals exact h
theorem i_pour {b k : Int32} (h : IC σ) : IC (f_pour σ b k).2 := by
  unfold f_pour
  repeat' split
  all_goals exact h
theorem i_down {b : Int32} (h : IC σ) : IC (f_down σ b).2 := by
  unfold f_down
  repeat' split
  all_goals exact h
theorem i_day {r : Int32} (h : IC σ) : IC (f_day σ r).2 := by
  unfold f_day
  repeat' split
  all_goals exact h
theorem i_fewest {b c k : Int32} (h : IC σ) : IC (f_fewest σ b c k).2 := by
  unfold f_fewest
  by_cases b0 : b < 0
  · rw [if_pos b0]; exact h
  rw [if_neg b0]
  by_cases b1 : b < σ 0 2
  · rw [if_pos b1]
    by_cases c0 : c < 0
    · rw [if_pos c0]; exact h
    rw [if_neg c0]
    by_cases c1 : c < σ 0 2
    · rw [if_pos c1]
      by_cases bc : b = c
      · rw [if_pos bc]; exact h
      rw [if_neg bc]
      by_cases k0 : k < 0
      · rw [if_pos k0]; exact h
      rw [if_neg k0]
      by_cases k1 : 1 < k
      · rw [if_pos k1]; exact h
      rw [if_neg k1]
      by_cases hp : p_is (kc (σ 5 c.toNatClampNeg)) 2 = true
      · rw [if_pos hp]
        by_cases h40 : σ 0 5 < 40
        · rw [if_pos h40]; exact h
        · rw [if_neg h40]; exact h
      · rw [if_neg hp]; exact h
    · rw [if_neg c1]; exact h
  · rw [if_neg b1]; exact h
theorem i_mud {b k : Int32} (h : IC σ) : IC (f_mud σ b k).2 := by
  unfold f_mud
  repeat' split
  all_goals exact h
theorem i_line {k : Int32} (h : IC σ) : IC (f_line σ k).2 := by
  unfold f_line
  repeat' split
  all_goals exact h
theorem i_image (h : IC σ) : IC (f_image σ).2 := by
  unfold f_image
  split
  · exact h
  · exact h
theorem i_restore (hI : IV σ) (h : IC σ) : IC (f_restore σ).2 := by
  unfold f_restore
  by_cases h9 : σ 0 9 = 0
  · rw [if_pos h9]; exact h
  by_cases h4 : σ 0 9 = σ 0 4
  · rw [if_neg h9, if_pos h4]
    obtain ⟨n, ps, bt, sr, hI2⟩ := id hI
    obtain ⟨-, -, e5⟩ := IN_n hI2
    obtain ⟨⟨a1, a2, a3, a4, a5, a6, a7, a8, a9, a10, a11⟩, g2, g3, g4, g5, g6, g7, g8, ks, kb, y1, y2, y3, y4, y5⟩ := hI2
    have hks : ks = sr := by
      rw [y1, a9] at h4
      exact (nI_eq (by omega) (by omega)).mp h4
    have hk0 : 0 < ks := by
      rcases Nat.eq_zero_or_pos ks with q | q
      · subst q; exact absurd y1 h9
      · exact q
    have hkb := (y5 hks hk0).1
    intro i hi
    have hi2 : i < (σ 0 10).toNatClampNeg := hi
    rw [y3, nI_c (a := kb) (by omega)] at hi2
    exact h i (by rw [e5]; omega)
  · rw [if_neg h9, if_neg h4]; exact h
theorem i_boat {k d c : Int32} (hI : IV σ) (h : IC σ) : IC (f_boat σ k d c).2 := by
  unfold f_boat
  by_cases k0 : k < 0
  · rw [if_pos k0]; exact h
  rw [if_neg k0]
  by_cases k4 : 4 < k
  · rw [if_pos k4]; exact h
  rw [if_neg k4]
  by_cases d0 : d < 0
  · rw [if_pos d0]; exact h
  rw [if_neg d0]
  by_cases d5 : 5 < d
  · rw [if_pos d5]; exact h
  rw [if_neg d5]
  by_cases hc : ic k c = true
  · rw [if_pos hc]
    by_cases h2 : σ 0 0 = 0
    · rw [if_pos h2]; exact h
    rw [if_neg h2]
    by_cases h3 : σ 0 2 < 5
    · rw [if_pos h3]
      obtain ⟨n, ps, bt, sr, hI2⟩ := id hI
      obtain ⟨-, -, e5⟩ := IN_n hI2
      obtain ⟨⟨-, -, -, -, -, e4, e6, -⟩, -⟩ := hI2
      intro i hi hp
      have hi2 : i < bt + 1 := by
        have hi' : i < (σ 0 2 + 1).toNatClampNeg := hi
        rw [e4, nI_1, nI_c (by omega)] at hi'
        exact hi'
      have hp2 : p_is (kc (upd (σ 5) (nt σ) k i)) 2 = true := hp
      show 0 < upd (σ 7) (nt σ) c i
      rw [e5] at hp2 ⊢
      by_cases hib : i = bt
      · subst hib
        rw [pk_us] at hp2 ⊢
        have hk3 : ¬ k < 3 := by
          intro q
          obtain ⟨m, hm, rfl⟩ := nI_of k0
          have hm3 : m < 3 := (nI_ltI (a := m) (b := 3) (by omega) (by omega)).mp q
          have key : ∀ m : Nat, m < 3 → p_is (kc (nI m)) 2 = false := by decide +kernel
          rw [key m hm3] at hp2
          cases hp2
        unfold ic at hc
        rw [if_neg hk3] at hc
        by_cases c1 : c < 1
        · rw [if_pos c1] at hc; cases hc
        · have e1 : (1 : Int32).toInt = 1 := by decide
          have e0 : (0 : Int32).toInt = 0 := by decide
          rw [Int32.lt_iff_toInt_lt] at c1 ⊢
          omega
      · rw [pk_un hib] at hp2 ⊢
        exact h i (by rw [e5]; omega) hp2
    · rw [if_neg h3]; exact h
  · rw [if_neg hc]; exact h
end S65
