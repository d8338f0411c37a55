section S41
variable {σ : pS} {h : pH} {K Q : Option Value → pH → Prop} {x : Nat → Int32} {u v : Int64} {g : Nat → Nat → Int32} {j : Nat → Nat → Int64}
theorem by_l {w : Int64} {k : Nat} (hk : k < 8) : (w >>> ((8 * nI k).toInt64 &&& 63)).toInt32 &&& 255 = bo w (nI k) := by
  unfold bo
  have e : ∀ k : Nat, k < 8 → (((8 * nI k).toInt64 &&& 63).toBitVec.smod 64).toNat = 8 * k ∧ (((8 * nI k).toInt64.toUInt64 &&& Int64.toUInt64 63).toBitVec % 64).toNat = 8 * k := by decide +kernel
  obtain ⟨e1, e2⟩ := e k hk
  have hL : (w >>> ((8 * nI k).toInt64 &&& 63)).toBitVec = w.toBitVec.sshiftRight (8 * k) := by
    show w.toBitVec.sshiftRight (((8 * nI k).toInt64 &&& 63).toBitVec.smod 64).toNat = _
    rw [e1]
  have hR : (w.toUInt64 >>> ((8 * nI k).toInt64.toUInt64 &&& Int64.toUInt64 63)).toBitVec = w.toBitVec >>> (8 * k) := by
    show w.toBitVec >>> (((8 * nI k).toInt64.toUInt64 &&& Int64.toUInt64 63).toBitVec % 64) = _
    rw [BitVec.ushiftRight_eq', e2]
  apply Int32.toBitVec_inj.mp
  apply BitVec.eq_of_getLsbD_eq
  intro i hi
  rw [Int32.toBitVec_and, Int32.toBitVec_and, BitVec.getLsbD_and, BitVec.getLsbD_and]
  have h255 : ∀ i : Nat, i < 32 → (255 : Int32).toBitVec.getLsbD i = decide (i < 8) := by decide +kernel
  rw [h255 i hi]
  by_cases h8 : i < 8
  · have a1 : (w >>> ((8 * nI k).toInt64 &&& 63)).toInt32.toBitVec = (w >>> ((8 * nI k).toInt64 &&& 63)).toBitVec.setWidth 32 := by rw [Int64.toBitVec_toInt32, BitVec.signExtend_eq_setWidth_of_le _ (by decide)]
    have a2 : (w.toUInt64 >>> ((8 * nI k).toInt64.toUInt64 &&& Int64.toUInt64 63)).toInt64.toInt32.toBitVec = (w.toUInt64 >>> ((8 * nI k).toInt64.toUInt64 &&& Int64.toUInt64 63)).toBitVec.setWidth 32 := by rw [Int64.toBitVec_toInt32, BitVec.signExtend_eq_setWidth_of_le _ (by decide)]; rfl
    rw [a1, a2, hL, hR, BitVec.getLsbD_setWidth, BitVec.getLsbD_setWidth, BitVec.getLsbD_sshiftRight, BitVec.getLsbD_ushiftRight]
    have b1 : 8 * k + i < 64 := by omega
    simp [b1, show ¬ 64 ≤ i by omega]
  · simp [h8]
theorem by_b {w : Int64} {k : Nat} (hk : k < 8) : ((w >>> ((8 * nI k).toInt64 &&& 63)) &&& 255).toInt32 = bo w (nI k) := by
  rw [← by_l hk, Int64.toInt32_and]
  rfl
theorem by_s {y : Int32} {m : Nat} (h : y &&& 255 = nI m) (hm : m < 128) : vp_nar .byte y.toInt8.toInt32 = nI m := by
  rw [pk_vb]
  rw [pk_and y (m := 255) 8 (by decide)] at h
  have h1 := (nI_eq (by omega) (by omega)).mp h
  apply Int32.toInt_inj.mp
  rw [nI_toInt (by omega), Int8.toInt_toInt32]
  have e8 : y.toInt8.toBitVec = y.toBitVec.setWidth 8 := by rw [Int32.toBitVec_toInt8, BitVec.signExtend_eq_setWidth_of_le _ (by decide)]
  show y.toInt8.toBitVec.toInt = _
  rw [e8, BitVec.toInt_eq_toNat_cond, BitVec.toNat_setWidth]
  have h1' : y.toBitVec.toNat % 2 ^ 8 = m := h1
  rw [h1']
  split <;> omega
end S41
