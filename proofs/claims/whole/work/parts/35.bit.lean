/-! bits of longs -/
theorem sh_ok : ndL 64 (fun b => decide (((nI b).toInt64 &&& 63).toBitVec.smod 64 = BitVec.ofNat 64 b)) = true := by decide +kernel
theorem sh_at {b : Nat} (hb : b < 64) : ((nI b).toInt64 &&& 63).toBitVec.smod 64 = BitVec.ofNat 64 b := of_decide_eq_true (ndL_at sh_ok hb)
theorem bitL_get {x : Int64} {b : Nat} (hb : b < 64) : bitL x b = x.toBitVec.getLsbD b := by
  unfold bitL
  have e1 : (x >>> ((nI b).toInt64 &&& 63)).toBitVec = x.toBitVec.sshiftRight b := by
    rw [Int64.toBitVec_shiftRight, sh_at hb, BitVec.sshiftRight_eq', BitVec.toNat_ofNat, Nat.mod_eq_of_lt (by omega)]
  have e2 : ((x >>> ((nI b).toInt64 &&& 63)) &&& 1).toBitVec = x.toBitVec.sshiftRight b &&& 1#64 := by
    rw [Int64.toBitVec_and, e1]; rfl
  have e3 : (x >>> ((nI b).toInt64 &&& 63)) &&& 1 = 0 ↔ x.toBitVec.getLsbD b = false := by
    rw [← Int64.toBitVec_inj, e2, BitVec.and_one_eq_setWidth_ofBool_getLsbD]
    have : (x.toBitVec.sshiftRight b).getLsbD 0 = x.toBitVec.getLsbD b := by
      rw [BitVec.getLsbD_sshiftRight]
      simp [hb]
    rw [this]
    cases x.toBitVec.getLsbD b <;> decide
  by_cases h : x.toBitVec.getLsbD b = false
  · rw [h]
    exact decide_eq_false (not_not_intro (e3.mpr h))
  · rw [(Bool.not_eq_false _).mp h]
    exact decide_eq_true (fun h2 => h (e3.mp h2))
theorem bitL_0 {b : Nat} (hb : b < 64) : bitL 0 b = false := by
  rw [bitL_get hb]; simp
theorem bitL_or {x : Int64} {p b : Nat} (hp : p < 64) (hb : b < 64) : bitL (x ||| 1 <<< ((nI p).toInt64 &&& 63)) b = (bitL x b || decide (b = p)) := by
  rw [bitL_get hb, bitL_get hb, Int64.toBitVec_or, BitVec.getLsbD_or, Int64.toBitVec_shiftLeft, sh_at hp]
  congr 1
  rw [BitVec.shiftLeft_eq', BitVec.toNat_ofNat, Nat.mod_eq_of_lt (by omega), BitVec.getLsbD_shiftLeft]
  have : (1 : Int64).toBitVec = 1#64 := rfl
  rw [this]
  by_cases h : b = p
  · subst h; simp [hb]
  · by_cases h2 : b < p
    · simp [h2, h]
    · simp only [hb, h2, h, decide_false, decide_true, Bool.true_and, Bool.not_false]
      rw [BitVec.getLsbD_one]
      simp; omega
