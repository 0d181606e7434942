/-! The bytes of a number. -/
theorem bv255 (X : BitVec 32) (s : Nat) (hs : s ≤ 24) : (X >>> s) &&& 255#32 = (X.sshiftRight s) &&& 255#32 := by
  apply BitVec.eq_of_getLsbD_eq
  intro i hi
  rw [BitVec.getLsbD_and, BitVec.getLsbD_and, BitVec.getLsbD_ushiftRight, BitVec.getLsbD_sshiftRight]
  by_cases h8 : i < 8
  · rw [if_pos (by omega)]
    rw [decide_eq_false (show ¬ 32 ≤ i by omega), Bool.not_false, Bool.true_and]
  · have e : (255#32).getLsbD i = false := by
      have hh : ∀ j : Fin 32, 8 ≤ j.val → (255#32).getLsbD j.val = false := by decide
      exact hh ⟨i, hi⟩ (by show 8 ≤ i; omega)
    rw [e, Bool.and_false, Bool.and_false]
theorem shr_one (x : Int32) (c : UInt32) (d : Int32) (s : Nat) (hs : s ≤ 24) (hc : c.toBitVec % 32 = BitVec.ofNat 32 s) (hd : d.toBitVec.smod 32 = BitVec.ofNat 32 s) : ((x.toUInt32 >>> c).toInt32 &&& (255 : Int32)) = ((x >>> d) &&& (255 : Int32)) := by
  apply Int32.toBitVec_inj.mp
  rw [Int32.toBitVec_and, Int32.toBitVec_and, Int32.toBitVec_shiftRight, hd]
  have e1 : (x.toUInt32 >>> c).toInt32.toBitVec = x.toBitVec >>> s := by
    show (x.toUInt32 >>> c).toBitVec = _
    rw [UInt32.toBitVec_shiftRight, hc, BitVec.ushiftRight_eq', BitVec.toNat_ofNat, Nat.mod_eq_of_lt (by omega)]
    rfl
  rw [e1, BitVec.sshiftRight_eq', BitVec.toNat_ofNat, Nat.mod_eq_of_lt (by omega)]
  exact bv255 x.toBitVec s hs
theorem shr_eq (x : Int32) {k : Int} (h0 : 0 ≤ k) (h1 : k ≤ 3) : ((x.toUInt32 >>> ((((8 : Int32) * iz k)).toUInt32 &&& Int32.toUInt32 31)).toInt32 &&& (255 : Int32)) = ((x >>> (((8 : Int32) * iz k) &&& 31)) &&& (255 : Int32)) := by
  have hk : k = 0 ∨ k = 1 ∨ k = 2 ∨ k = 3 := by omega
  rcases hk with rfl | rfl | rfl | rfl
  · exact shr_one x _ _ 0 (by omega) (by decide) (by decide)
  · exact shr_one x _ _ 8 (by omega) (by decide) (by decide)
  · exact shr_one x _ _ 16 (by omega) (by decide) (by decide)
  · exact shr_one x _ _ 24 (by omega) (by decide) (by decide)
theorem and255 (x : Int32) : 0 ≤ (x &&& 255).toInt ∧ (x &&& 255).toInt < 256 := by
  have e : (x &&& 255).toBitVec.toNat < 256 := by
    rw [Int32.toBitVec_and, BitVec.toNat_and]
    exact Nat.lt_of_le_of_lt Nat.and_le_right (by decide)
  have e2 : (x &&& 255).toInt = ((x &&& 255).toBitVec.toNat : Int) := by
    show (x &&& 255).toBitVec.toInt = _
    rw [BitVec.toInt_eq_toNat_cond, if_pos (by omega)]
  omega
