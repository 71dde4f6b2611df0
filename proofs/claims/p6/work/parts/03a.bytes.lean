/-- byte s (0 the highest) of an int: 0 to 255 -/
def by8 (v : Int) (s : Nat) : Int := (((zI v).toUInt32.toNat >>> (24 - 8 * s)) % 256 : Nat)
theorem by8_r (v : Int) (s : Nat) : 0 ≤ by8 v s ∧ by8 v s ≤ 255 := by unfold by8; omega
/-- such a byte, signed -/
def sB (v : Int) (s : Nat) (y : Int) : Prop := (-128 ≤ y ∧ y ≤ 127) ∧ (y = by8 v s ∨ y = by8 v s - 256)
theorem sh_u : ∀ s : Fin 4, ((zI (24 - 8 * (s.val : Int))).toUInt32 &&& Int32.toUInt32 31).toNat = 24 - 8 * s.val := by decide
theorem sB_c {v x y sh : Int} {s : Nat} (hs : s < 4 ∧ sh = 24 - 8 * (s : Int)) (e1 : ((zI v).toUInt32 >>> ((zI sh).toUInt32 &&& Int32.toUInt32 31)).toInt32 = zI x) (h1 : -2147483648 ≤ x ∧ x ≤ 2147483647) (e2 : (zI x).toInt8.toInt32 = zI y) (h2 : -128 ≤ y ∧ y ≤ 127) : sB v s y := by
  obtain ⟨hs, rfl⟩ := hs
  have e3 : (zI x).toInt8.toInt = y := by
    have e4 := congrArg Int32.toInt e2
    rw [zI_to (by omega)] at e4
    rw [← e4, Int8.toInt_toInt32]
  rw [← e1, Int32.toInt_toInt8] at e3
  have hk := sh_u ⟨s, hs⟩
  have e5 : (((zI v).toUInt32 >>> ((zI (24 - 8 * (s : Int))).toUInt32 &&& Int32.toUInt32 31)).toInt32).toInt = (((zI v).toUInt32 >>> ((zI (24 - 8 * (s : Int))).toUInt32 &&& Int32.toUInt32 31)).toNat : Int).bmod (2 ^ 32) := by
    rw [← Int32.toInt_toBitVec, UInt32.toBitVec_toInt32, BitVec.toInt_eq_toNat_bmod, UInt32.toNat_toBitVec]
  rw [e5, UInt32.toNat_shiftRight] at e3
  have e6 : ((zI (24 - 8 * (s : Int))).toUInt32 &&& Int32.toUInt32 31).toNat % 32 = 24 - 8 * s := by
    rw [show ((zI (24 - 8 * (s : Int))).toUInt32 &&& Int32.toUInt32 31).toNat = 24 - 8 * s from hk]
    omega
  rw [e6, Int.bmod_bmod_of_dvd (by decide)] at e3
  have e7 : by8 v s = (((zI v).toUInt32.toNat >>> (24 - 8 * s) : Nat) : Int) % 256 := by unfold by8; omega
  refine ⟨h2, ?_⟩
  rw [e7, ← e3, Int.bmod_def]
  show (if _ then _ else _) = _ ∨ (if _ then _ else _) = _
  split
  · exact Or.inl rfl
  · exact Or.inr rfl
/-- as the reference takes it -/
theorem by8_r2 {v x y sh : Int} {s : Nat} (hs : s < 4 ∧ sh = 24 - 8 * (s : Int)) (e1 : zI v >>> (zI sh &&& 31) = zI x) (e2 : zI x &&& zI 255 = zI y) (h2 : 0 ≤ y ∧ y ≤ 255) : y = by8 v s := by
  obtain ⟨hs, rfl⟩ := hs
  have hk : ∀ s : Fin 4, (zI (24 - 8 * (s.val : Int)) &&& 31).toBitVec.smod 32 = BitVec.ofNat 32 (24 - 8 * s.val) := by decide
  have e0 := hk ⟨s, hs⟩
  have e3 : (zI y).toBitVec = ((zI v).toBitVec >>> (24 - 8 * s)) &&& 255#32 := by
    rw [← e2, ← e1, Int32.toBitVec_and, Int32.toBitVec_shiftRight, e0, show (zI 255).toBitVec = 255#32 from rfl]
    apply BitVec.eq_of_getLsbD_eq
    intro i hi
    have h255 : ∀ i, i < 32 → (255#32).getLsbD i = decide (i < 8) := by decide
    rw [BitVec.getLsbD_and, BitVec.getLsbD_and, h255 i hi]
    by_cases h8 : i < 8
    · rw [BitVec.sshiftRight_eq', BitVec.getLsbD_sshiftRight, BitVec.getLsbD_ushiftRight]
      rw [show (BitVec.ofNat 32 (24 - 8 * s)).toNat = 24 - 8 * s by rw [BitVec.toNat_ofNat]; omega]
      rw [if_pos (by omega)]
      simp [show ¬ 32 ≤ i by omega]
    · simp [h8]
  have e4 : (zI y).toBitVec.toNat = (((zI v).toBitVec.toNat >>> (24 - 8 * s)) % 256) := by
    rw [e3, BitVec.toNat_and, BitVec.toNat_ushiftRight]
    exact Nat.and_two_pow_sub_one_eq_mod _ 8
  have e5 : y = ((zI y).toBitVec.toNat : Int) := by
    obtain ⟨n, rfl⟩ := Int.eq_ofNat_of_zero_le h2.1
    rw [← zI_nat]
    show (n : Int) = ((Int32.ofNat n).toBitVec.toNat : Int)
    have hn : n < 256 := by omega
    simp
    omega
  rw [e5, e4]
  rfl
