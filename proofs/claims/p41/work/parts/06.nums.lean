noncomputable def fx_z (z : Int32) : Nat := (z.toInt + 2147483648).toNat
theorem fx_z_lt (z w : Int32) : z < w ↔ fx_z z < fx_z w := by
  have h1 := z.le_toInt
  have h2 := w.le_toInt
  rw [Int32.lt_iff_toInt_lt]
  unfold fx_z
  omega
theorem fx_z_le (z w : Int32) : z ≤ w ↔ fx_z z ≤ fx_z w := by
  have h1 := z.le_toInt
  have h2 := w.le_toInt
  rw [Int32.le_iff_toInt_le]
  unfold fx_z
  omega
theorem fx_z_eq (z w : Int32) : z = w ↔ fx_z z = fx_z w := by
  have h1 := z.le_toInt
  have h2 := w.le_toInt
  rw [← Int32.toInt_inj]
  unfold fx_z
  omega
theorem fx_z_max (z : Int32) : fx_z z < 4294967296 := by
  have h1 := z.toInt_lt
  unfold fx_z
  omega
theorem fx_o_mod (n : Nat) : Int32.ofNat (n % 4294967296) = Int32.ofNat n := by
  apply Int32.toBitVec_inj.1
  simp only [Int32.toBitVec_ofNat']
  apply BitVec.eq_of_toNat_eq
  simp [BitVec.toNat_ofNat]
theorem fx_z_of (n : Nat) : fx_z (Int32.ofNat n) = fx_b n := by
  unfold fx_z fx_b
  rw [← fx_o_mod n]
  have hb : n % 4294967296 < 4294967296 := Nat.mod_lt _ (by decide)
  show _ = (n + 2147483648) % 4294967296
  generalize hm : n % 4294967296 = m at hb ⊢
  have e : (n + 2147483648) % 4294967296 = (m + 2147483648) % 4294967296 := by omega
  rw [e, Int32.toInt_ofNat']
  have hs : (Int32.size : Int) = 4294967296 := rfl
  simp only [Int.bmod, hs]
  omega
theorem fx_b_b (n : Nat) (h : n < 4294967296) : fx_b (fx_b n) = n := by
  show (((n + 2147483648) % 4294967296) + 2147483648) % 4294967296 = n
  omega
theorem fx_of_z (z : Int32) : Int32.ofNat (fx_b (fx_z z)) = z := by
  rw [fx_z_eq, fx_z_of, fx_b_b _ (fx_z_max z)]
theorem fx_o_add (x y : Nat) : Int32.ofNat (Nat.mod (Nat.add x y) 4294967296) = Int32.ofNat x + Int32.ofNat y := by
  show Int32.ofNat ((x + y) % 4294967296) = _
  rw [fx_o_mod, Int32.ofNat_add]
theorem fx_o_mul (x y : Nat) : Int32.ofNat (Nat.mod (Nat.mul x y) 4294967296) = Int32.ofNat x * Int32.ofNat y := by
  show Int32.ofNat ((x * y) % 4294967296) = _
  rw [fx_o_mod, Int32.ofNat_mul]
theorem fx_o_sub (x y : Nat) : Int32.ofNat ((x + (4294967296 - y % 4294967296)) % 4294967296) = Int32.ofNat x - Int32.ofNat y := by
  rw [fx_o_mod, Int32.ofNat_add]
  have e : Int32.ofNat (4294967296 - y % 4294967296) = - Int32.ofNat y := by
    rw [← fx_o_mod y]
    have hb : y % 4294967296 < 4294967296 := Nat.mod_lt _ (by decide)
    generalize y % 4294967296 = m at hb
    have e2 : Int32.ofNat (4294967296 - m) + Int32.ofNat m = 0 := by
      rw [← Int32.ofNat_add, show 4294967296 - m + m = 4294967296 by omega]
      decide
    have e3 := congrArg (fun t => t - Int32.ofNat m) e2
    simp only [Int32.add_sub_cancel, Int32.zero_sub] at e3
    exact e3
  rw [e, Int32.sub_eq_add_neg]
theorem fx_o_neg (n : Nat) : Int32.ofNat ((4294967296 - n % 4294967296) % 4294967296) = - Int32.ofNat n := by
  have h := fx_o_sub 0 n
  rw [Nat.zero_add] at h
  rw [h]
  simp
theorem fx_o_and (x y : Nat) : Int32.ofNat (Nat.land x y) = Int32.ofNat x &&& Int32.ofNat y := by
  apply Int32.toBitVec_inj.1
  simp [Int32.toBitVec_ofNat', Int32.toBitVec_and]
theorem fx_o_or (x y : Nat) : Int32.ofNat (Nat.lor x y) = Int32.ofNat x ||| Int32.ofNat y := by
  apply Int32.toBitVec_inj.1
  simp [Int32.toBitVec_ofNat', Int32.toBitVec_or]
theorem fx_o_xor (x y : Nat) : Int32.ofNat (Nat.xor x y) = Int32.ofNat x ^^^ Int32.ofNat y := by
  apply Int32.toBitVec_inj.1
  simp [Int32.toBitVec_ofNat', Int32.toBitVec_xor]
theorem fx_o_int {n : Nat} (h : n < 2147483648) : (Int32.ofNat n).toInt = (n : Int) := nI_toInt h
theorem fx_o_div {x y : Nat} (hx : x < 2147483648) (hy : y < 2147483648) : Int32.ofNat (x / y) = Int32.ofNat x / Int32.ofNat y := by
  have hq : x / y < 2147483648 := Nat.lt_of_le_of_lt (Nat.div_le_self x y) hx
  apply Int32.toInt_inj.1
  rw [Int32.toInt_div, fx_o_int hx, fx_o_int hy, fx_o_int hq, ← Int.ofNat_tdiv]
  generalize x / y = q at hq
  have hs : ((2 ^ 32 : Nat) : Int) = 4294967296 := rfl
  simp only [Int.bmod, hs]
  omega
theorem fx_o_ne {y : Nat} (hy : y < 2147483648) (h0 : 0 < y) : ¬ Int32.ofNat y = 0 := fun q => by
  have := congrArg Int32.toInt q
  rw [fx_o_int hy] at this
  simp at this
  omega
theorem fx_o_rem {x y : Nat} (hx : x < 2147483648) (hy : y < 2147483648) : Int32.ofNat (x % y) = Int32.ofNat x - Int32.ofNat x / Int32.ofNat y * Int32.ofNat y := by
  rw [← fx_o_div hx hy, ← Int32.ofNat_mul]
  have e : x = x % y + x / y * y := by rw [Nat.mul_comm]; exact (Nat.mod_add_div x y).symm
  have e2 : Int32.ofNat x = Int32.ofNat (x % y) + Int32.ofNat (x / y * y) := by rw [← Int32.ofNat_add, ← e]
  rw [e2, Int32.add_sub_cancel]
theorem fx_o_31 : ∀ y, y < 32 → Int32.ofNat y &&& 31 = Int32.ofNat y := by decide +kernel
theorem fx_o_32 : ∀ y, y < 32 → (BitVec.ofNat 32 y).smod 32 = BitVec.ofNat 32 y := by decide +kernel
theorem fx_o_shl {x y : Nat} (hy : y < 32) : Int32.ofNat (Nat.shiftLeft x y % 4294967296) = Int32.ofNat x <<< (Int32.ofNat y &&& 31) := by
  rw [fx_o_mod, fx_o_31 y hy]
  apply Int32.toBitVec_inj.1
  rw [Int32.toBitVec_shiftLeft]
  simp only [Int32.toBitVec_ofNat']
  rw [fx_o_32 y hy]
  apply BitVec.eq_of_toNat_eq
  have e : y % 4294967296 = y := by omega
  simp [BitVec.toNat_ofNat, e, Nat.shiftLeft_eq, Nat.mul_mod]
theorem fx_o_shr {x y : Nat} (hx : x < 2147483648) (hy : y < 32) : Int32.ofNat (Nat.shiftRight x y) = Int32.ofNat x >>> (Int32.ofNat y &&& 31) := by
  rw [fx_o_31 y hy]
  apply Int32.toBitVec_inj.1
  rw [Int32.toBitVec_shiftRight]
  simp only [Int32.toBitVec_ofNat']
  rw [fx_o_32 y hy, BitVec.sshiftRight_eq', BitVec.sshiftRight_eq_of_msb_false]
  · apply BitVec.eq_of_toNat_eq
    have e : y % 4294967296 = y := by omega
    have e2 : x % 4294967296 = x := by omega
    have e3 : x >>> y < 4294967296 := Nat.lt_of_le_of_lt (Nat.shiftRight_le x y) (by omega)
    simp [BitVec.toNat_ofNat, e, e2]
    exact e3
  · simp [BitVec.msb_eq_decide]
    omega
theorem fx_o_ushr {x y : Nat} (hx : x < 4294967296) (hy : y < 32) : ((Int32.ofNat x).toUInt32 >>> ((Int32.ofNat y).toUInt32 &&& Int32.toUInt32 31)).toInt32 = Int32.ofNat (Nat.shiftRight x y) := by
  have h1 : ∀ y, y < 32 → ((Int32.ofNat y).toUInt32 &&& Int32.toUInt32 31) = UInt32.ofNat y := by decide +kernel
  rw [h1 y hy]
  apply Int32.toBitVec_inj.1
  rw [Int32.toBitVec_ofNat']
  show ((Int32.ofNat x).toUInt32 >>> UInt32.ofNat y).toBitVec = _
  rw [UInt32.toBitVec_shiftRight]
  apply BitVec.eq_of_toNat_eq
  have e : y % 4294967296 % 32 = y := by omega
  have e2 : x % 4294967296 = x := by omega
  have e3 : x >>> y < 4294967296 := Nat.lt_of_le_of_lt (Nat.shiftRight_le x y) (by omega)
  show ((Int32.ofNat x).toBitVec >>> ((UInt32.ofNat y).toBitVec % 32)).toNat = _
  rw [Int32.toBitVec_ofNat']
  simp [BitVec.toNat_ofNat, e, e2]
  exact (Nat.mod_eq_of_lt e3).symm
theorem fl_mod (n : Nat) : Int64.ofNat (n % 18446744073709551616) = Int64.ofNat n := by
  apply Int64.toBitVec_inj.1
  simp only [Int64.toBitVec_ofNat']
  apply BitVec.eq_of_toNat_eq
  simp [BitVec.toNat_ofNat]
theorem fl_add (x y : Nat) : Int64.ofNat ((x + y) % 18446744073709551616) = Int64.ofNat x + Int64.ofNat y := by
  rw [fl_mod, Int64.ofNat_add]
theorem fl_mul (x y : Nat) : Int64.ofNat (x * y % 18446744073709551616) = Int64.ofNat x * Int64.ofNat y := by
  rw [fl_mod, Int64.ofNat_mul]
theorem fl_sub (x y : Nat) : Int64.ofNat ((x + (18446744073709551616 - y % 18446744073709551616)) % 18446744073709551616) = Int64.ofNat x - Int64.ofNat y := by
  rw [fl_mod, Int64.ofNat_add]
  have e : Int64.ofNat (18446744073709551616 - y % 18446744073709551616) = - Int64.ofNat y := by
    rw [← fl_mod y]
    have hb : y % 18446744073709551616 < 18446744073709551616 := Nat.mod_lt _ (by decide)
    generalize y % 18446744073709551616 = m at hb
    have e2 : Int64.ofNat (18446744073709551616 - m) + Int64.ofNat m = 0 := by
      rw [← Int64.ofNat_add, show 18446744073709551616 - m + m = 18446744073709551616 by omega]
      decide
    have e3 := congrArg (fun t => t - Int64.ofNat m) e2
    simp only [Int64.add_sub_cancel, Int64.zero_sub] at e3
    exact e3
  rw [e, Int64.sub_eq_add_neg]
theorem fx_o_i2l {n : Nat} (h : n < 2147483648) : (Int32.ofNat n).toInt64 = Int64.ofNat n := by
  apply Int64.toInt_inj.1
  rw [Int32.toInt_toInt64, fx_o_int h, Int64.toInt_ofNat']
  have hs : (Int64.size : Int) = 18446744073709551616 := rfl
  simp only [Int.bmod, hs]
  omega
theorem fx_o_i2b {n : Nat} (h : n < 128) : (Int32.ofNat n).toInt8.toInt32 = Int32.ofNat n := by
  have key : ∀ n, n < 128 → (Int32.ofNat n).toInt8.toInt32 = Int32.ofNat n := by decide +kernel
  exact key n h
theorem fx_o_i2c {n : Nat} (h : n < 65536) : ((Int32.ofNat n).toUInt32 % 65536).toInt32 = Int32.ofNat n := by
  apply Int32.toBitVec_inj.1
  rw [Int32.toBitVec_ofNat']
  show ((Int32.ofNat n).toUInt32 % 65536).toBitVec = _
  rw [UInt32.toBitVec_mod]
  apply BitVec.eq_of_toNat_eq
  show ((Int32.ofNat n).toBitVec % (65536 : UInt32).toBitVec).toNat = _
  rw [Int32.toBitVec_ofNat']
  simp [BitVec.toNat_ofNat]
  omega
theorem fx_o_nc {n : Nat} (h : n < 65536) : narrow .char (.int (Int32.ofNat n)) = .int (Int32.ofNat n) := by
  show Value.int (Int32.ofNat n).toUInt32.toUInt16.toUInt32.toInt32 = _
  congr 1
  apply Int32.toBitVec_inj.1
  rw [Int32.toBitVec_ofNat']
  apply BitVec.eq_of_toNat_eq
  show ((Int32.ofNat n).toUInt32.toUInt16.toUInt32).toNat = _
  rw [UInt16.toNat_toUInt32, UInt32.toNat_toUInt16]
  show (Int32.ofNat n).toBitVec.toNat % _ = _
  rw [Int32.toBitVec_ofNat']
  simp [BitVec.toNat_ofNat]
  omega
