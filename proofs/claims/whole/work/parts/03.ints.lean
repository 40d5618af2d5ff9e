/-! ===== numbers of the machine as mathematical ones ===== -/
theorem i32_to {x : Int} (h : okI x) : (Int32.ofInt x).toInt = x := Int32.toInt_ofInt_of_le h.1 (by have := h.2; omega)
theorem i64_to {x : Int} (h : okJ x) : (Int64.ofInt x).toInt = x := Int64.toInt_ofInt_of_le h.1 (by have := h.2; omega)
theorem i32_add (x y : Int) : Int32.ofInt x + Int32.ofInt y = Int32.ofInt (x + y) := (Int32.ofInt_add x y).symm
theorem i32_sub (x y : Int) : Int32.ofInt x - Int32.ofInt y = Int32.ofInt (x - y) := (Int32.ofInt_sub x y).symm
theorem i32_mul (x y : Int) : Int32.ofInt x * Int32.ofInt y = Int32.ofInt (x * y) := (Int32.ofInt_mul x y).symm
theorem i64_add (x y : Int) : Int64.ofInt x + Int64.ofInt y = Int64.ofInt (x + y) := (Int64.ofInt_add x y).symm
theorem i64_sub (x y : Int) : Int64.ofInt x - Int64.ofInt y = Int64.ofInt (x - y) := (Int64.ofInt_sub x y).symm
theorem i64_mul (x y : Int) : Int64.ofInt x * Int64.ofInt y = Int64.ofInt (x * y) := (Int64.ofInt_mul x y).symm
theorem i32_eq {x y : Int} (hx : okI x) (hy : okI y) : Int32.ofInt x = Int32.ofInt y ↔ x = y :=
  ⟨fun h => by rw [← i32_to hx, ← i32_to hy, h], fun h => by rw [h]⟩
theorem i32_lt {x y : Int} (hx : okI x) (hy : okI y) : Int32.ofInt x < Int32.ofInt y ↔ x < y := by
  rw [Int32.lt_iff_toInt_lt, i32_to hx, i32_to hy]
theorem i32_le {x y : Int} (hx : okI x) (hy : okI y) : Int32.ofInt x ≤ Int32.ofInt y ↔ x ≤ y := by
  rw [Int32.le_iff_toInt_le, i32_to hx, i32_to hy]
theorem i64_eq {x y : Int} (hx : okJ x) (hy : okJ y) : Int64.ofInt x = Int64.ofInt y ↔ x = y :=
  ⟨fun h => by rw [← i64_to hx, ← i64_to hy, h], fun h => by rw [h]⟩
theorem i64_lt {x y : Int} (hx : okJ x) (hy : okJ y) : Int64.ofInt x < Int64.ofInt y ↔ x < y := by
  rw [Int64.lt_iff_toInt_lt, i64_to hx, i64_to hy]
theorem i64_le {x y : Int} (hx : okJ x) (hy : okJ y) : Int64.ofInt x ≤ Int64.ofInt y ↔ x ≤ y := by
  rw [Int64.le_iff_toInt_le, i64_to hx, i64_to hy]
theorem okI_0 : okI 0 := by unfold okI; omega
theorem okJ_0 : okJ 0 := by unfold okJ; omega
theorem i32_0 : (0 : Int32) = Int32.ofInt 0 := rfl
theorem i64_0 : (0 : Int64) = Int64.ofInt 0 := rfl
theorem okJ_I {x : Int} (h : okI x) : okJ x := by unfold okI at h; unfold okJ; omega
theorem i32_i2l {x : Int} (h : okI x) : (Int32.ofInt x).toInt64 = Int64.ofInt x := by
  apply Int64.toInt_inj.mp
  rw [Int32.toInt_toInt64, i32_to h, i64_to (okJ_I h)]
theorem i64_l2i {x : Int} (h : okI x) : (Int64.ofInt x).toInt32 = Int32.ofInt x := by
  apply Int32.toInt_inj.mp
  rw [Int64.toInt_toInt32, i64_to (okJ_I h), i32_to h]
  unfold okI at h
  apply Int.bmod_eq_of_le <;> omega
theorem i32_nat {x : Int} (h : okI x) (h0 : 0 ≤ x) : (Int32.ofInt x).toNatClampNeg = x.toNat := by
  rw [Int32.toNatClampNeg, i32_to h]
theorem i32_in {x : Int} {n : Nat} (h : okI x) (h0 : 0 ≤ x) (hn : x < n) : vp_in (Int32.ofInt x) n := by
  rw [vp_in_iff, i32_to h]; exact ⟨h0, hn⟩
theorem i32_div {x y : Int} (hx : okI x) (hy : okI y) (h0 : 0 ≤ x) (hy0 : 0 < y) : Int32.ofInt x / Int32.ofInt y = Int32.ofInt (x / y) := by
  apply Int32.toInt_inj.mp
  have h1 : x / y ≤ x := Int.ediv_le_self _ h0
  have h2 : 0 ≤ x / y := Int.ediv_nonneg h0 (by omega)
  have h3 : okI (x / y) := by unfold okI at *; omega
  rw [Int32.toInt_div, i32_to hx, i32_to hy, i32_to h3, Int.tdiv_eq_ediv_of_nonneg h0]
  unfold okI at h3
  apply Int.bmod_eq_of_le <;> omega
theorem i64_div {x y : Int} (hx : okJ x) (hy : okJ y) (h0 : 0 ≤ x) (hy0 : 0 < y) : Int64.ofInt x / Int64.ofInt y = Int64.ofInt (x / y) := by
  apply Int64.toInt_inj.mp
  have h1 : x / y ≤ x := Int.ediv_le_self _ h0
  have h2 : 0 ≤ x / y := Int.ediv_nonneg h0 (by omega)
  have h3 : okJ (x / y) := by unfold okJ at *; omega
  rw [Int64.toInt_div, i64_to hx, i64_to hy, i64_to h3, Int.tdiv_eq_ediv_of_nonneg h0]
  unfold okJ at h3
  apply Int.bmod_eq_of_le <;> omega
theorem i32_rem {x y : Int} (hx : okI x) (hy : okI y) (h0 : 0 ≤ x) (hy0 : 0 < y) : Int32.ofInt x - Int32.ofInt x / Int32.ofInt y * Int32.ofInt y = Int32.ofInt (x % y) := by
  rw [i32_div hx hy h0 hy0, i32_mul, i32_sub]
  congr 1
  rw [Int.emod_def, Int.mul_comm]
theorem i64_rem {x y : Int} (hx : okJ x) (hy : okJ y) (h0 : 0 ≤ x) (hy0 : 0 < y) : Int64.ofInt x - Int64.ofInt x / Int64.ofInt y * Int64.ofInt y = Int64.ofInt (x % y) := by
  rw [i64_div hx hy h0 hy0, i64_mul, i64_sub]
  congr 1
  rw [Int.emod_def, Int.mul_comm]
