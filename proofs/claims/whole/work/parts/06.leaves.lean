/-! leaves of the class: rows and sets -/
def aat (n : Nat) (f : Nat → Int32) (i : Int32) : Int32 := if i < 0 then 0 else if Int32.ofNat n ≤ i then 0 else f i.toNatClampNeg
def aput (m : zmem) (q n : Nat) (i v : Int32) : zmem := if i < 0 then m else if Int32.ofNat n ≤ i then m else mset m q i.toNatClampNeg v
def sbit (k : Int32) : Int32 := if k < 0 then 0 else if 31 ≤ k then 0 else 1 <<< (k &&& 31)
def shas (s k : Int32) : Int32 := if k < 0 then 0 else if 31 ≤ k then 0 else if ¬ (s >>> (k &&& 31)) &&& 1 = 1 then 0 else 1
theorem vin_of {i : Int32} {n : Nat} (hn : n < 2147483648) (h1 : ¬ i < 0) (h2 : ¬ Int32.ofNat n ≤ i) : vp_in i n := by
  intro h
  rcases h with h | h
  · exact h1 h
  · apply h2
    rw [Int32.le_iff_toInt_le]
    have e : (Int32.ofNat n).toInt = n := by
      rw [Int32.toInt_ofNat_of_lt]
      omega
    rw [e]
    have h3 : (0 : Int) ≤ i.toInt := by
      have := Int32.not_lt.mp h1
      have h4 := Int32.le_iff_toInt_le.mp this
      simpa using h4
    have h5 : i.toNatClampNeg = i.toInt.toNat := rfl
    omega
set_option maxRecDepth 100000 in
set_option maxHeartbeats 4000000 in
theorem c_at {m : zmem} {q n : Nat} {i : Int32} (hq : zshape[q]? = some (zarr n)) (hn : n < 2147483648) : Ei MX6_at 0 [.ref q, .int i] m (aat n (m q) i) (m) := by
  refine Ei.of (by decide) (Nat.le_of_ble_eq_true rfl) ?_
  show Z _ 0 [(0, .ref q), (1, .int i)] _ _ _ _
  refine z_aload_n 0 dX6_at_0 rfl rfl ?_
  refine z_ifnull dX6_at_1 ?_
  refine z_iload_n 1 dX6_at_4 rfl rfl ?_
  refine z_if_lt 20 dX6_at_5 (by decide) (fun c_1 => ?_) (fun c_1 => ?_)
  · refine z_iconst 0 dX6_at_20 (by decide) ?_
    exact y_iret dX6_at_21 rfl (by simp [aat, c_1]) rfl
  · refine z_iload_n 1 dX6_at_8 rfl rfl ?_
    refine z_aload_n 0 dX6_at_9 rfl rfl ?_
    refine y_alen _ dX6_at_10 hq rfl ?_
    refine z_icmp_ge 20 dX6_at_11 (by decide) (fun c_2 => ?_) (fun c_2 => ?_)
    · refine z_iconst 0 dX6_at_20 (by decide) ?_
      exact y_iret dX6_at_21 rfl (by simp [aat, c_1, c_2]) rfl
    · refine z_aload_n 0 dX6_at_14 rfl rfl ?_
      refine z_iload_n 1 dX6_at_15 rfl rfl ?_
      refine y_iald dX6_at_16 hq (vin_of hn c_1 c_2) ?_
      refine z_goto 21 dX6_at_17 (by decide) ?_
      exact y_iret dX6_at_21 rfl (by simp [aat, c_1, c_2]) rfl
set_option maxRecDepth 100000 in
set_option maxHeartbeats 4000000 in
theorem c_put {m : zmem} {q n : Nat} {i v : Int32} (hq : zshape[q]? = some (zarr n)) (hn : n < 2147483648) : E0 MX6_put 0 [.ref q, .int i, .int v] m (aput m q n i v) := by
  refine E0.of (by decide) (Nat.le_of_ble_eq_true rfl) ?_
  show Z _ 0 [(0, .ref q), (1, .int i), (2, .int v)] _ _ _ _
  refine z_aload_n 0 dX6_put_0 rfl rfl ?_
  refine z_ifnull dX6_put_1 ?_
  refine z_iload_n 1 dX6_put_4 rfl rfl ?_
  refine z_if_lt 18 dX6_put_5 (by decide) (fun c_1 => ?_) (fun c_1 => ?_)
  · exact y_vret dX6_put_18 rfl (by simp [aput, c_1])
  · refine z_iload_n 1 dX6_put_8 rfl rfl ?_
    refine z_aload_n 0 dX6_put_9 rfl rfl ?_
    refine y_alen _ dX6_put_10 hq rfl ?_
    refine z_icmp_ge 18 dX6_put_11 (by decide) (fun c_2 => ?_) (fun c_2 => ?_)
    · exact y_vret dX6_put_18 rfl (by simp [aput, c_1, c_2])
    · refine z_aload_n 0 dX6_put_14 rfl rfl ?_
      refine z_iload_n 1 dX6_put_15 rfl rfl ?_
      refine z_iload_n 2 dX6_put_16 rfl rfl ?_
      refine y_iast dX6_put_17 hq (vin_of hn c_1 c_2) ?_
      exact y_vret dX6_put_18 rfl (by simp [aput, c_1, c_2])
set_option maxRecDepth 100000 in
set_option maxHeartbeats 4000000 in
theorem c_bit {m : zmem} {k : Int32} : Ei MX6_bit 0 [.int k] m (sbit k) (m) := by
  refine Ei.of (by decide) (Nat.le_of_ble_eq_true rfl) ?_
  show Z _ 0 [(0, .int k)] _ _ _ _
  refine z_iload_n 0 dX6_bit_0 rfl rfl ?_
  refine z_if_lt 16 dX6_bit_1 (by decide) (fun c_1 => ?_) (fun c_1 => ?_)
  · refine z_iconst 0 dX6_bit_16 (by decide) ?_
    exact y_iret dX6_bit_17 rfl (by simp [sbit, c_1]) rfl
  · refine z_iload_n 0 dX6_bit_4 rfl rfl ?_
    refine z_bipush 31 dX6_bit_5 (by decide) ?_
    refine z_icmp_ge 16 dX6_bit_7 (by decide) (fun c_2 => ?_) (fun c_2 => ?_)
    · refine z_iconst 0 dX6_bit_16 (by decide) ?_
      exact y_iret dX6_bit_17 rfl (by simp [sbit, c_1, c_2]) rfl
    · refine z_iconst 1 dX6_bit_10 (by decide) ?_
      refine z_iload_n 0 dX6_bit_11 rfl rfl ?_
      refine z_ishl dX6_bit_12 ?_
      refine z_goto 17 dX6_bit_13 (by decide) ?_
      exact y_iret dX6_bit_17 rfl (by simp [sbit, c_1, c_2]) rfl
set_option maxRecDepth 100000 in
set_option maxHeartbeats 4000000 in
theorem c_has {m : zmem} {s k : Int32} : Ei MX6_has 0 [.int s, .int k] m (shas s k) (m) := by
  refine Ei.of (by decide) (Nat.le_of_ble_eq_true rfl) ?_
  show Z _ 0 [(0, .int s), (1, .int k)] _ _ _ _
  refine z_iload_n 1 dX6_has_0 rfl rfl ?_
  refine z_if_lt 23 dX6_has_1 (by decide) (fun c_1 => ?_) (fun c_1 => ?_)
  · refine z_iconst 0 dX6_has_23 (by decide) ?_
    exact y_zret dX6_has_24 rfl (by simp) (by simp [shas, c_1]) rfl
  · refine z_iload_n 1 dX6_has_4 rfl rfl ?_
    refine z_bipush 31 dX6_has_5 (by decide) ?_
    refine z_icmp_ge 23 dX6_has_7 (by decide) (fun c_2 => ?_) (fun c_2 => ?_)
    · refine z_iconst 0 dX6_has_23 (by decide) ?_
      exact y_zret dX6_has_24 rfl (by simp) (by simp [shas, c_1, c_2]) rfl
    · refine z_iload_n 0 dX6_has_10 rfl rfl ?_
      refine z_iload_n 1 dX6_has_11 rfl rfl ?_
      refine z_ishr dX6_has_12 ?_
      refine z_iconst 1 dX6_has_13 (by decide) ?_
      refine z_iand dX6_has_14 ?_
      refine z_iconst 1 dX6_has_15 (by decide) ?_
      refine z_icmp_ne 23 dX6_has_16 (by decide) (fun c_3 => ?_) (fun c_3 => ?_)
      · refine z_iconst 0 dX6_has_23 (by decide) ?_
        exact y_zret dX6_has_24 rfl (by simp) (by simp [shas, c_1, c_2, c_3]) rfl
      · refine z_iconst 1 dX6_has_19 (by decide) ?_
        refine z_goto 24 dX6_has_20 (by decide) ?_
        exact y_zret dX6_has_24 rfl (by simp) (by simp [shas, c_1, c_2, c_3]) rfl
set_option maxRecDepth 100000 in
set_option maxHeartbeats 4000000 in
theorem c_allBelow {m : zmem} {k : Int32} : Ei MX6_allBelow 1 [.int k] m (sbit k - 1) (m) := by
  refine Ei.of (by decide) (Nat.le_of_ble_eq_true rfl) ?_
  show Z _ 0 [(0, .int k)] _ _ _ _
  refine z_iload_n 0 dX6_allBelow_0 rfl rfl ?_
  refine y_Si [_] _ kX6_199 c_bit dX6_allBelow_1 rfl rfl (Nat.le_of_ble_eq_true rfl) (Nat.le_of_ble_eq_true rfl) ⟨Nat.zero_le _, Nat.zero_le _⟩ ?_
  refine z_iconst 1 dX6_allBelow_4 (by decide) ?_
  refine z_isub dX6_allBelow_5 ?_
  exact y_iret dX6_allBelow_6 rfl rfl rfl
