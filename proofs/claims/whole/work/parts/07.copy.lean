/-! counters -/
theorem nat_toInt {k : Nat} (h : k < 2147483648) : (Int32.ofNat k).toInt = k := Int32.toInt_ofNat_of_lt h
theorem nat_le {a b : Nat} (ha : a < 2147483648) (hb : b < 2147483648) : (Int32.ofNat a ≤ Int32.ofNat b) ↔ a ≤ b := by
  rw [Int32.le_iff_toInt_le, nat_toInt ha, nat_toInt hb]
  omega
theorem nat_succ (k : Nat) : Int32.ofNat k + 1 = Int32.ofNat (k + 1) := by
  rw [Int32.ofNat_add]
  rfl
/-- a counter that has come to its bound goes no further; one below goes on -/
theorem dz {b x : Int32} {N k : Nat} (hx : x = Int32.ofNat k) (hb : b = Int32.ofNat N) (h : N ≤ k) (hk : k < 2147483648) (c : ¬ b ≤ x) : False := by
  subst hx; subst hb
  exact c ((nat_le (by omega) hk).mpr h)
theorem ds {b x : Int32} {N k : Nat} (hx : x = Int32.ofNat k) (hb : b = Int32.ofNat N) (h : k < N) (hN : N < 2147483648) (c : b ≤ x) : False := by
  subst hx; subst hb
  have := (nat_le hN (by omega)).mp c
  omega
theorem z_itop {B : zB} {pc : Nat} {lv : zL} {st : List Value} {h : zH} {ce sl : Nat} {x y : Int32} (e : x = y) (k : Z B pc lv (.int y :: st) h ce sl) : Z B pc lv (.int x :: st) h ce sl := by subst e; exact k
/-- the row q (of length nq) laid over the row p (of length np), eight places -/
def scopy (q nq p np : Nat) : Nat → Nat → zmem → zmem
  | 0, _, m => m
  | n + 1, k, m => scopy q nq p np n (k + 1) (aput m p np (Int32.ofNat k) (aat nq (m q) (Int32.ofNat k)))
set_option maxRecDepth 100000 in
set_option maxHeartbeats 4000000 in
theorem c_copyRow {m : zmem} {q nq p np : Nat} (hq : zshape[q]? = some (zarr nq)) (hnq : nq < 2147483648) (hp0 : zshape[p]? = some (zarr np)) (hnp : np < 2147483648) : E0 MX6_copyRow 1 [.ref q, .ref p] m (scopy q nq p np 8 0 m) := by
  refine E0.of (by decide) (Nat.le_of_ble_eq_true rfl) ?_
  show Z _ 0 [(0, .ref q), (1, .ref p)] _ _ _ _
  refine z_iconst 0 dX6_copyRow_0 (by decide) ?_
  refine z_istore_n (lv' := [(2, .int 0), (0, .ref q), (1, .ref p)]) dX6_copyRow_1 rfl (Nat.le_of_ble_eq_true rfl) rfl ?_
  have loop2 : ∀ (n : Nat) (k : Nat) (x : Int32) (mm : zmem), k + n = 8 → x = Int32.ofNat k → scopy q nq p np 8 0 m = scopy q nq p np n k mm → Z (zMB (Q0 (scopy q nq p np 8 0 m)) 1 MX6_copyRow) 2 [(0, .ref q), (1, .ref p), (2, .int x)] [] (hp mm) 0 0 := by
    intro n
    induction n with
    | zero =>
      intro k x mm hk hx hr
      refine z_iload_n 2 dX6_copyRow_2 rfl rfl ?_
      refine z_bipush 8 dX6_copyRow_3 (by decide) ?_
      refine z_icmp_ge 24 dX6_copyRow_5 (by decide) (fun c_1 => ?_) (fun c_1 => ?_)
      · exact y_vret dX6_copyRow_24 rfl hr.symm
      · exact (dz hx (b := 8) (N := 8) rfl (by omega) (by omega) c_1).elim
    | succ n ih2 =>
      intro k x mm hk hx hr
      refine z_iload_n 2 dX6_copyRow_2 rfl rfl ?_
      refine z_bipush 8 dX6_copyRow_3 (by decide) ?_
      refine z_icmp_ge 24 dX6_copyRow_5 (by decide) (fun c_2 => ?_) (fun c_2 => ?_)
      · exact (ds hx (b := 8) (N := 8) rfl (by omega) (by omega) c_2).elim
      · refine z_aload_n 1 dX6_copyRow_8 rfl rfl ?_
        refine z_iload_n 2 dX6_copyRow_9 rfl rfl ?_
        refine z_aload_n 0 dX6_copyRow_10 rfl rfl ?_
        refine z_iload_n 2 dX6_copyRow_11 rfl rfl ?_
        refine y_Si [_, _] _ kX6_142 (c_at hq hnq) dX6_copyRow_12 rfl rfl (Nat.le_of_ble_eq_true rfl) (Nat.le_of_ble_eq_true rfl) ⟨Nat.zero_le _, Nat.zero_le _⟩ ?_
        refine y_S0 [_, _, _] _ kX6_188 (c_put hp0 hnp) dX6_copyRow_15 rfl rfl (Nat.le_of_ble_eq_true rfl) (Nat.le_of_ble_eq_true rfl) ⟨Nat.zero_le _, Nat.zero_le _⟩ ?_
        obtain ⟨v_3, e_3⟩ : ∃ y : Int32, y = x + 1 := ⟨_, rfl⟩
        refine z_iinc (lv' := [(2, .int v_3), (0, .ref q), (1, .ref p)]) 2 v_3 dX6_copyRow_18 rfl (by rw [e_3]; rfl) (Nat.le_of_ble_eq_true rfl) rfl ?_
        refine z_goto 2 dX6_copyRow_21 (by decide) ?_
        refine z_sub [1,2,0] rfl ?_
        exact ih2 (k + 1) _ _ (by omega) (by rw [e_3, hx]; exact nat_succ k) (hr.trans (by rw [hx]; rfl))
  refine z_sub [1,2,0] rfl ?_
  exact loop2 8 0 _ _ rfl rfl rfl
