/-! the reference: its rows stand in cells 58 .. 74 -/
def wt (m : zmem) (X o : Nat) (d : Int32) : Int32 := m 58 (X + o + d.toNatClampNeg)
def wp (m : zmem) (X o : Nat) (d v : Int32) : zmem := mset m 58 (X + o + d.toNatClampNeg) v
theorem natc {k : Nat} (h : k < 2147483648) : (Int32.ofNat k).toNatClampNeg = k := by
  have e : (Int32.ofNat k).toNatClampNeg = (Int32.ofNat k).toInt.toNat := rfl
  rw [e, nat_toInt h]
  omega
theorem vk {k : Nat} (h : k < 8) : vp_in (Int32.ofNat k) 8 := by
  intro q
  rw [natc (by omega), Int32.lt_iff_toInt_lt, nat_toInt (by omega), show (0 : Int32).toInt = 0 from rfl] at q
  omega
theorem vp_nn {d : Int32} {n : Nat} (h : vp_in d n) : d = Int32.ofNat d.toNatClampNeg := by
  have h0 : ¬ d < 0 := fun q => h (Or.inl q)
  have h1 := Int32.le_iff_toInt_le.mp (Int32.not_lt.mp h0)
  rw [show (0 : Int32).toInt = 0 from rfl] at h1
  have e : d.toNatClampNeg = d.toInt.toNat := rfl
  have hb := Int32.toInt_lt d
  apply Int32.toInt_inj.mp
  rw [nat_toInt (by rw [e]; omega), e]
  omega
theorem wi0 {d : Int32} (h : vp_in d 8) : d = Int32.ofNat d.toNatClampNeg := vp_nn h
theorem vl {d : Int32} {n : Nat} (h : vp_in d n) : d.toNatClampNeg < n := by
  have h0 : ¬ n ≤ d.toNatClampNeg := fun q => h (Or.inr q)
  omega
theorem vn {d : Int32} {n : Nat} (h : vp_in d 8) (hn : 8 ≤ n) : d.toNatClampNeg < n := Nat.lt_of_lt_of_le (vl h) hn
theorem wn {d : Int32} {a n : Nat} (h : vp_in d 8) (hn : a + 8 ≤ n) : a + d.toNatClampNeg < n := by
  have := vl h
  omega
theorem wiN {a : Nat} {d : Int32} (h : vp_in d 8) : Int32.ofNat a + d = Int32.ofNat (a + d.toNatClampNeg) := by
  rw [Int32.ofNat_add, ← wi0 h]
theorem wiA {X o : Nat} {d : Int32} (h : vp_in d 8) : Int32.ofNat X + Int32.ofNat o + d = Int32.ofNat (X + o + d.toNatClampNeg) := by
  rw [Int32.ofNat_add, Int32.ofNat_add, ← wi0 h]
theorem wiB {a X o : Nat} {d : Int32} (h : vp_in d 8) (e : a = X + o := by decide) : Int32.ofNat a + d = Int32.ofNat (X + o + d.toNatClampNeg) := by
  subst e
  exact wiN h
theorem wiC {X : Nat} {d : Int32} (h : vp_in d 8) : Int32.ofNat X + d = Int32.ofNat (X + 0 + d.toNatClampNeg) := wiN h
theorem wiD {d : Int32} (h : vp_in d 8) : d = Int32.ofNat (0 + 0 + d.toNatClampNeg) := by
  rw [show 0 + 0 + d.toNatClampNeg = d.toNatClampNeg by omega]
  exact wi0 h
theorem wiH {X o : Nat} : Int32.ofNat X + Int32.ofNat o = Int32.ofNat (X + o + (0 : Int32).toNatClampNeg) := (Int32.ofNat_add X o).symm
theorem wb {X o : Nat} {d : Int32} (hX : X ≤ 300) (h : vp_in d 8) (ho : o ≤ 92) : X + o + d.toNatClampNeg < 400 := by
  have := vl h
  omega
theorem zsh_le {q n : Nat} {ty : FieldType} (h : zshape[q]? = some (.inl (ty, n))) : n ≤ 1024 := by
  have a : ∀ s ∈ zshape, (match s with | .inl a => a.2 | .inr _ => 0) ≤ 1024 := by decide
  exact a _ (List.mem_of_getElem? h)
theorem vN {i : Int32} {N n : Nat} (hi : i = Int32.ofNat N) (hN : N < n) (hn : n ≤ 1024) : vp_in i n := by
  subst hi
  intro q
  rw [natc (by omega), Int32.lt_iff_toInt_lt, nat_toInt (by omega), show (0 : Int32).toInt = 0 from rfl] at q
  omega
section ZW
variable {B : zB} {pc : Nat} {lv : zL} {st : List Value} {m : zmem} {ce sl : Nat}
theorem y_ald {q n N : Nat} {i : Int32} (hd : decode (zbc B) pc = .ok (.iaload, 1)) (hs : zshape[q]? = some (.inl (.int, n))) (hi : i = Int32.ofNat N) (hN : N < n) (kk : Z B (pc + 1) lv (.int (m q N) :: st) (hp m) ce sl) : Z B pc lv (.int i :: .ref q :: st) (hp m) ce sl := by
  refine y_iald hd hs (vN hi hN (zsh_le hs)) ?_
  have := zsh_le hs
  rw [hi, natc (by omega)]
  exact kk
theorem y_ast {q n N : Nat} {i x : Int32} (hd : decode (zbc B) pc = .ok (.iastore, 1)) (hs : zshape[q]? = some (.inl (.int, n))) (hi : i = Int32.ofNat N) (hN : N < n) (kk : Z B (pc + 1) lv st (hp (mset m q N x)) ce sl) : Z B pc lv (.int x :: .int i :: .ref q :: st) (hp m) ce sl := by
  refine y_iast hd hs (vN hi hN (zsh_le hs)) ?_
  have := zsh_le hs
  rw [hi, natc (by omega)]
  exact kk
theorem y_wld {X o : Nat} {d i : Int32} (hd : decode (zbc B) pc = .ok (.iaload, 1)) (hi : i = Int32.ofNat (X + o + d.toNatClampNeg)) (hb : X + o + d.toNatClampNeg < 400) (kk : Z B (pc + 1) lv (.int (wt m X o d) :: st) (hp m) ce sl) : Z B pc lv (.int i :: .ref 58 :: st) (hp m) ce sl := y_ald (n := 400) hd rfl hi hb kk
theorem y_wst {X o : Nat} {d i x : Int32} (hd : decode (zbc B) pc = .ok (.iastore, 1)) (hi : i = Int32.ofNat (X + o + d.toNatClampNeg)) (hb : X + o + d.toNatClampNeg < 400) (kk : Z B (pc + 1) lv st (hp (wp m X o d x)) ce sl) : Z B pc lv (.int x :: .int i :: .ref 58 :: st) (hp m) ce sl := y_ast (n := 400) hd rfl hi hb kk
end ZW
theorem cmp_lt0 {a b : Int64} : lg_cmp a b < 0 ↔ a < b := by
  unfold lg_cmp
  by_cases h : b < a
  · simp [h, Int64.not_lt.mpr (Int64.le_of_lt h)]
  · by_cases h2 : a = b
    · simp [h2]
    · have h3 : a < b := Int64.lt_of_le_of_ne (Int64.not_lt.mp h) h2
      simp [h, h2, h3]
theorem cmp_gt0 {a b : Int64} : 0 < lg_cmp a b ↔ b < a := by
  unfold lg_cmp
  by_cases h : b < a
  · simp [h]
  · by_cases h2 : a = b
    · simp [h2]
    · simp [h, h2]
def rin (v lo hi : Int64) : Int32 := if v < lo then 0 else if hi < v then 0 else 1
def rini (v lo hi : Int32) : Int32 := if v < lo then 0 else if hi < v then 0 else 1
theorem rin_i {v lo hi : Int32} : rin v.toInt64 lo.toInt64 hi.toInt64 = rini v lo hi := by
  simp [rin, rini, Int64.lt_iff_toInt_lt, Int32.lt_iff_toInt_lt]
theorem rini01 (v lo hi : Int32) : rini v lo hi = 0 ∨ rini v lo hi = 1 := by
  unfold rini
  split
  · exact Or.inl rfl
  · split
    · exact Or.inl rfl
    · exact Or.inr rfl
theorem nat_sub1 {D : Nat} (h : D ≤ 400) : (Int32.ofNat D - 1).toInt = (D : Int) - 1 := by
  rw [Int32.toInt_sub, nat_toInt (by omega), show (1 : Int32).toInt = 1 from rfl]
  show Int.bmod _ 4294967296 = _
  unfold Int.bmod
  dsimp only
  split <;> omega
theorem rini_sin {y d : Int32} {D : Nat} (hy : y = Int32.ofNat D) (hD : D ≤ 400) : rini d 0 (y - 1) = sin y d := by
  subst hy
  simp only [rini, sin]
  by_cases h : d < 0
  · simp [h]
  · have e : (Int32.ofNat D - 1 < d) ↔ (Int32.ofNat D ≤ d) := by
      rw [Int32.lt_iff_toInt_lt, Int32.le_iff_toInt_le, nat_sub1 hD, nat_toInt (by omega)]
      omega
    simp [h, e]
def RI (m : zmem) (D Y C L W : Nat) : Prop := m 64 1 = Int32.ofNat D ∧ D ≤ 7 ∧ m 64 0 = Int32.ofNat Y ∧ Y ≤ 8 ∧ m 57 10 = Int32.ofNat C ∧ C ≤ 8 ∧ m 57 12 = Int32.ofNat L ∧ L ≤ 400 ∧ m 57 30 = Int32.ofNat W ∧ W ≤ 20
def rhas (s k : Int32) : Int32 := if ¬ (s >>> (k &&& 31)) &&& 1 = 1 then 0 else 1
def rones (s : Int32) : Int32 := sfold (fun k n => n + ((s >>> (Int32.ofNat k &&& 31)) &&& 1)) 8 0 0
def rsize (x : Int32) : Int32 := if 0 ≤ x then x else 0 - x
def rlf (m : zmem) (X : Nat) (d : Int32) : Int32 := if 0 ≤ wt m X 40 d then 0 else if ¬ wt m X 48 d = 0 then 0 else 1
theorem rlf01 (m : zmem) (X : Nat) (d : Int32) : rlf m X d = 0 ∨ rlf m X d = 1 := by
  unfold rlf
  split
  · exact Or.inl rfl
  · split
    · exact Or.inl rfl
    · exact Or.inr rfl
def rloft (m : zmem) (X D : Nat) : Int32 := sfold (fun k s => s ||| (rlf m X (Int32.ofNat k) <<< (Int32.ofNat k &&& 31))) D 0 0
def rldf (m : zmem) (X : Nat) (k : Nat) (s : Int32) : Int32 := s ||| ((if wt m X 40 (Int32.ofNat k) < 0 then 0 else 1) <<< (Int32.ofNat k &&& 31))
def rlaid (m : zmem) (X D : Nat) : Int32 := sfold (rldf m X) D 0 0
def rwho (m : zmem) (X D : Nat) (i : Int32) : Int32 := sfind (fun k => decide (wt m X 40 (Int32.ofNat k) = i)) D 0
def rval (m : zmem) (X : Nat) (c d : Int32) : Int32 := if c = 0 then wt m X 8 d else if c = 1 then wt m X 16 d else if c = 2 then wt m X 24 d else 0 - m 63 d.toNatClampNeg
def rvd (m : zmem) (X : Nat) (a b : Int32) (k : Nat) : Int32 := rval m X (m 65 k) a - rval m X (m 65 k) b
def rabc (m : zmem) (X : Nat) (a b : Int32) : Nat → Nat → Int32
  | 0, _ => if b ≤ a then 0 else 1
  | n + 1, k => if rvd m X a b k = 0 then rabc m X a b n (k + 1) else if rvd m X a b k ≤ 0 then 0 else 1
theorem rabc01 (m : zmem) (X : Nat) (a b : Int32) : ∀ n k, rabc m X a b n k = 0 ∨ rabc m X a b n k = 1 := by
  intro n
  induction n with
  | zero => intro k; unfold rabc; split; exact Or.inl rfl; exact Or.inr rfl
  | succ n ih =>
    intro k
    unfold rabc
    split
    · exact ih (k + 1)
    · split
      · exact Or.inl rfl
      · exact Or.inr rfl
def rah (m : zmem) (X C : Nat) (a b : Int32) : Int32 := if wt m X 32 a = 0 then (if wt m X 32 b = 0 then rabc m X a b C 0 else 1) else (if wt m X 32 b = 0 then 0 else rabc m X a b C 0)
def rplc (m : zmem) (X C : Nat) (d : Int32) (k : Nat) : Int32 := if Int32.ofNat k = d then 0 else if rlf m X (Int32.ofNat k) = 0 then 0 else if rah m X C (Int32.ofNat k) d = 0 then 0 else 1
def rplace (m : zmem) (X C D : Nat) (d : Int32) : Int32 := sfold (fun k s => s + rplc m X C d k) D 0 0
def rordc (m : zmem) (X C D : Nat) (i : Int32) (k : Nat) : Bool := decide (¬ rlf m X (Int32.ofNat k) = 0 ∧ rplace m X C D (Int32.ofNat k) = i)
def rorder (m : zmem) (X C D : Nat) (i : Int32) : Int32 := sfind (rordc m X C D i) D 0
def rk_told (m : zmem) (D : Nat) (x : Int32) : Int32 := if x = 0 then m 64 0 else if x = 1 then m 64 1 else if x = 2 then m 57 12 else if x = 3 then m 57 2 else if x = 4 then m 57 3 else if x = 5 then rloft m 0 D else if x = 6 then rlaid m 0 D else if x = 7 then m 58 72 else if x = 8 then m 57 30 else if x = 9 then m 57 10 else -1000000002
def rk_yard (m : zmem) (D : Nat) (i x : Int32) : Int32 := if sin (m 64 0) i = 0 then -1000000001 else if x = 0 then wt m 0 0 i else if x = 1 then rwho m 0 D i else -1000000002
def rk_dead (m : zmem) (d x : Int32) : Int32 := if sin (m 64 1) d = 0 then -1000000001 else if x = 0 then wt m 0 8 d else if x = 1 then wt m 0 16 d else if x = 2 then m 63 d.toNatClampNeg else if x = 3 then wt m 0 24 d else if x = 4 then wt m 0 32 d else if x = 5 then wt m 0 40 d else if x = 6 then wt m 0 48 d else if x = 7 then wt m 0 56 d else if x = 8 then wt m 0 64 d else -1000000002
theorem sin_vp {y d : Int32} {D : Nat} (hy : y = Int32.ofNat D) (hD : D ≤ 8) (h : ¬ sin y d = 0) : vp_in d 8 := by
  subst hy
  intro q
  apply h
  unfold sin
  rcases q with q | q
  · simp [q]
  · by_cases h0 : d < 0
    · simp [h0]
    · have e : Int32.ofNat D ≤ d := by
        rw [Int32.le_iff_toInt_le, nat_toInt (by omega)]
        have e2 : d.toNatClampNeg = d.toInt.toNat := rfl
        omega
      simp [h0, e]
set_option maxRecDepth 100000 in
set_option maxHeartbeats 4000000 in
theorem c7_in {m : zmem} {v lo hi : Int64} : Ei MX7_in 0 [.long v, .long lo, .long hi] m (rin v lo hi) (m) := by
  refine Ei.of (by decide) (Nat.le_of_ble_eq_true rfl) ?_
  show Z _ 0 [(0, .long v), (2, .long lo), (4, .long hi)] _ _ _ _
  refine z_lload_n 0 dX7_in_0 rfl rfl ?_
  refine z_lload_n 1 dX7_in_1 rfl rfl ?_
  refine z_lcmp dX7_in_2 ?_
  refine z_if_lt 17 dX7_in_3 (by decide) (fun c_1 => ?_) (fun c_1 => ?_)
  · refine z_iconst 0 dX7_in_17 (by decide) ?_
    exact y_zret dX7_in_18 rfl (by simp) (by simp only [cmp_lt0, cmp_gt0] at *; simp [rin, c_1]) rfl
  · refine z_lload_n 0 dX7_in_6 rfl rfl ?_
    refine z_lload 2 dX7_in_7 rfl ?_
    refine z_lcmp dX7_in_9 ?_
    refine z_if_gt 17 dX7_in_10 (by decide) (fun c_2 => ?_) (fun c_2 => ?_)
    · refine z_iconst 0 dX7_in_17 (by decide) ?_
      exact y_zret dX7_in_18 rfl (by simp) (by simp only [cmp_lt0, cmp_gt0] at *; simp [rin, c_1, c_2]) rfl
    · refine z_iconst 1 dX7_in_13 (by decide) ?_
      refine z_goto 18 dX7_in_14 (by decide) ?_
      exact y_zret dX7_in_18 rfl (by simp) (by simp only [cmp_lt0, cmp_gt0] at *; simp [rin, c_1, c_2]) rfl
theorem c7_ini {m : zmem} {v lo hi : Int32} {l h : Int64} (hl : l = lo.toInt64 := by decide) (hh : h = hi.toInt64 := by decide) : Ei MX7_in 0 [.long v.toInt64, .long l, .long h] m (rini v lo hi) m := by
  subst hl; subst hh
  rw [← rin_i]
  exact c7_in
set_option maxRecDepth 100000 in
set_option maxHeartbeats 4000000 in
theorem c7_one {m : zmem} {b : Int32} (hb : b = 0 ∨ b = 1) : Ei MX7_one 0 [.int b] m (b) (m) := by
  refine Ei.of (by decide) (Nat.le_of_ble_eq_true rfl) ?_
  show Z _ 0 [(0, .int b)] _ _ _ _
  refine z_iload_n 0 dX7_one_0 rfl rfl ?_
  refine z_if_eq 8 dX7_one_1 (by decide) (fun c_1 => ?_) (fun c_1 => ?_)
  · refine z_iconst 0 dX7_one_8 (by decide) ?_
    exact y_iret dX7_one_9 rfl (by rcases hb with rfl | rfl <;> simp_all) rfl
  · refine z_iconst 1 dX7_one_4 (by decide) ?_
    refine z_goto 9 dX7_one_5 (by decide) ?_
    exact y_iret dX7_one_9 rfl (by rcases hb with rfl | rfl <;> simp_all) rfl
set_option maxRecDepth 100000 in
set_option maxHeartbeats 4000000 in
theorem c7_has {m : zmem} {s k : Int32} : Ei MX7_has 0 [.int s, .int k] m (rhas s k) (m) := by
  refine Ei.of (by decide) (Nat.le_of_ble_eq_true rfl) ?_
  show Z _ 0 [(0, .int s), (1, .int k)] _ _ _ _
  refine z_iload_n 0 dX7_has_0 rfl rfl ?_
  refine z_iload_n 1 dX7_has_1 rfl rfl ?_
  refine z_ishr dX7_has_2 ?_
  refine z_iconst 1 dX7_has_3 (by decide) ?_
  refine z_iand dX7_has_4 ?_
  refine z_iconst 1 dX7_has_5 (by decide) ?_
  refine z_icmp_ne 13 dX7_has_6 (by decide) (fun c_1 => ?_) (fun c_1 => ?_)
  · refine z_iconst 0 dX7_has_13 (by decide) ?_
    exact y_zret dX7_has_14 rfl (by simp) (by simp [rhas, c_1]) rfl
  · refine z_iconst 1 dX7_has_9 (by decide) ?_
    refine z_goto 14 dX7_has_10 (by decide) ?_
    exact y_zret dX7_has_14 rfl (by simp) (by simp [rhas, c_1]) rfl
set_option maxRecDepth 100000 in
set_option maxHeartbeats 4000000 in
theorem c7_ones {m : zmem} {s : Int32} : Ei MX7_ones 0 [.int s] m (rones s) (m) := by
  refine Ei.of (by decide) (Nat.le_of_ble_eq_true rfl) ?_
  show Z _ 0 [(0, .int s)] _ _ _ _
  refine z_iconst 0 dX7_ones_0 (by decide) ?_
  refine z_istore_n (lv' := [(1, .int 0), (0, .int s)]) dX7_ones_1 rfl (Nat.le_of_ble_eq_true rfl) rfl ?_
  refine z_iconst 0 dX7_ones_2 (by decide) ?_
  refine z_istore_n (lv' := [(2, .int 0), (1, .int 0), (0, .int s)]) dX7_ones_3 rfl (Nat.le_of_ble_eq_true rfl) rfl ?_
  have loop4 : ∀ (q : Nat) (k : Nat) (n : Int32), k + q = 8 → rones s = sfold (fun k n => n + ((s >>> (Int32.ofNat k &&& 31)) &&& 1)) q k n → Z (zMB (Qi (rones s) (m)) 0 MX7_ones) 4 [(0, .int s), (1, .int n), (2, .int (Int32.ofNat k))] [] (hp m) 0 0 := by
    intro q
    induction q with
    | zero =>
      intro k n hk hr
      refine z_iload_n 2 dX7_ones_4 rfl rfl ?_
      refine z_bipush 8 dX7_ones_5 (by decide) ?_
      refine z_icmp_ge 24 dX7_ones_7 (by decide) (fun c_1 => ?_) (fun c_1 => ?_)
      · refine z_iload_n 1 dX7_ones_24 rfl rfl ?_
        exact y_iret dX7_ones_25 rfl hr.symm rfl
      · exact (dz rfl (b := 8) (N := 8) rfl (by omega) (by omega) c_1).elim
    | succ q ih4 =>
      intro k n hk hr
      refine z_iload_n 2 dX7_ones_4 rfl rfl ?_
      refine z_bipush 8 dX7_ones_5 (by decide) ?_
      refine z_icmp_ge 24 dX7_ones_7 (by decide) (fun c_2 => ?_) (fun c_2 => ?_)
      · exact (ds rfl (b := 8) (N := 8) rfl (by omega) (by omega) c_2).elim
      · refine z_iload_n 1 dX7_ones_10 rfl rfl ?_
        refine z_iload_n 0 dX7_ones_11 rfl rfl ?_
        refine z_iload_n 2 dX7_ones_12 rfl rfl ?_
        refine z_ishr dX7_ones_13 ?_
        refine z_iconst 1 dX7_ones_14 (by decide) ?_
        refine z_iand dX7_ones_15 ?_
        refine z_iadd dX7_ones_16 ?_
        refine z_topi (fun v_3 e_3 => ?_)
        refine z_istore_n (lv' := [(1, .int v_3), (0, .int s), (2, .int (Int32.ofNat k))]) dX7_ones_17 rfl (Nat.le_of_ble_eq_true rfl) rfl ?_
        obtain ⟨v_4, e_4⟩ : ∃ y : Int32, y = (Int32.ofNat k) + 1 := ⟨_, rfl⟩
        refine z_iinc (lv' := [(2, .int v_4), (1, .int v_3), (0, .int s)]) 2 v_4 dX7_ones_18 rfl (by rw [e_4]; rfl) (Nat.le_of_ble_eq_true rfl) rfl ?_
        refine z_goto 4 dX7_ones_21 (by decide) ?_
        obtain rfl : v_4 = Int32.ofNat (k + 1) := e_4.trans (nat_succ k)
        refine z_sub [2,1,0] rfl ?_
        exact ih4 (k + 1) _ (by omega) (hr.trans (congrArg (sfold _ q (k + 1)) (by simp [c_2, e_3])))
  refine z_sub [2,1,0] rfl ?_
  exact loop4 (8) 0 _ (by omega) rfl
set_option maxRecDepth 100000 in
set_option maxHeartbeats 4000000 in
theorem c7_size {m : zmem} {x : Int32} : Ei MX7_size 0 [.int x] m (rsize x) (m) := by
  refine Ei.of (by decide) (Nat.le_of_ble_eq_true rfl) ?_
  show Z _ 0 [(0, .int x)] _ _ _ _
  refine z_iload_n 0 dX7_size_0 rfl rfl ?_
  refine z_if_ge 9 dX7_size_1 (by decide) (fun c_1 => ?_) (fun c_1 => ?_)
  · refine z_iload_n 0 dX7_size_9 rfl rfl ?_
    exact y_iret dX7_size_10 rfl (by simp [rsize, c_1]) rfl
  · refine z_iload_n 0 dX7_size_4 rfl rfl ?_
    refine z_ineg dX7_size_5 ?_
    refine z_goto 10 dX7_size_6 (by decide) ?_
    exact y_iret dX7_size_10 rfl (by simp [rsize, c_1]) rfl
set_option maxRecDepth 100000 in
set_option maxHeartbeats 4000000 in
theorem c7_isYard {m : zmem} {D Y C L W : Nat} (hI : RI m D Y C L W) {i : Int32} : Ei MX7_isYard 1 [.ref 57, .int i] m (sin (m 64 0) i) (m) := by
  obtain ⟨hD, hD7, hY, hY8, hC, hC8, hL, hL4, hW, hW20⟩ := id hI
  refine Ei.of (by decide) (Nat.le_of_ble_eq_true rfl) ?_
  show Z _ 0 [(0, .ref 57), (1, .int i)] _ _ _ _
  refine z_iload_n 1 dX7_isYard_0 rfl rfl ?_
  refine z_i2l dX7_isYard_1 ?_
  refine z_lconst 0 dX7_isYard_2 (by decide) ?_
  refine z_aload_n 0 dX7_isYard_3 rfl rfl ?_
  refine y_getR fX7_36 dX7_isYard_4 rfl rfl ?_
  refine z_iconst 0 dX7_isYard_7 (by decide) ?_
  refine y_ald (N := 0) dX7_isYard_8 rfl rfl (by decide) ?_
  refine z_iconst 1 dX7_isYard_9 (by decide) ?_
  refine z_isub dX7_isYard_10 ?_
  refine z_i2l dX7_isYard_11 ?_
  refine y_Si [_, _, _] _ kX7_77 (c7_ini (lo := 0) (hh := rfl)) dX7_isYard_12 rfl rfl (Nat.le_of_ble_eq_true rfl) (Nat.le_of_ble_eq_true rfl) ⟨Nat.zero_le _, Nat.zero_le _⟩ ?_
  exact y_zret dX7_isYard_15 rfl (rini01 _ _ _) (rini_sin hY (by omega)) rfl
set_option maxRecDepth 100000 in
set_option maxHeartbeats 4000000 in
theorem c7_isDead {m : zmem} {D Y C L W : Nat} (hI : RI m D Y C L W) {i : Int32} : Ei MX7_isDead 1 [.ref 57, .int i] m (sin (m 64 1) i) (m) := by
  obtain ⟨hD, hD7, hY, hY8, hC, hC8, hL, hL4, hW, hW20⟩ := id hI
  refine Ei.of (by decide) (Nat.le_of_ble_eq_true rfl) ?_
  show Z _ 0 [(0, .ref 57), (1, .int i)] _ _ _ _
  refine z_iload_n 1 dX7_isDead_0 rfl rfl ?_
  refine z_i2l dX7_isDead_1 ?_
  refine z_lconst 0 dX7_isDead_2 (by decide) ?_
  refine z_aload_n 0 dX7_isDead_3 rfl rfl ?_
  refine y_getR fX7_36 dX7_isDead_4 rfl rfl ?_
  refine z_iconst 1 dX7_isDead_7 (by decide) ?_
  refine y_ald (N := 1) dX7_isDead_8 rfl rfl (by decide) ?_
  refine z_iconst 1 dX7_isDead_9 (by decide) ?_
  refine z_isub dX7_isDead_10 ?_
  refine z_i2l dX7_isDead_11 ?_
  refine y_Si [_, _, _] _ kX7_77 (c7_ini (lo := 0) (hh := rfl)) dX7_isDead_12 rfl rfl (Nat.le_of_ble_eq_true rfl) (Nat.le_of_ble_eq_true rfl) ⟨Nat.zero_le _, Nat.zero_le _⟩ ?_
  exact y_zret dX7_isDead_15 rfl (rini01 _ _ _) (rini_sin hD (by omega)) rfl
set_option maxRecDepth 100000 in
set_option maxHeartbeats 4000000 in
theorem c7_lf {m : zmem} {X : Nat} (hX : X ≤ 300) {d : Int32} (hvd : vp_in d 8) : Ei MX7_isInLoft 0 [.ref 57, .int (Int32.ofNat X), .int d] m (rlf m X d) (m) := by
  refine Ei.of (by decide) (Nat.le_of_ble_eq_true rfl) ?_
  show Z _ 0 [(0, .ref 57), (1, .int (Int32.ofNat X)), (2, .int d)] _ _ _ _
  refine z_aload_n 0 dX7_isInLoft_0 rfl rfl ?_
  refine y_getR fX7_7 dX7_isInLoft_1 rfl rfl ?_
  refine z_iload_n 1 dX7_isInLoft_4 rfl rfl ?_
  refine z_bipush 40 dX7_isInLoft_5 (by decide) ?_
  refine z_iadd dX7_isInLoft_7 ?_
  refine z_iload_n 2 dX7_isInLoft_8 rfl rfl ?_
  refine z_iadd dX7_isInLoft_9 ?_
  refine y_wld (X := X) (o := 40) (d := d) dX7_isInLoft_10 (wiA hvd) (wb hX hvd (by decide)) ?_
  refine z_if_ge 32 dX7_isInLoft_11 (by decide) (fun c_1 => ?_) (fun c_1 => ?_)
  · refine z_iconst 0 dX7_isInLoft_32 (by decide) ?_
    exact y_zret dX7_isInLoft_33 rfl (by simp) (by simp [rlf, c_1]) rfl
  · refine z_aload_n 0 dX7_isInLoft_14 rfl rfl ?_
    refine y_getR fX7_7 dX7_isInLoft_15 rfl rfl ?_
    refine z_iload_n 1 dX7_isInLoft_18 rfl rfl ?_
    refine z_bipush 48 dX7_isInLoft_19 (by decide) ?_
    refine z_iadd dX7_isInLoft_21 ?_
    refine z_iload_n 2 dX7_isInLoft_22 rfl rfl ?_
    refine z_iadd dX7_isInLoft_23 ?_
    refine y_wld (X := X) (o := 48) (d := d) dX7_isInLoft_24 (wiA hvd) (wb hX hvd (by decide)) ?_
    refine z_if_ne 32 dX7_isInLoft_25 (by decide) (fun c_2 => ?_) (fun c_2 => ?_)
    · refine z_iconst 0 dX7_isInLoft_32 (by decide) ?_
      exact y_zret dX7_isInLoft_33 rfl (by simp) (by simp [rlf, c_1, c_2]) rfl
    · refine z_iconst 1 dX7_isInLoft_28 (by decide) ?_
      refine z_goto 33 dX7_isInLoft_29 (by decide) ?_
      exact y_zret dX7_isInLoft_33 rfl (by simp) (by simp [rlf, c_1, c_2]) rfl
set_option maxRecDepth 100000 in
set_option maxHeartbeats 4000000 in
theorem c7_loft {m : zmem} {D Y C L W : Nat} (hI : RI m D Y C L W) {X : Nat} (hX : X ≤ 300) : Ei MX7_loft 1 [.ref 57, .int (Int32.ofNat X)] m (rloft m X D) (m) := by
  obtain ⟨hD, hD7, hY, hY8, hC, hC8, hL, hL4, hW, hW20⟩ := id hI
  refine Ei.of (by decide) (Nat.le_of_ble_eq_true rfl) ?_
  show Z _ 0 [(0, .ref 57), (1, .int (Int32.ofNat X))] _ _ _ _
  refine z_iconst 0 dX7_loft_0 (by decide) ?_
  refine z_istore_n (lv' := [(2, .int 0), (0, .ref 57), (1, .int (Int32.ofNat X))]) dX7_loft_1 rfl (Nat.le_of_ble_eq_true rfl) rfl ?_
  refine z_iconst 0 dX7_loft_2 (by decide) ?_
  refine z_istore_n (lv' := [(3, .int 0), (2, .int 0), (0, .ref 57), (1, .int (Int32.ofNat X))]) dX7_loft_3 rfl (Nat.le_of_ble_eq_true rfl) rfl ?_
  have loop4 : ∀ (n : Nat) (k : Nat) (s : Int32), k + n = D → rloft m X D = sfold (fun k s => s ||| (rlf m X (Int32.ofNat k) <<< (Int32.ofNat k &&& 31))) n k s → Z (zMB (Qi (rloft m X D) (m)) 1 MX7_loft) 4 [(0, .ref 57), (1, .int (Int32.ofNat X)), (2, .int s), (3, .int (Int32.ofNat k))] [] (hp m) 0 0 := by
    intro n
    induction n with
    | zero =>
      intro k s hk hr
      refine z_iload_n 3 dX7_loft_4 rfl rfl ?_
      refine z_aload_n 0 dX7_loft_5 rfl rfl ?_
      refine y_getR fX7_36 dX7_loft_6 rfl rfl ?_
      refine z_iconst 1 dX7_loft_9 (by decide) ?_
      refine y_ald (N := 1) dX7_loft_10 rfl rfl (by decide) ?_
      refine z_icmp_ge 34 dX7_loft_11 (by decide) (fun c_1 => ?_) (fun c_1 => ?_)
      · refine z_iload_n 2 dX7_loft_34 rfl rfl ?_
        exact y_iret dX7_loft_35 rfl hr.symm rfl
      · exact (dz rfl hD (by omega) (by omega) c_1).elim
    | succ n ih4 =>
      intro k s hk hr
      refine z_iload_n 3 dX7_loft_4 rfl rfl ?_
      refine z_aload_n 0 dX7_loft_5 rfl rfl ?_
      refine y_getR fX7_36 dX7_loft_6 rfl rfl ?_
      refine z_iconst 1 dX7_loft_9 (by decide) ?_
      refine y_ald (N := 1) dX7_loft_10 rfl rfl (by decide) ?_
      refine z_icmp_ge 34 dX7_loft_11 (by decide) (fun c_2 => ?_) (fun c_2 => ?_)
      · exact (ds rfl hD (by omega) (by omega) c_2).elim
      · refine z_iload_n 2 dX7_loft_14 rfl rfl ?_
        refine z_aload_n 0 dX7_loft_15 rfl rfl ?_
        refine z_iload_n 1 dX7_loft_16 rfl rfl ?_
        refine z_iload_n 3 dX7_loft_17 rfl rfl ?_
        refine y_Vi [_, _] _ kX7_154 (c7_lf hX (vk (by omega))) rfl rfl dX7_loft_18 rfl rfl (Nat.le_of_ble_eq_true rfl) (Nat.le_of_ble_eq_true rfl) ⟨Nat.zero_le _, Nat.zero_le _⟩ ?_
        refine y_Si [_] _ kX7_157 (c7_one (by first | exact rlf01 _ _ _ | decide)) dX7_loft_21 rfl rfl (Nat.le_of_ble_eq_true rfl) (Nat.le_of_ble_eq_true rfl) ⟨Nat.zero_le _, Nat.zero_le _⟩ ?_
        refine z_iload_n 3 dX7_loft_24 rfl rfl ?_
        refine z_ishl dX7_loft_25 ?_
        refine z_ior dX7_loft_26 ?_
        refine z_topi (fun v_3 e_3 => ?_)
        refine z_istore_n (lv' := [(2, .int v_3), (0, .ref 57), (1, .int (Int32.ofNat X)), (3, .int (Int32.ofNat k))]) dX7_loft_27 rfl (Nat.le_of_ble_eq_true rfl) rfl ?_
        obtain ⟨v_4, e_4⟩ : ∃ y : Int32, y = (Int32.ofNat k) + 1 := ⟨_, rfl⟩
        refine z_iinc (lv' := [(3, .int v_4), (2, .int v_3), (0, .ref 57), (1, .int (Int32.ofNat X))]) 3 v_4 dX7_loft_28 rfl (by rw [e_4]; rfl) (Nat.le_of_ble_eq_true rfl) rfl ?_
        refine z_goto 4 dX7_loft_31 (by decide) ?_
        obtain rfl : v_4 = Int32.ofNat (k + 1) := e_4.trans (nat_succ k)
        refine z_sub [2,3,1,0] rfl ?_
        exact ih4 (k + 1) _ (by omega) (hr.trans (congrArg (sfold _ n (k + 1)) (by simp [c_2, e_3])))
  refine z_sub [2,3,1,0] rfl ?_
  exact loop4 (D) 0 _ (by omega) rfl
set_option maxRecDepth 100000 in
set_option maxHeartbeats 4000000 in
theorem c7_laid {m : zmem} {D Y C L W : Nat} (hI : RI m D Y C L W) {X : Nat} (hX : X ≤ 300) : Ei MX7_laid 1 [.ref 57, .int (Int32.ofNat X)] m (rlaid m X D) (m) := by
  obtain ⟨hD, hD7, hY, hY8, hC, hC8, hL, hL4, hW, hW20⟩ := id hI
  refine Ei.of (by decide) (Nat.le_of_ble_eq_true rfl) ?_
  show Z _ 0 [(0, .ref 57), (1, .int (Int32.ofNat X))] _ _ _ _
  refine z_iconst 0 dX7_laid_0 (by decide) ?_
  refine z_istore_n (lv' := [(2, .int 0), (0, .ref 57), (1, .int (Int32.ofNat X))]) dX7_laid_1 rfl (Nat.le_of_ble_eq_true rfl) rfl ?_
  refine z_iconst 0 dX7_laid_2 (by decide) ?_
  refine z_istore_n (lv' := [(3, .int 0), (2, .int 0), (0, .ref 57), (1, .int (Int32.ofNat X))]) dX7_laid_3 rfl (Nat.le_of_ble_eq_true rfl) rfl ?_
  have loop4 : ∀ (n : Nat) (k : Nat) (s : Int32), k + n = D → rlaid m X D = sfold (rldf m X) n k s → Z (zMB (Qi (rlaid m X D) (m)) 1 MX7_laid) 4 [(0, .ref 57), (1, .int (Int32.ofNat X)), (2, .int s), (3, .int (Int32.ofNat k))] [] (hp m) 0 0 := by
    intro n
    induction n with
    | zero =>
      intro k s hk hr
      refine z_iload_n 3 dX7_laid_4 rfl rfl ?_
      refine z_aload_n 0 dX7_laid_5 rfl rfl ?_
      refine y_getR fX7_36 dX7_laid_6 rfl rfl ?_
      refine z_iconst 1 dX7_laid_9 (by decide) ?_
      refine y_ald (N := 1) dX7_laid_10 rfl rfl (by decide) ?_
      refine z_icmp_ge 47 dX7_laid_11 (by decide) (fun c_1 => ?_) (fun c_1 => ?_)
      · refine z_iload_n 2 dX7_laid_47 rfl rfl ?_
        exact y_iret dX7_laid_48 rfl hr.symm rfl
      · exact (dz rfl hD (by omega) (by omega) c_1).elim
    | succ n ih4 =>
      intro k s hk hr
      refine z_iload_n 3 dX7_laid_4 rfl rfl ?_
      refine z_aload_n 0 dX7_laid_5 rfl rfl ?_
      refine y_getR fX7_36 dX7_laid_6 rfl rfl ?_
      refine z_iconst 1 dX7_laid_9 (by decide) ?_
      refine y_ald (N := 1) dX7_laid_10 rfl rfl (by decide) ?_
      refine z_icmp_ge 47 dX7_laid_11 (by decide) (fun c_2 => ?_) (fun c_2 => ?_)
      · exact (ds rfl hD (by omega) (by omega) c_2).elim
      · refine z_iload_n 2 dX7_laid_14 rfl rfl ?_
        refine z_aload_n 0 dX7_laid_15 rfl rfl ?_
        refine y_getR fX7_7 dX7_laid_16 rfl rfl ?_
        refine z_iload_n 1 dX7_laid_19 rfl rfl ?_
        refine z_bipush 40 dX7_laid_20 (by decide) ?_
        refine z_iadd dX7_laid_22 ?_
        refine z_iload_n 3 dX7_laid_23 rfl rfl ?_
        refine z_iadd dX7_laid_24 ?_
        refine y_wld (X := X) (o := 40) (d := Int32.ofNat k) dX7_laid_25 (wiA (vk (by omega))) (wb hX (vk (by omega)) (by decide)) ?_
        refine z_if_lt 33 dX7_laid_26 (by decide) (fun c_3 => ?_) (fun c_3 => ?_)
        · refine z_iconst 0 dX7_laid_33 (by decide) ?_
          refine y_Si [_] _ kX7_157 (c7_one (by first | exact rlf01 _ _ _ | decide)) dX7_laid_34 rfl rfl (Nat.le_of_ble_eq_true rfl) (Nat.le_of_ble_eq_true rfl) ⟨Nat.zero_le _, Nat.zero_le _⟩ ?_
          refine z_iload_n 3 dX7_laid_37 rfl rfl ?_
          refine z_ishl dX7_laid_38 ?_
          refine z_ior dX7_laid_39 ?_
          refine z_topi (fun v_4 e_4 => ?_)
          refine z_istore_n (lv' := [(2, .int v_4), (0, .ref 57), (1, .int (Int32.ofNat X)), (3, .int (Int32.ofNat k))]) dX7_laid_40 rfl (Nat.le_of_ble_eq_true rfl) rfl ?_
          obtain ⟨v_5, e_5⟩ : ∃ y : Int32, y = (Int32.ofNat k) + 1 := ⟨_, rfl⟩
          refine z_iinc (lv' := [(3, .int v_5), (2, .int v_4), (0, .ref 57), (1, .int (Int32.ofNat X))]) 3 v_5 dX7_laid_41 rfl (by rw [e_5]; rfl) (Nat.le_of_ble_eq_true rfl) rfl ?_
          refine z_goto 4 dX7_laid_44 (by decide) ?_
          obtain rfl : v_5 = Int32.ofNat (k + 1) := e_5.trans (nat_succ k)
          refine z_sub [2,3,1,0] rfl ?_
          exact ih4 (k + 1) _ (by omega) (hr.trans (congrArg (sfold _ n (k + 1)) (by simp [rldf, c_2, c_3, e_4])))
        · refine z_iconst 1 dX7_laid_29 (by decide) ?_
          refine z_goto 34 dX7_laid_30 (by decide) ?_
          refine y_Si [_] _ kX7_157 (c7_one (by first | exact rlf01 _ _ _ | decide)) dX7_laid_34 rfl rfl (Nat.le_of_ble_eq_true rfl) (Nat.le_of_ble_eq_true rfl) ⟨Nat.zero_le _, Nat.zero_le _⟩ ?_
          refine z_iload_n 3 dX7_laid_37 rfl rfl ?_
          refine z_ishl dX7_laid_38 ?_
          refine z_ior dX7_laid_39 ?_
          refine z_topi (fun v_6 e_6 => ?_)
          refine z_istore_n (lv' := [(2, .int v_6), (0, .ref 57), (1, .int (Int32.ofNat X)), (3, .int (Int32.ofNat k))]) dX7_laid_40 rfl (Nat.le_of_ble_eq_true rfl) rfl ?_
          obtain ⟨v_7, e_7⟩ : ∃ y : Int32, y = (Int32.ofNat k) + 1 := ⟨_, rfl⟩
          refine z_iinc (lv' := [(3, .int v_7), (2, .int v_6), (0, .ref 57), (1, .int (Int32.ofNat X))]) 3 v_7 dX7_laid_41 rfl (by rw [e_7]; rfl) (Nat.le_of_ble_eq_true rfl) rfl ?_
          refine z_goto 4 dX7_laid_44 (by decide) ?_
          obtain rfl : v_7 = Int32.ofNat (k + 1) := e_7.trans (nat_succ k)
          refine z_sub [2,3,1,0] rfl ?_
          exact ih4 (k + 1) _ (by omega) (hr.trans (congrArg (sfold _ n (k + 1)) (by simp [rldf, c_2, c_3, e_6])))
  refine z_sub [2,3,1,0] rfl ?_
  exact loop4 (D) 0 _ (by omega) rfl
set_option maxRecDepth 100000 in
set_option maxHeartbeats 4000000 in
theorem c7_who {m : zmem} {D Y C L W : Nat} (hI : RI m D Y C L W) {X : Nat} (hX : X ≤ 300) {i : Int32} : Ei MX7_who 0 [.ref 57, .int (Int32.ofNat X), .int i] m (rwho m X D i) (m) := by
  obtain ⟨hD, hD7, hY, hY8, hC, hC8, hL, hL4, hW, hW20⟩ := id hI
  refine Ei.of (by decide) (Nat.le_of_ble_eq_true rfl) ?_
  show Z _ 0 [(0, .ref 57), (1, .int (Int32.ofNat X)), (2, .int i)] _ _ _ _
  refine z_iconst 0 dX7_who_0 (by decide) ?_
  refine z_istore_n (lv' := [(3, .int 0), (0, .ref 57), (1, .int (Int32.ofNat X)), (2, .int i)]) dX7_who_1 rfl (Nat.le_of_ble_eq_true rfl) rfl ?_
  have loop2 : ∀ (n : Nat) (k : Nat), k + n = D → rwho m X D i = sfind (fun k => decide (wt m X 40 (Int32.ofNat k) = i)) n k → Z (zMB (Qi (rwho m X D i) (m)) 0 MX7_who) 2 [(0, .ref 57), (1, .int (Int32.ofNat X)), (2, .int i), (3, .int (Int32.ofNat k))] [] (hp m) 0 0 := by
    intro n
    induction n with
    | zero =>
      intro k hk hr
      refine z_iload_n 3 dX7_who_2 rfl rfl ?_
      refine z_aload_n 0 dX7_who_3 rfl rfl ?_
      refine y_getR fX7_36 dX7_who_4 rfl rfl ?_
      refine z_iconst 1 dX7_who_7 (by decide) ?_
      refine y_ald (N := 1) dX7_who_8 rfl rfl (by decide) ?_
      refine z_icmp_ge 35 dX7_who_9 (by decide) (fun c_1 => ?_) (fun c_1 => ?_)
      · refine z_iconst (-1) dX7_who_35 (by decide) ?_
        exact y_iret dX7_who_36 rfl (by first | exact hr.symm | (rw [hr]; simp [sfind, c_1])) rfl
      · exact (dz rfl hD (by omega) (by omega) c_1).elim
    | succ n ih2 =>
      intro k hk hr
      refine z_iload_n 3 dX7_who_2 rfl rfl ?_
      refine z_aload_n 0 dX7_who_3 rfl rfl ?_
      refine y_getR fX7_36 dX7_who_4 rfl rfl ?_
      refine z_iconst 1 dX7_who_7 (by decide) ?_
      refine y_ald (N := 1) dX7_who_8 rfl rfl (by decide) ?_
      refine z_icmp_ge 35 dX7_who_9 (by decide) (fun c_2 => ?_) (fun c_2 => ?_)
      · exact (ds rfl hD (by omega) (by omega) c_2).elim
      · refine z_aload_n 0 dX7_who_12 rfl rfl ?_
        refine y_getR fX7_7 dX7_who_13 rfl rfl ?_
        refine z_iload_n 1 dX7_who_16 rfl rfl ?_
        refine z_bipush 40 dX7_who_17 (by decide) ?_
        refine z_iadd dX7_who_19 ?_
        refine z_iload_n 3 dX7_who_20 rfl rfl ?_
        refine z_iadd dX7_who_21 ?_
        refine y_wld (X := X) (o := 40) (d := Int32.ofNat k) dX7_who_22 (wiA (vk (by omega))) (wb hX (vk (by omega)) (by decide)) ?_
        refine z_iload_n 2 dX7_who_23 rfl rfl ?_
        refine z_icmp_ne 29 dX7_who_24 (by decide) (fun c_3 => ?_) (fun c_3 => ?_)
        · obtain ⟨v_4, e_4⟩ : ∃ y : Int32, y = (Int32.ofNat k) + 1 := ⟨_, rfl⟩
          refine z_iinc (lv' := [(3, .int v_4), (0, .ref 57), (1, .int (Int32.ofNat X)), (2, .int i)]) 3 v_4 dX7_who_29 rfl (by rw [e_4]; rfl) (Nat.le_of_ble_eq_true rfl) rfl ?_
          refine z_goto 2 dX7_who_32 (by decide) ?_
          obtain rfl : v_4 = Int32.ofNat (k + 1) := e_4.trans (nat_succ k)
          refine z_sub [1,2,3,0] rfl ?_
          exact ih2 (k + 1)  (by omega) (hr.trans (by simp [sfind, c_2, c_3]))
        · refine z_iload_n 3 dX7_who_27 rfl rfl ?_
          exact y_iret dX7_who_28 rfl (by first | exact hr.symm | (rw [hr]; simp [sfind, c_2, c_3])) rfl
  refine z_sub [1,2,3,0] rfl ?_
  exact loop2 (D) 0  (by omega) rfl
set_option maxRecDepth 100000 in
set_option maxHeartbeats 4000000 in
theorem c7_val {m : zmem} {X : Nat} (hX : X ≤ 300) {c d : Int32} (hvd : vp_in d 8) : Ei MX7_valueBy 0 [.ref 57, .int (Int32.ofNat X), .int c, .int d] m (rval m X c d) (m) := by
  refine Ei.of (by decide) (Nat.le_of_ble_eq_true rfl) ?_
  show Z _ 0 [(0, .ref 57), (1, .int (Int32.ofNat X)), (2, .int c), (3, .int d)] _ _ _ _
  refine z_iload_n 2 dX7_valueBy_0 rfl rfl ?_
  refine z_if_ne 18 dX7_valueBy_1 (by decide) (fun c_1 => ?_) (fun c_1 => ?_)
  · refine z_iload_n 2 dX7_valueBy_18 rfl rfl ?_
    refine z_iconst 1 dX7_valueBy_19 (by decide) ?_
    refine z_icmp_ne 37 dX7_valueBy_20 (by decide) (fun c_2 => ?_) (fun c_2 => ?_)
    · refine z_iload_n 2 dX7_valueBy_37 rfl rfl ?_
      refine z_iconst 2 dX7_valueBy_38 (by decide) ?_
      refine z_icmp_ne 56 dX7_valueBy_39 (by decide) (fun c_3 => ?_) (fun c_3 => ?_)
      · refine z_aload_n 0 dX7_valueBy_56 rfl rfl ?_
        refine y_getR fX7_33 dX7_valueBy_57 rfl rfl ?_
        refine z_iload_n 3 dX7_valueBy_60 rfl rfl ?_
        refine y_ald (N := d.toNatClampNeg) dX7_valueBy_61 rfl (wi0 hvd) (vn hvd (by decide)) ?_
        refine z_ineg dX7_valueBy_62 ?_
        exact y_iret dX7_valueBy_63 rfl (by simp [rval, c_1, c_2, c_3]) rfl
      · refine z_aload_n 0 dX7_valueBy_42 rfl rfl ?_
        refine y_getR fX7_7 dX7_valueBy_43 rfl rfl ?_
        refine z_iload_n 1 dX7_valueBy_46 rfl rfl ?_
        refine z_bipush 24 dX7_valueBy_47 (by decide) ?_
        refine z_iadd dX7_valueBy_49 ?_
        refine z_iload_n 3 dX7_valueBy_50 rfl rfl ?_
        refine z_iadd dX7_valueBy_51 ?_
        refine y_wld (X := X) (o := 24) (d := d) dX7_valueBy_52 (wiA hvd) (wb hX hvd (by decide)) ?_
        refine z_goto 63 dX7_valueBy_53 (by decide) ?_
        exact y_iret dX7_valueBy_63 rfl (by simp [rval, c_1, c_2, c_3]) rfl
    · refine z_aload_n 0 dX7_valueBy_23 rfl rfl ?_
      refine y_getR fX7_7 dX7_valueBy_24 rfl rfl ?_
      refine z_iload_n 1 dX7_valueBy_27 rfl rfl ?_
      refine z_bipush 16 dX7_valueBy_28 (by decide) ?_
      refine z_iadd dX7_valueBy_30 ?_
      refine z_iload_n 3 dX7_valueBy_31 rfl rfl ?_
      refine z_iadd dX7_valueBy_32 ?_
      refine y_wld (X := X) (o := 16) (d := d) dX7_valueBy_33 (wiA hvd) (wb hX hvd (by decide)) ?_
      refine z_goto 63 dX7_valueBy_34 (by decide) ?_
      exact y_iret dX7_valueBy_63 rfl (by simp [rval, c_1, c_2]) rfl
  · refine z_aload_n 0 dX7_valueBy_4 rfl rfl ?_
    refine y_getR fX7_7 dX7_valueBy_5 rfl rfl ?_
    refine z_iload_n 1 dX7_valueBy_8 rfl rfl ?_
    refine z_bipush 8 dX7_valueBy_9 (by decide) ?_
    refine z_iadd dX7_valueBy_11 ?_
    refine z_iload_n 3 dX7_valueBy_12 rfl rfl ?_
    refine z_iadd dX7_valueBy_13 ?_
    refine y_wld (X := X) (o := 8) (d := d) dX7_valueBy_14 (wiA hvd) (wb hX hvd (by decide)) ?_
    refine z_goto 63 dX7_valueBy_15 (by decide) ?_
    exact y_iret dX7_valueBy_63 rfl (by simp [rval, c_1]) rfl
set_option maxRecDepth 100000 in
set_option maxHeartbeats 4000000 in
theorem c7_abc {m : zmem} {D Y C L W : Nat} (hI : RI m D Y C L W) {X : Nat} (hX : X ≤ 300) {a b : Int32} (hva : vp_in a 8) (hvb : vp_in b 8) : Ei MX7_isAheadByCustom 1 [.ref 57, .int (Int32.ofNat X), .int a, .int b] m (rabc m X a b C 0) (m) := by
  obtain ⟨hD, hD7, hY, hY8, hC, hC8, hL, hL4, hW, hW20⟩ := id hI
  refine Ei.of (by decide) (Nat.le_of_ble_eq_true rfl) ?_
  show Z _ 0 [(0, .ref 57), (1, .int (Int32.ofNat X)), (2, .int a), (3, .int b)] _ _ _ _
  refine z_iconst 0 dX7_isAheadByCustom_0 (by decide) ?_
  refine z_istore (lv' := [(4, .int 0), (0, .ref 57), (1, .int (Int32.ofNat X)), (2, .int a), (3, .int b)]) dX7_isAheadByCustom_1 (Nat.le_of_ble_eq_true rfl) rfl ?_
  have loop3 : ∀ (n : Nat) (k : Nat), k + n = C → rabc m X a b C 0 = rabc m X a b n k → Z (zMB (Qi (rabc m X a b C 0) (m)) 1 MX7_isAheadByCustom) 3 [(0, .ref 57), (1, .int (Int32.ofNat X)), (2, .int a), (3, .int b), (4, .int (Int32.ofNat k))] [] (hp m) 0 0 := by
    intro n
    induction n with
    | zero =>
      intro k hk hr
      refine z_iload 4 dX7_isAheadByCustom_3 rfl ?_
      refine z_aload_n 0 dX7_isAheadByCustom_5 rfl rfl ?_
      refine y_getI fX7_72 dX7_isAheadByCustom_6 rfl rfl ?_
      refine z_icmp_ge 63 dX7_isAheadByCustom_9 (by decide) (fun c_1 => ?_) (fun c_1 => ?_)
      · refine z_iload_n 2 dX7_isAheadByCustom_63 rfl rfl ?_
        refine z_iload_n 3 dX7_isAheadByCustom_64 rfl rfl ?_
        refine z_icmp_ge 72 dX7_isAheadByCustom_65 (by decide) (fun c_2 => ?_) (fun c_2 => ?_)
        · refine z_iconst 0 dX7_isAheadByCustom_72 (by decide) ?_
          exact y_zret dX7_isAheadByCustom_73 rfl (by decide) (by rw [hr]; simp [rabc, rvd,  c_1, c_2]) rfl
        · refine z_iconst 1 dX7_isAheadByCustom_68 (by decide) ?_
          refine z_goto 73 dX7_isAheadByCustom_69 (by decide) ?_
          exact y_zret dX7_isAheadByCustom_73 rfl (by decide) (by rw [hr]; simp [rabc, rvd,  c_1, c_2]) rfl
      · exact (dz rfl hC (by omega) (by omega) c_1).elim
    | succ n ih3 =>
      intro k hk hr
      refine z_iload 4 dX7_isAheadByCustom_3 rfl ?_
      refine z_aload_n 0 dX7_isAheadByCustom_5 rfl rfl ?_
      refine y_getI fX7_72 dX7_isAheadByCustom_6 rfl rfl ?_
      refine z_icmp_ge 63 dX7_isAheadByCustom_9 (by decide) (fun c_3 => ?_) (fun c_3 => ?_)
      · exact (ds rfl hC (by omega) (by omega) c_3).elim
      · refine z_aload_n 0 dX7_isAheadByCustom_12 rfl rfl ?_
        refine z_iload_n 1 dX7_isAheadByCustom_13 rfl rfl ?_
        refine z_aload_n 0 dX7_isAheadByCustom_14 rfl rfl ?_
        refine y_getR fX7_39 dX7_isAheadByCustom_15 rfl rfl ?_
        refine z_iload 4 dX7_isAheadByCustom_18 rfl ?_
        refine y_ald (N := k) dX7_isAheadByCustom_20 rfl rfl (by omega) ?_
        refine z_iload_n 2 dX7_isAheadByCustom_21 rfl rfl ?_
        refine y_Vi [_, _, _] _ kX7_161 (c7_val hX hva) rfl rfl dX7_isAheadByCustom_22 rfl rfl (Nat.le_of_ble_eq_true rfl) (Nat.le_of_ble_eq_true rfl) ⟨Nat.zero_le _, Nat.zero_le _⟩ ?_
        refine z_aload_n 0 dX7_isAheadByCustom_25 rfl rfl ?_
        refine z_iload_n 1 dX7_isAheadByCustom_26 rfl rfl ?_
        refine z_aload_n 0 dX7_isAheadByCustom_27 rfl rfl ?_
        refine y_getR fX7_39 dX7_isAheadByCustom_28 rfl rfl ?_
        refine z_iload 4 dX7_isAheadByCustom_31 rfl ?_
        refine y_ald (N := k) dX7_isAheadByCustom_33 rfl rfl (by omega) ?_
        refine z_iload_n 3 dX7_isAheadByCustom_34 rfl rfl ?_
        refine y_Vi [_, _, _] _ kX7_161 (c7_val hX hvb) rfl rfl dX7_isAheadByCustom_35 rfl rfl (Nat.le_of_ble_eq_true rfl) (Nat.le_of_ble_eq_true rfl) ⟨Nat.zero_le _, Nat.zero_le _⟩ ?_
        refine z_isub dX7_isAheadByCustom_38 ?_
        refine z_topi (fun v_4 e_4 => ?_)
        refine z_istore (lv' := [(5, .int v_4), (0, .ref 57), (1, .int (Int32.ofNat X)), (2, .int a), (3, .int b), (4, .int (Int32.ofNat k))]) dX7_isAheadByCustom_39 (Nat.le_of_ble_eq_true rfl) rfl ?_
        refine z_iload 0 dX7_isAheadByCustom_41 rfl ?_
        refine z_if_eq 57 dX7_isAheadByCustom_43 (by decide) (fun c_5 => ?_) (fun c_5 => ?_)
        · obtain ⟨v_6, e_6⟩ : ∃ y : Int32, y = (Int32.ofNat k) + 1 := ⟨_, rfl⟩
          refine z_iinc (lv' := [(4, .int v_6), (5, .int v_4), (0, .ref 57), (1, .int (Int32.ofNat X)), (2, .int a), (3, .int b)]) 5 v_6 dX7_isAheadByCustom_57 rfl (by rw [e_6]; rfl) (Nat.le_of_ble_eq_true rfl) rfl ?_
          refine z_goto 3 dX7_isAheadByCustom_60 (by decide) ?_
          obtain rfl : v_6 = Int32.ofNat (k + 1) := e_6.trans (nat_succ k)
          refine z_sub [2,3,4,5,0] rfl ?_
          exact ih3 (k + 1)  (by omega) (hr.trans (by simp [rabc, rvd, ← e_4, c_3, c_5]))
        · refine z_iload 0 dX7_isAheadByCustom_46 rfl ?_
          refine z_if_le 55 dX7_isAheadByCustom_48 (by decide) (fun c_7 => ?_) (fun c_7 => ?_)
          · refine z_iconst 0 dX7_isAheadByCustom_55 (by decide) ?_
            exact y_zret dX7_isAheadByCustom_56 rfl (by decide) (by rw [hr]; simp [rabc, rvd, ← e_4, c_3, c_5, c_7]) rfl
          · refine z_iconst 1 dX7_isAheadByCustom_51 (by decide) ?_
            refine z_goto 56 dX7_isAheadByCustom_52 (by decide) ?_
            exact y_zret dX7_isAheadByCustom_56 rfl (by decide) (by rw [hr]; simp [rabc, rvd, ← e_4, c_3, c_5, c_7]) rfl
  refine z_sub [1,2,3,4,0] rfl ?_
  exact loop3 (C) 0  (by omega) rfl
set_option maxRecDepth 100000 in
set_option maxHeartbeats 4000000 in
theorem c7_ah {m : zmem} {D Y C L W : Nat} (hI : RI m D Y C L W) {X : Nat} (hX : X ≤ 300) {a b : Int32} (hva : vp_in a 8) (hvb : vp_in b 8) : Ei MX7_isAhead 2 [.ref 57, .int (Int32.ofNat X), .int a, .int b] m (rah m X C a b) (m) := by
  obtain ⟨hD, hD7, hY, hY8, hC, hC8, hL, hL4, hW, hW20⟩ := id hI
  refine Ei.of (by decide) (Nat.le_of_ble_eq_true rfl) ?_
  show Z _ 0 [(0, .ref 57), (1, .int (Int32.ofNat X)), (2, .int a), (3, .int b)] _ _ _ _
  refine z_aload_n 0 dX7_isAhead_0 rfl rfl ?_
  refine y_getR fX7_7 dX7_isAhead_1 rfl rfl ?_
  refine z_iload_n 1 dX7_isAhead_4 rfl rfl ?_
  refine z_bipush 32 dX7_isAhead_5 (by decide) ?_
  refine z_iadd dX7_isAhead_7 ?_
  refine z_iload_n 2 dX7_isAhead_8 rfl rfl ?_
  refine z_iadd dX7_isAhead_9 ?_
  refine y_wld (X := X) (o := 32) (d := a) dX7_isAhead_10 (wiA hva) (wb hX hva (by decide)) ?_
  refine z_if_ne 18 dX7_isAhead_11 (by decide) (fun c_1 => ?_) (fun c_1 => ?_)
  · refine z_iconst 0 dX7_isAhead_18 (by decide) ?_
    refine z_istore (lv' := [(4, .int 0), (0, .ref 57), (1, .int (Int32.ofNat X)), (2, .int a), (3, .int b)]) dX7_isAhead_19 (Nat.le_of_ble_eq_true rfl) rfl ?_
    refine z_aload_n 1 dX7_isAhead_21 rfl rfl ?_
    refine y_getR fX7_7 dX7_isAhead_22 rfl rfl ?_
    refine z_iload_n 2 dX7_isAhead_25 rfl rfl ?_
    refine z_bipush 32 dX7_isAhead_26 (by decide) ?_
    refine z_iadd dX7_isAhead_28 ?_
    refine z_iload_n 4 dX7_isAhead_29 rfl rfl ?_
    refine z_iadd dX7_isAhead_30 ?_
    refine y_wld (X := X) (o := 32) (d := b) dX7_isAhead_31 (wiA hvb) (wb hX hvb (by decide)) ?_
    refine z_if_ne 39 dX7_isAhead_32 (by decide) (fun c_2 => ?_) (fun c_2 => ?_)
    · refine z_iconst 0 dX7_isAhead_39 (by decide) ?_
      refine z_istore (lv' := [(5, .int 0), (4, .int 0), (0, .ref 57), (1, .int (Int32.ofNat X)), (2, .int a), (3, .int b)]) dX7_isAhead_40 (Nat.le_of_ble_eq_true rfl) rfl ?_
      refine z_iload 1 dX7_isAhead_42 rfl ?_
      refine z_iload 0 dX7_isAhead_44 rfl ?_
      refine z_icmp_eq 54 dX7_isAhead_46 (by decide) (fun c_3 => ?_) (fun c_3 => ?_)
      · refine z_aload_n 2 dX7_isAhead_54 rfl rfl ?_
        refine z_iload_n 3 dX7_isAhead_55 rfl rfl ?_
        refine z_iload_n 4 dX7_isAhead_56 rfl rfl ?_
        refine z_iload_n 5 dX7_isAhead_57 rfl rfl ?_
        refine y_Vi [_, _, _] _ kX7_165 (c7_abc hI hX hva hvb) rfl rfl dX7_isAhead_58 rfl rfl (Nat.le_of_ble_eq_true rfl) (Nat.le_of_ble_eq_true rfl) ⟨Nat.zero_le _, Nat.zero_le _⟩ ?_
        exact y_zret dX7_isAhead_61 rfl (by first | exact rabc01 _ _ _ _ _ _ | simp []) (by simp_all [rah, c_1, c_2, c_3]) rfl
      · refine z_iload 1 dX7_isAhead_49 rfl ?_
        refine z_goto 61 dX7_isAhead_51 (by decide) ?_
        exact y_zret dX7_isAhead_61 rfl (by first | exact rabc01 _ _ _ _ _ _ | simp []) (by simp_all [rah, c_1, c_2, c_3]) rfl
    · refine z_iconst 1 dX7_isAhead_35 (by decide) ?_
      refine z_goto 40 dX7_isAhead_36 (by decide) ?_
      refine z_istore (lv' := [(5, .int 1), (4, .int 0), (0, .ref 57), (1, .int (Int32.ofNat X)), (2, .int a), (3, .int b)]) dX7_isAhead_40 (Nat.le_of_ble_eq_true rfl) rfl ?_
      refine z_iload 1 dX7_isAhead_42 rfl ?_
      refine z_iload 0 dX7_isAhead_44 rfl ?_
      refine z_icmp_eq 54 dX7_isAhead_46 (by decide) (fun c_4 => ?_) (fun c_4 => ?_)
      · refine z_aload_n 2 dX7_isAhead_54 rfl rfl ?_
        refine z_iload_n 3 dX7_isAhead_55 rfl rfl ?_
        refine z_iload_n 4 dX7_isAhead_56 rfl rfl ?_
        refine z_iload_n 5 dX7_isAhead_57 rfl rfl ?_
        refine y_Vi [_, _, _] _ kX7_165 (c7_abc hI hX hva hvb) rfl rfl dX7_isAhead_58 rfl rfl (Nat.le_of_ble_eq_true rfl) (Nat.le_of_ble_eq_true rfl) ⟨Nat.zero_le _, Nat.zero_le _⟩ ?_
        exact y_zret dX7_isAhead_61 rfl (by first | exact rabc01 _ _ _ _ _ _ | simp []) (by simp_all [rah, c_1, c_2, c_4]) rfl
      · refine z_iload 1 dX7_isAhead_49 rfl ?_
        refine z_goto 61 dX7_isAhead_51 (by decide) ?_
        exact y_zret dX7_isAhead_61 rfl (by first | exact rabc01 _ _ _ _ _ _ | simp []) (by simp_all [rah, c_1, c_2, c_4]) rfl
  · refine z_iconst 1 dX7_isAhead_14 (by decide) ?_
    refine z_goto 19 dX7_isAhead_15 (by decide) ?_
    refine z_istore (lv' := [(4, .int 1), (0, .ref 57), (1, .int (Int32.ofNat X)), (2, .int a), (3, .int b)]) dX7_isAhead_19 (Nat.le_of_ble_eq_true rfl) rfl ?_
    refine z_aload_n 1 dX7_isAhead_21 rfl rfl ?_
    refine y_getR fX7_7 dX7_isAhead_22 rfl rfl ?_
    refine z_iload_n 2 dX7_isAhead_25 rfl rfl ?_
    refine z_bipush 32 dX7_isAhead_26 (by decide) ?_
    refine z_iadd dX7_isAhead_28 ?_
    refine z_iload_n 4 dX7_isAhead_29 rfl rfl ?_
    refine z_iadd dX7_isAhead_30 ?_
    refine y_wld (X := X) (o := 32) (d := b) dX7_isAhead_31 (wiA hvb) (wb hX hvb (by decide)) ?_
    refine z_if_ne 39 dX7_isAhead_32 (by decide) (fun c_5 => ?_) (fun c_5 => ?_)
    · refine z_iconst 0 dX7_isAhead_39 (by decide) ?_
      refine z_istore (lv' := [(5, .int 0), (4, .int 1), (0, .ref 57), (1, .int (Int32.ofNat X)), (2, .int a), (3, .int b)]) dX7_isAhead_40 (Nat.le_of_ble_eq_true rfl) rfl ?_
      refine z_iload 1 dX7_isAhead_42 rfl ?_
      refine z_iload 0 dX7_isAhead_44 rfl ?_
      refine z_icmp_eq 54 dX7_isAhead_46 (by decide) (fun c_6 => ?_) (fun c_6 => ?_)
      · refine z_aload_n 2 dX7_isAhead_54 rfl rfl ?_
        refine z_iload_n 3 dX7_isAhead_55 rfl rfl ?_
        refine z_iload_n 4 dX7_isAhead_56 rfl rfl ?_
        refine z_iload_n 5 dX7_isAhead_57 rfl rfl ?_
        refine y_Vi [_, _, _] _ kX7_165 (c7_abc hI hX hva hvb) rfl rfl dX7_isAhead_58 rfl rfl (Nat.le_of_ble_eq_true rfl) (Nat.le_of_ble_eq_true rfl) ⟨Nat.zero_le _, Nat.zero_le _⟩ ?_
        exact y_zret dX7_isAhead_61 rfl (by first | exact rabc01 _ _ _ _ _ _ | simp []) (by simp_all [rah, c_1, c_5, c_6]) rfl
      · refine z_iload 1 dX7_isAhead_49 rfl ?_
        refine z_goto 61 dX7_isAhead_51 (by decide) ?_
        exact y_zret dX7_isAhead_61 rfl (by first | exact rabc01 _ _ _ _ _ _ | simp []) (by simp_all [rah, c_1, c_5, c_6]) rfl
    · refine z_iconst 1 dX7_isAhead_35 (by decide) ?_
      refine z_goto 40 dX7_isAhead_36 (by decide) ?_
      refine z_istore (lv' := [(5, .int 1), (4, .int 1), (0, .ref 57), (1, .int (Int32.ofNat X)), (2, .int a), (3, .int b)]) dX7_isAhead_40 (Nat.le_of_ble_eq_true rfl) rfl ?_
      refine z_iload 1 dX7_isAhead_42 rfl ?_
      refine z_iload 0 dX7_isAhead_44 rfl ?_
      refine z_icmp_eq 54 dX7_isAhead_46 (by decide) (fun c_7 => ?_) (fun c_7 => ?_)
      · refine z_aload_n 2 dX7_isAhead_54 rfl rfl ?_
        refine z_iload_n 3 dX7_isAhead_55 rfl rfl ?_
        refine z_iload_n 4 dX7_isAhead_56 rfl rfl ?_
        refine z_iload_n 5 dX7_isAhead_57 rfl rfl ?_
        refine y_Vi [_, _, _] _ kX7_165 (c7_abc hI hX hva hvb) rfl rfl dX7_isAhead_58 rfl rfl (Nat.le_of_ble_eq_true rfl) (Nat.le_of_ble_eq_true rfl) ⟨Nat.zero_le _, Nat.zero_le _⟩ ?_
        exact y_zret dX7_isAhead_61 rfl (by first | exact rabc01 _ _ _ _ _ _ | simp []) (by simp_all [rah, c_1, c_5, c_7]) rfl
      · refine z_iload 1 dX7_isAhead_49 rfl ?_
        refine z_goto 61 dX7_isAhead_51 (by decide) ?_
        exact y_zret dX7_isAhead_61 rfl (by first | exact rabc01 _ _ _ _ _ _ | simp []) (by simp_all [rah, c_1, c_5, c_7]) rfl
set_option maxRecDepth 100000 in
set_option maxHeartbeats 4000000 in
theorem c7_place {m : zmem} {D Y C L W : Nat} (hI : RI m D Y C L W) {X : Nat} (hX : X ≤ 300) {d : Int32} (hvd : vp_in d 8) : Ei MX7_placeOf 3 [.ref 57, .int (Int32.ofNat X), .int d] m (rplace m X C D d) (m) := by
  obtain ⟨hD, hD7, hY, hY8, hC, hC8, hL, hL4, hW, hW20⟩ := id hI
  refine Ei.of (by decide) (Nat.le_of_ble_eq_true rfl) ?_
  show Z _ 0 [(0, .ref 57), (1, .int (Int32.ofNat X)), (2, .int d)] _ _ _ _
  refine z_iconst 0 dX7_placeOf_0 (by decide) ?_
  refine z_istore_n (lv' := [(3, .int 0), (0, .ref 57), (1, .int (Int32.ofNat X)), (2, .int d)]) dX7_placeOf_1 rfl (Nat.le_of_ble_eq_true rfl) rfl ?_
  refine z_iconst 0 dX7_placeOf_2 (by decide) ?_
  refine z_istore (lv' := [(4, .int 0), (3, .int 0), (0, .ref 57), (1, .int (Int32.ofNat X)), (2, .int d)]) dX7_placeOf_3 (Nat.le_of_ble_eq_true rfl) rfl ?_
  have loop5 : ∀ (n : Nat) (k : Nat) (s : Int32), k + n = D → rplace m X C D d = sfold (fun k s => s + rplc m X C d k) n k s → Z (zMB (Qi (rplace m X C D d) (m)) 3 MX7_placeOf) 5 [(0, .ref 57), (1, .int (Int32.ofNat X)), (2, .int d), (3, .int s), (4, .int (Int32.ofNat k))] [] (hp m) 0 0 := by
    intro n
    induction n with
    | zero =>
      intro k s hk hr
      refine z_iload 4 dX7_placeOf_5 rfl ?_
      refine z_aload_n 0 dX7_placeOf_7 rfl rfl ?_
      refine y_getR fX7_36 dX7_placeOf_8 rfl rfl ?_
      refine z_iconst 1 dX7_placeOf_11 (by decide) ?_
      refine y_ald (N := 1) dX7_placeOf_12 rfl rfl (by decide) ?_
      refine z_icmp_ge 60 dX7_placeOf_13 (by decide) (fun c_1 => ?_) (fun c_1 => ?_)
      · refine z_iload_n 3 dX7_placeOf_60 rfl rfl ?_
        exact y_iret dX7_placeOf_61 rfl hr.symm rfl
      · exact (dz rfl hD (by omega) (by omega) c_1).elim
    | succ n ih5 =>
      intro k s hk hr
      refine z_iload 4 dX7_placeOf_5 rfl ?_
      refine z_aload_n 0 dX7_placeOf_7 rfl rfl ?_
      refine y_getR fX7_36 dX7_placeOf_8 rfl rfl ?_
      refine z_iconst 1 dX7_placeOf_11 (by decide) ?_
      refine y_ald (N := 1) dX7_placeOf_12 rfl rfl (by decide) ?_
      refine z_icmp_ge 60 dX7_placeOf_13 (by decide) (fun c_2 => ?_) (fun c_2 => ?_)
      · exact (ds rfl hD (by omega) (by omega) c_2).elim
      · refine z_iload_n 3 dX7_placeOf_16 rfl rfl ?_
        refine z_iload 4 dX7_placeOf_17 rfl ?_
        refine z_iload_n 2 dX7_placeOf_19 rfl rfl ?_
        refine z_icmp_eq 48 dX7_placeOf_20 (by decide) (fun c_3 => ?_) (fun c_3 => ?_)
        · refine z_iconst 0 dX7_placeOf_48 (by decide) ?_
          refine y_Si [_] _ kX7_157 (c7_one (by first | exact rlf01 _ _ _ | decide)) dX7_placeOf_49 rfl rfl (Nat.le_of_ble_eq_true rfl) (Nat.le_of_ble_eq_true rfl) ⟨Nat.zero_le _, Nat.zero_le _⟩ ?_
          refine z_iadd dX7_placeOf_52 ?_
          refine z_topi (fun v_4 e_4 => ?_)
          refine z_istore_n (lv' := [(3, .int v_4), (0, .ref 57), (1, .int (Int32.ofNat X)), (2, .int d), (4, .int (Int32.ofNat k))]) dX7_placeOf_53 rfl (Nat.le_of_ble_eq_true rfl) rfl ?_
          obtain ⟨v_5, e_5⟩ : ∃ y : Int32, y = (Int32.ofNat k) + 1 := ⟨_, rfl⟩
          refine z_iinc (lv' := [(4, .int v_5), (3, .int v_4), (0, .ref 57), (1, .int (Int32.ofNat X)), (2, .int d)]) 4 v_5 dX7_placeOf_54 rfl (by rw [e_5]; rfl) (Nat.le_of_ble_eq_true rfl) rfl ?_
          refine z_goto 5 dX7_placeOf_57 (by decide) ?_
          obtain rfl : v_5 = Int32.ofNat (k + 1) := e_5.trans (nat_succ k)
          refine z_sub [2,3,4,1,0] rfl ?_
          exact ih5 (k + 1) _ (by omega) (hr.trans (congrArg (sfold _ n (k + 1)) (by simp [rplc, c_2, c_3, e_4])))
        · refine z_aload_n 0 dX7_placeOf_23 rfl rfl ?_
          refine z_iload_n 1 dX7_placeOf_24 rfl rfl ?_
          refine z_iload 4 dX7_placeOf_25 rfl ?_
          refine y_Vi [_, _] _ kX7_154 (c7_lf hX (vk (by omega))) rfl rfl dX7_placeOf_27 rfl rfl (Nat.le_of_ble_eq_true rfl) (Nat.le_of_ble_eq_true rfl) ⟨Nat.zero_le _, Nat.zero_le _⟩ ?_
          refine z_if_eq 48 dX7_placeOf_30 (by decide) (fun c_6 => ?_) (fun c_6 => ?_)
          · refine z_iconst 0 dX7_placeOf_48 (by decide) ?_
            refine y_Si [_] _ kX7_157 (c7_one (by first | exact rlf01 _ _ _ | decide)) dX7_placeOf_49 rfl rfl (Nat.le_of_ble_eq_true rfl) (Nat.le_of_ble_eq_true rfl) ⟨Nat.zero_le _, Nat.zero_le _⟩ ?_
            refine z_iadd dX7_placeOf_52 ?_
            refine z_topi (fun v_7 e_7 => ?_)
            refine z_istore_n (lv' := [(3, .int v_7), (0, .ref 57), (1, .int (Int32.ofNat X)), (2, .int d), (4, .int (Int32.ofNat k))]) dX7_placeOf_53 rfl (Nat.le_of_ble_eq_true rfl) rfl ?_
            obtain ⟨v_8, e_8⟩ : ∃ y : Int32, y = (Int32.ofNat k) + 1 := ⟨_, rfl⟩
            refine z_iinc (lv' := [(4, .int v_8), (3, .int v_7), (0, .ref 57), (1, .int (Int32.ofNat X)), (2, .int d)]) 4 v_8 dX7_placeOf_54 rfl (by rw [e_8]; rfl) (Nat.le_of_ble_eq_true rfl) rfl ?_
            refine z_goto 5 dX7_placeOf_57 (by decide) ?_
            obtain rfl : v_8 = Int32.ofNat (k + 1) := e_8.trans (nat_succ k)
            refine z_sub [2,3,4,1,0] rfl ?_
            exact ih5 (k + 1) _ (by omega) (hr.trans (congrArg (sfold _ n (k + 1)) (by simp [rplc, c_2, c_3, c_6, e_7])))
          · refine z_aload_n 0 dX7_placeOf_33 rfl rfl ?_
            refine z_iload_n 1 dX7_placeOf_34 rfl rfl ?_
            refine z_iload 4 dX7_placeOf_35 rfl ?_
            refine z_iload_n 2 dX7_placeOf_37 rfl rfl ?_
            refine y_Vi [_, _, _] _ kX7_169 (c7_ah hI hX (vk (by omega)) hvd) rfl rfl dX7_placeOf_38 rfl rfl (Nat.le_of_ble_eq_true rfl) (Nat.le_of_ble_eq_true rfl) ⟨Nat.zero_le _, Nat.zero_le _⟩ ?_
            refine z_if_eq 48 dX7_placeOf_41 (by decide) (fun c_9 => ?_) (fun c_9 => ?_)
            · refine z_iconst 0 dX7_placeOf_48 (by decide) ?_
              refine y_Si [_] _ kX7_157 (c7_one (by first | exact rlf01 _ _ _ | decide)) dX7_placeOf_49 rfl rfl (Nat.le_of_ble_eq_true rfl) (Nat.le_of_ble_eq_true rfl) ⟨Nat.zero_le _, Nat.zero_le _⟩ ?_
              refine z_iadd dX7_placeOf_52 ?_
              refine z_topi (fun v_10 e_10 => ?_)
              refine z_istore_n (lv' := [(3, .int v_10), (0, .ref 57), (1, .int (Int32.ofNat X)), (2, .int d), (4, .int (Int32.ofNat k))]) dX7_placeOf_53 rfl (Nat.le_of_ble_eq_true rfl) rfl ?_
              obtain ⟨v_11, e_11⟩ : ∃ y : Int32, y = (Int32.ofNat k) + 1 := ⟨_, rfl⟩
              refine z_iinc (lv' := [(4, .int v_11), (3, .int v_10), (0, .ref 57), (1, .int (Int32.ofNat X)), (2, .int d)]) 4 v_11 dX7_placeOf_54 rfl (by rw [e_11]; rfl) (Nat.le_of_ble_eq_true rfl) rfl ?_
              refine z_goto 5 dX7_placeOf_57 (by decide) ?_
              obtain rfl : v_11 = Int32.ofNat (k + 1) := e_11.trans (nat_succ k)
              refine z_sub [2,3,4,1,0] rfl ?_
              exact ih5 (k + 1) _ (by omega) (hr.trans (congrArg (sfold _ n (k + 1)) (by simp [rplc, c_2, c_3, c_6, c_9, e_10])))
            · refine z_iconst 1 dX7_placeOf_44 (by decide) ?_
              refine z_goto 49 dX7_placeOf_45 (by decide) ?_
              refine y_Si [_] _ kX7_157 (c7_one (by first | exact rlf01 _ _ _ | decide)) dX7_placeOf_49 rfl rfl (Nat.le_of_ble_eq_true rfl) (Nat.le_of_ble_eq_true rfl) ⟨Nat.zero_le _, Nat.zero_le _⟩ ?_
              refine z_iadd dX7_placeOf_52 ?_
              refine z_topi (fun v_12 e_12 => ?_)
              refine z_istore_n (lv' := [(3, .int v_12), (0, .ref 57), (1, .int (Int32.ofNat X)), (2, .int d), (4, .int (Int32.ofNat k))]) dX7_placeOf_53 rfl (Nat.le_of_ble_eq_true rfl) rfl ?_
              obtain ⟨v_13, e_13⟩ : ∃ y : Int32, y = (Int32.ofNat k) + 1 := ⟨_, rfl⟩
              refine z_iinc (lv' := [(4, .int v_13), (3, .int v_12), (0, .ref 57), (1, .int (Int32.ofNat X)), (2, .int d)]) 4 v_13 dX7_placeOf_54 rfl (by rw [e_13]; rfl) (Nat.le_of_ble_eq_true rfl) rfl ?_
              refine z_goto 5 dX7_placeOf_57 (by decide) ?_
              obtain rfl : v_13 = Int32.ofNat (k + 1) := e_13.trans (nat_succ k)
              refine z_sub [2,3,4,1,0] rfl ?_
              exact ih5 (k + 1) _ (by omega) (hr.trans (congrArg (sfold _ n (k + 1)) (by simp [rplc, c_2, c_3, c_6, c_9, e_12])))
  refine z_sub [2,3,4,1,0] rfl ?_
  exact loop5 (D) 0 _ (by omega) rfl
set_option maxRecDepth 100000 in
set_option maxHeartbeats 4000000 in
theorem c7_order {m : zmem} {D Y C L W : Nat} (hI : RI m D Y C L W) {X : Nat} (hX : X ≤ 300) {i : Int32} : Ei MX7_inOrder 4 [.ref 57, .int (Int32.ofNat X), .int i] m (rorder m X C D i) (m) := by
  obtain ⟨hD, hD7, hY, hY8, hC, hC8, hL, hL4, hW, hW20⟩ := id hI
  refine Ei.of (by decide) (Nat.le_of_ble_eq_true rfl) ?_
  show Z _ 0 [(0, .ref 57), (1, .int (Int32.ofNat X)), (2, .int i)] _ _ _ _
  refine z_iconst 0 dX7_inOrder_0 (by decide) ?_
  refine z_istore_n (lv' := [(3, .int 0), (0, .ref 57), (1, .int (Int32.ofNat X)), (2, .int i)]) dX7_inOrder_1 rfl (Nat.le_of_ble_eq_true rfl) rfl ?_
  have loop2 : ∀ (n : Nat) (k : Nat), k + n = D → rorder m X C D i = sfind (rordc m X C D i) n k → Z (zMB (Qi (rorder m X C D i) (m)) 4 MX7_inOrder) 2 [(0, .ref 57), (1, .int (Int32.ofNat X)), (2, .int i), (3, .int (Int32.ofNat k))] [] (hp m) 0 0 := by
    intro n
    induction n with
    | zero =>
      intro k hk hr
      refine z_iload_n 3 dX7_inOrder_2 rfl rfl ?_
      refine z_aload_n 0 dX7_inOrder_3 rfl rfl ?_
      refine y_getR fX7_36 dX7_inOrder_4 rfl rfl ?_
      refine z_iconst 1 dX7_inOrder_7 (by decide) ?_
      refine y_ald (N := 1) dX7_inOrder_8 rfl rfl (by decide) ?_
      refine z_icmp_ge 39 dX7_inOrder_9 (by decide) (fun c_1 => ?_) (fun c_1 => ?_)
      · refine z_iconst (-1) dX7_inOrder_39 (by decide) ?_
        exact y_iret dX7_inOrder_40 rfl (by first | exact hr.symm | (rw [hr]; simp [sfind, rordc, c_1])) rfl
      · exact (dz rfl hD (by omega) (by omega) c_1).elim
    | succ n ih2 =>
      intro k hk hr
      refine z_iload_n 3 dX7_inOrder_2 rfl rfl ?_
      refine z_aload_n 0 dX7_inOrder_3 rfl rfl ?_
      refine y_getR fX7_36 dX7_inOrder_4 rfl rfl ?_
      refine z_iconst 1 dX7_inOrder_7 (by decide) ?_
      refine y_ald (N := 1) dX7_inOrder_8 rfl rfl (by decide) ?_
      refine z_icmp_ge 39 dX7_inOrder_9 (by decide) (fun c_2 => ?_) (fun c_2 => ?_)
      · exact (ds rfl hD (by omega) (by omega) c_2).elim
      · refine z_aload_n 0 dX7_inOrder_12 rfl rfl ?_
        refine z_iload_n 1 dX7_inOrder_13 rfl rfl ?_
        refine z_iload_n 3 dX7_inOrder_14 rfl rfl ?_
        refine y_Vi [_, _] _ kX7_154 (c7_lf hX (vk (by omega))) rfl rfl dX7_inOrder_15 rfl rfl (Nat.le_of_ble_eq_true rfl) (Nat.le_of_ble_eq_true rfl) ⟨Nat.zero_le _, Nat.zero_le _⟩ ?_
        refine z_if_eq 33 dX7_inOrder_18 (by decide) (fun c_3 => ?_) (fun c_3 => ?_)
        · obtain ⟨v_4, e_4⟩ : ∃ y : Int32, y = (Int32.ofNat k) + 1 := ⟨_, rfl⟩
          refine z_iinc (lv' := [(3, .int v_4), (0, .ref 57), (1, .int (Int32.ofNat X)), (2, .int i)]) 3 v_4 dX7_inOrder_33 rfl (by rw [e_4]; rfl) (Nat.le_of_ble_eq_true rfl) rfl ?_
          refine z_goto 2 dX7_inOrder_36 (by decide) ?_
          obtain rfl : v_4 = Int32.ofNat (k + 1) := e_4.trans (nat_succ k)
          refine z_sub [1,2,3,0] rfl ?_
          exact ih2 (k + 1)  (by omega) (hr.trans (by simp [sfind, rordc, c_2, c_3]))
        · refine z_aload_n 0 dX7_inOrder_21 rfl rfl ?_
          refine z_iload_n 1 dX7_inOrder_22 rfl rfl ?_
          refine z_iload_n 3 dX7_inOrder_23 rfl rfl ?_
          refine y_Vi [_, _] _ kX7_172 (c7_place hI hX (vk (by omega))) rfl rfl dX7_inOrder_24 rfl rfl (Nat.le_of_ble_eq_true rfl) (Nat.le_of_ble_eq_true rfl) ⟨Nat.zero_le _, Nat.zero_le _⟩ ?_
          refine z_iload_n 2 dX7_inOrder_27 rfl rfl ?_
          refine z_icmp_ne 33 dX7_inOrder_28 (by decide) (fun c_5 => ?_) (fun c_5 => ?_)
          · obtain ⟨v_6, e_6⟩ : ∃ y : Int32, y = (Int32.ofNat k) + 1 := ⟨_, rfl⟩
            refine z_iinc (lv' := [(3, .int v_6), (0, .ref 57), (1, .int (Int32.ofNat X)), (2, .int i)]) 3 v_6 dX7_inOrder_33 rfl (by rw [e_6]; rfl) (Nat.le_of_ble_eq_true rfl) rfl ?_
            refine z_goto 2 dX7_inOrder_36 (by decide) ?_
            obtain rfl : v_6 = Int32.ofNat (k + 1) := e_6.trans (nat_succ k)
            refine z_sub [1,2,3,0] rfl ?_
            exact ih2 (k + 1)  (by omega) (hr.trans (by simp [sfind, rordc, c_2, c_3, c_5]))
          · refine z_iload_n 3 dX7_inOrder_31 rfl rfl ?_
            exact y_iret dX7_inOrder_32 rfl (by first | exact hr.symm | (rw [hr]; simp [sfind, rordc, c_2, c_3, c_5])) rfl
  refine z_sub [1,2,3,0] rfl ?_
  exact loop2 (D) 0  (by omega) rfl
