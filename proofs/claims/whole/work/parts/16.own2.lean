/-! the class's own methods, second half -/
theorem K5.begin (m : zmem) (C : Nat) : K5 m (spbegin C m) := by
  refine K5.fold (fun d m => ?_) 7 0 m
  have h0 : K5 m (sbg0 d m) := ((K5.aput (q := 51) (by decide) (by decide) (by decide) (by decide)).tr (K5.aput (q := 52) (by decide) (by decide) (by decide) (by decide))).tr (K5.aput (q := 53) (by decide) (by decide) (by decide) (by decide))
  refine h0.tr (K5.fold (fun o m => ?_) 7 0 _)
  have h1 : K5 m (sbgb C d o m) := by
    unfold sbgb; split
    · exact K5.rf m
    · exact K5.aput (by decide) (by decide) (by decide) (by decide)
  unfold sbgi; split
  · exact h1
  · exact h1.tr (K5.aput (by decide) (by decide) (by decide) (by decide))
theorem K5.copy (q nq p np : Nat) (h1 : p ≠ 7) (h2 : p ≠ 3) (h3 : p ≠ 1) (h4 : p ≠ 47) : ∀ n k m, K5 m (scopy q nq p np n k m) := by
  intro n
  induction n with
  | zero => intro k m; exact K5.rf m
  | succ n ih => intro k m; exact (K5.aput h1 h2 h3 h4).tr (ih (k + 1) _)
theorem K5.search : ∀ e d lf fr q m, K5 m (sserch e d lf fr q m) := by
  intro e
  induction e with
  | zero =>
    intro d lf fr q m
    unfold sserch; split
    · exact K5.rf m
    · exact ((K5.mset (a := 50) (j := 5) (by decide) (by decide) (by decide) (by decide) (by decide)).tr (K5.mset (a := 50) (j := 4) (by decide) (by decide) (by decide) (by decide) (by decide))).tr (K5.copy 53 7 54 7 (by decide) (by decide) (by decide) (by decide) 8 0 _)
  | succ e ih =>
    intro d lf fr q m
    unfold sserch; split
    · exact K5.rf m
    · split
      · exact ih _ _ _ _ _
      · refine (K5.fold (fun i m => ?_) 8 0 m).tr (K5.aput (by decide) (by decide) (by decide) (by decide))
        split
        · exact K5.rf m
        · exact (K5.aput (q := 53) (by decide) (by decide) (by decide) (by decide)).tr (ih _ _ _ _ _)
theorem K5_find (m : zmem) (lf fr : Int32) : K5 m (spfind lf fr m) := by
  have h0 : K5 m (mset m 50 5 0) := K5.mset (by decide) (by decide) (by decide) (by decide) (by decide)
  unfold spfind; split
  · exact h0
  · exact h0.tr (K5.search _ _ _ _ _ _)
def sushr (x s : Int32) : Int32 := (x.toUInt32 >>> (s.toUInt32 &&& Int32.toUInt32 31)).toInt32
def stz1 (b s : Int32) (p : Int32 × Int32) : Int32 × Int32 := if p.2 ≤ b then p else (p.1 + s, sushr p.2 s)
def stz0 (x : Int32) : Int32 := (x ^^^ -1) &&& (x - 1)
def stzf (x : Int32) : Int32 × Int32 := stz1 4 2 (stz1 16 4 (stz1 256 8 (stz1 65536 16 (1, stz0 x))))
def sntz (x : Int32) : Int32 := if 0 < stz0 x then (stzf x).1 + sushr (stzf x).2 1 else stz0 x &&& 32
def suse (D Y C : Nat) : Nat → zmem → zmem
  | 0, m => m
  | n + 1, m => if (sfirst m 7 3 C D (swait m 7 D)).1 = -1 then m else if ¬ ssf m 7 D Y = 0 then suse D Y C n (slay m 7 (sfirst m 7 3 C D (swait m 7 D)).1 (sntz (ssf m 7 D Y))) else m
theorem K5.use (D Y C : Nat) : ∀ n m, K5 m (suse D Y C n m) := by
  intro n
  induction n with
  | zero => intro m; exact K5.rf m
  | succ n ih =>
    intro m
    unfold suse; split
    · exact K5.rf m
    · split
      · exact (K5.lay m _ _).tr (ih _)
      · exact K5.rf m
def sspr0 (m : zmem) : zmem := mset m 7 15 (schance (m 7 15))
def sspr1 (m : zmem) (D Y : Nat) : zmem := snight (sday (sspr0 m) 7 D Y (sdraw (schance (m 7 15)) 12 - 3)) 7 D 2
def ssprs (D Y C : Nat) (k : Int32) (_ : Nat) (m : zmem) : zmem := suse D Y C k.toNatClampNeg (sspr1 m D Y)
theorem K5.spr0 (m : zmem) : K5 m (sspr0 m) := K5.mset (by decide) (by decide) (by decide) (by decide) (by decide)
theorem K5.spr1 (m : zmem) (D Y : Nat) : K5 m (sspr1 m D Y) := ((K5.spr0 m).tr (K5.day _ D Y _)).tr (K5.night _ D _)
def ssprm (m : zmem) (D Y C : Nat) (n k : Int32) : zmem := sfold (ssprs D Y C k) n.toNatClampNeg 0 m
def sk_spring (m : zmem) (D Y C : Nat) (n k : Int32) : Int32 × zmem := if n < 1 then (-1000000002, m) else if 99 < n then (-1000000002, m) else if k < 0 then (-1000000002, m) else if k ≤ 9 then (spop (slaid (ssprm m D Y C n k) 7 D), ssprm m D Y C n k) else (-1000000002, m)
def sk_layfm (m : zmem) (D Y C : Nat) : zmem := spfind (swait (spbegin C m) 7 D) (ssf (spbegin C m) 7 D Y) (spbegin C m)
def sk_laying (m : zmem) (D Y C : Nat) (d : Int32) : Int32 × zmem := if ¬ d = -1 ∧ sin (m 7 1) d = 0 then (-1000000001, m) else (if sk_layfm m D Y C 50 5 = 0 then -1 else if d = -1 then sk_layfm m D Y C 50 4 else if shas (swait (sk_layfm m D Y C) 7 D) d = 0 then -1 else aat 7 (sk_layfm m D Y C 54) d, sk_layfm m D Y C)
def sk_span (m : zmem) (D Y : Nat) (n a b w : Int32) : Int32 := if n < 1 then -1000000002 else if 8 < n then -1000000002 else if a < 1 then -1000000002 else if 9 < a then -1000000002 else if b < a then -1000000002 else if 9 < b then -1000000002 else if w < 0 then -1000000002 else if w ≤ 1 then (if w = 0 then suntil m 7 D Y n b else suntil m 7 D Y n a) else -1000000002
def sk_had (m : zmem) (d : Int32) : Int32 := aat 7 (m (7 + 5)) d
def sk_brc (m : zmem) (D C : Nat) (d p : Int32) (k : Nat) : Bool := decide (¬ p < splace (aput m (7 + 5) 7 d (sk_had m d + Int32.ofNat k)) 7 3 C D (swait m 7 D) d)
def sk_br (m : zmem) (D C Mo : Nat) (d p : Int32) : Int32 := sfind (sk_brc m D C d p) (Mo + 1) 0
theorem aput_aput (m : zmem) (q n : Nat) (i v w : Int32) : aput (aput m q n i v) q n i w = aput m q n i w := by
  unfold aput
  split
  · rfl
  · split
    · rfl
    · exact mset_mset _ _ _ _ _
def sk_brm (m : zmem) (d : Int32) : zmem := aput m (7 + 5) 7 d (sk_had m d)
def sk_bribe (m : zmem) (D C Mo : Nat) (d p : Int32) : Int32 × zmem := if sin (m 7 1) d = 0 then (-1000000001, m) else if p < 0 then (-1000000002, m) else if p ≤ 6 then (if shas (swait m 7 D) d = 0 then (-1000000003, m) else (sk_br m D C Mo d p, sk_brm m d)) else (-1000000002, m)
theorem sall2 {x : Int32} {D : Nat} (h : x = Int32.ofNat D) (h7 : D ≤ 7) : sbit x - 1 = Int32.ofNat (2 ^ D - 1) := by
  subst h
  match D, h7 with
  | 0, _ => decide
  | 1, _ => decide
  | 2, _ => decide
  | 3, _ => decide
  | 4, _ => decide
  | 5, _ => decide
  | 6, _ => decide
  | 7, _ => decide
  | D + 8, h => exact absurd h (by omega)
theorem all127 {D : Nat} (h7 : D ≤ 7) : 2 ^ D - 1 ≤ 127 := by
  have : 2 ^ D ≤ 2 ^ 7 := Nat.pow_le_pow_right (by omega) h7
  omega
theorem sin_nat {y i : Int32} {D : Nat} (hD : y = Int32.ofNat D) (hD7 : D ≤ 8) (h : ¬ sin y i = 0) : i = Int32.ofNat i.toNatClampNeg ∧ i.toNatClampNeg < D := by
  unfold sin at h
  split at h
  · exact absurd rfl h
  · rename_i h1
    split at h
    · exact absurd rfl h
    · rename_i h2
      subst hD
      have e : i.toNatClampNeg = i.toInt.toNat := rfl
      rw [Int32.lt_iff_toInt_lt, show (0 : Int32).toInt = 0 from rfl] at h1
      rw [Int32.le_iff_toInt_le, nat_toInt (by omega)] at h2
      refine ⟨?_, by omega⟩
      apply Int32.toInt_inj.mp
      rw [nat_toInt (by omega), e]
      omega
def sk_mixed (m : zmem) (D : Nat) (c : Int32) : Int32 × zmem := if ¬ c = -1 ∧ sin (m 7 1) c = 0 then (-1000000001, m) else (if aat 128 (swg m D (2 ^ D - 1) 56) 0 < 99 then (if ¬ c = -1 then (snof (swg m D (2 ^ D - 1)) D c.toNatClampNeg).2 else aat 128 (swg m D (2 ^ D - 1) 56) 0) else -1, swg m D (2 ^ D - 1))
theorem K5.weigh (m : zmem) (D : Nat) : ∀ A m, K5 m (sdown (swgo D) A m) := by
  intro A
  induction A with
  | zero => intro m; exact K5.rf m
  | succ n ih => intro m; exact (K5.aput (q := 56) (by decide) (by decide) (by decide) (by decide)).tr (ih _)
theorem K5.swg (m : zmem) (D A : Nat) : K5 m (swg m D A) := (K5.aput (q := 56) (by decide) (by decide) (by decide) (by decide)).tr (K5.weigh m D A _)
def sk_gap (m : zmem) (D : Nat) (lf s : Int32) : Int32 := sabs (sranks m 7 D s - sranks m 7 D (lf &&& (s ^^^ -1)))
def smsk (lf : Int32) (k : Nat) : Int32 := Int32.ofNat k &&& (lf ^^^ -1)
def sk_chi (m : zmem) (D : Nat) (lf : Int32) (k : Nat) (s : Int32 × Int32) : Int32 × Int32 := if ¬ smsk lf k = 0 then s else if s.2 ≤ sk_gap m D lf (Int32.ofNat k) then s else (Int32.ofNat k, sk_gap m D lf (Int32.ofNat k))
def sk_ch (m : zmem) (D : Nat) : Int32 × Int32 := sfold (sk_chi m D (swait m 7 D)) 127 1 (0, sranks m 7 D (swait m 7 D))
theorem sk_ch_eq (m : zmem) (D : Nat) : sk_ch m D = sfold (sk_chi m D (swait m 7 D)) 127 1 (0, sranks m 7 D (swait m 7 D)) := rfl
def sk_churches (m : zmem) (D : Nat) (w : Int32) : Int32 := if w < 0 then -1000000002 else if w ≤ 1 then (if ¬ w = 0 then (sk_ch m D).1 else (sk_ch m D).2) else -1000000002
def sk_jud (m : zmem) (D C : Nat) : Nat → Nat → Int32 → Int32 → Int32
  | 0, _, _, _ => -1
  | n + 1, k, lf, fr => if shas lf (aat 20 (m 48) (Int32.ofNat k)) = 0 then Int32.ofNat k else if shas fr (aat 20 (m 49) (Int32.ofNat k)) = 0 then Int32.ofNat k else if aat 20 (m 48) (Int32.ofNat k) = (sfirst m 7 3 C D lf).1 then sk_jud m D C n (k + 1) (lf &&& (sbit (aat 20 (m 48) (Int32.ofNat k)) ^^^ -1)) (fr &&& (sbit (aat 20 (m 49) (Int32.ofNat k)) ^^^ -1)) else Int32.ofNat k
def sbyte (b : Int64) (k : Nat) : Int32 := (b.toUInt64 >>> ((8 * Int32.ofNat k).toInt64.toUInt64 &&& Int64.toUInt64 63)).toInt64.toInt32 &&& 255
def sk_feedm (m : zmem) (n : Int32) (b : Int64) : zmem := sdown (fun k m => sappend m (sbyte b k)) n.toNatClampNeg m
def sk_feed (m : zmem) (n : Int32) (b : Int64) : Int32 × zmem := if n < 1 then (-1000000002, m) else if n ≤ 8 then (if m 1 1 + n ≤ 400 then (sk_feedm m n b 1 1, sk_feedm m n b) else (-1000000004, m)) else (-1000000002, m)
def sk_p2 (m : zmem) (L : Nat) : zmem := mset (sread (tby m) L 400 (sread0 m)) 1 1 0
def sk_p3 (m : zmem) : zmem := mset (ssettle m 17) 17 15 (ssettle m 17 7 15)
def sk_p4 (m : zmem) : zmem := mset (mset (mset (scopyP 17 7 (sk_p3 m)) 47 2 0) 0 7 0) 0 8 0
def sk_parish (m : zmem) (L : Nat) : Int32 × zmem := if sk_p2 m L 1 3 = 0 then (sk_p4 (sk_p2 m L) 7 1, sk_p4 (sk_p2 m L)) else (-10 - sk_p2 m L 1 3, sk_p2 m L)
def sk_c2 (m : zmem) (L : Nat) : zmem := mset (scread (tby m) L 400 (scread0 m)) 1 1 0
def sk_custom (m : zmem) (L : Nat) : Int32 × zmem := if sk_c2 m L 1 3 = 0 then (scopyC 5 3 (sk_c2 m L) 3 1, scopyC 5 3 (sk_c2 m L)) else (-10 - sk_c2 m L 1 3, sk_c2 m L)
set_option maxRecDepth 100000 in
set_option maxHeartbeats 4000000 in
theorem c_ntz {m : zmem} {x : Int32} : Ei MJ6_numberOfTrailingZeros_0f7a4 0 [.int x] m (sntz x) (m) := by
  refine Ei.of (by decide) (Nat.le_of_ble_eq_true rfl) ?_
  show Z _ 0 [(0, .int x)] _ _ _ _
  have join34 : ∀ (n : Int32) (y : Int32), 0 < stz0 x → (n, y) = stz1 65536 16 (1, stz0 x) → Z (zMB (Qi (sntz x) (m)) 0 MJ6_numberOfTrailingZeros_0f7a4) 34 [(0, .int y), (1, .int n)] [] (hp m) 0 0 := by
    intro n y hx0 hj
    refine z_iload_n 0 dJ6_numberOfTrailingZeros_0f7a4_34 rfl rfl ?_
    have join49 : ∀ (n : Int32) (y : Int32), (n, y) = stz1 256 8 (stz1 65536 16 (1, stz0 x)) → Z (zMB (Qi (sntz x) (m)) 0 MJ6_numberOfTrailingZeros_0f7a4) 49 [(0, .int y), (1, .int n)] [] (hp m) 0 0 := by
      intro n y hj
      refine z_iload_n 0 dJ6_numberOfTrailingZeros_0f7a4_49 rfl rfl ?_
      have join62 : ∀ (n : Int32) (y : Int32), (n, y) = stz1 16 4 (stz1 256 8 (stz1 65536 16 (1, stz0 x))) → Z (zMB (Qi (sntz x) (m)) 0 MJ6_numberOfTrailingZeros_0f7a4) 62 [(0, .int y), (1, .int n)] [] (hp m) 0 0 := by
        intro n y hj
        refine z_iload_n 0 dJ6_numberOfTrailingZeros_0f7a4_62 rfl rfl ?_
        have join74 : ∀ (n : Int32) (y : Int32), (n, y) = stzf x → Z (zMB (Qi (sntz x) (m)) 0 MJ6_numberOfTrailingZeros_0f7a4) 74 [(0, .int y), (1, .int n)] [] (hp m) 0 0 := by
          intro n y hj
          refine z_iload_n 1 dJ6_numberOfTrailingZeros_0f7a4_74 rfl rfl ?_
          refine z_iload_n 0 dJ6_numberOfTrailingZeros_0f7a4_75 rfl rfl ?_
          refine z_iconst 1 dJ6_numberOfTrailingZeros_0f7a4_76 (by decide) ?_
          refine z_iushr dJ6_numberOfTrailingZeros_0f7a4_77 ?_
          refine z_iadd dJ6_numberOfTrailingZeros_0f7a4_78 ?_
          exact y_iret dJ6_numberOfTrailingZeros_0f7a4_79 rfl (by first | (simp [sntz, ]; done) | (rw [sntz, if_pos hx0, ← hj]; rfl)) rfl
        refine z_iconst 4 dJ6_numberOfTrailingZeros_0f7a4_63 (by decide) ?_
        refine z_icmp_le 74 dJ6_numberOfTrailingZeros_0f7a4_64 (by decide) (fun c_1 => ?_) (fun c_1 => ?_)
        · refine z_sub [0,1] rfl ?_
          exact join74 _ _ (by rw [stzf, ← hj]; simp [stz1, sushr, c_1])
        · obtain ⟨v_2, e_2⟩ : ∃ y : Int32, y = n + 2 := ⟨_, rfl⟩
          refine z_iinc (lv' := [(1, .int v_2), (0, .int y)]) 1 v_2 dJ6_numberOfTrailingZeros_0f7a4_67 rfl (by rw [e_2]; rfl) (Nat.le_of_ble_eq_true rfl) rfl ?_
          refine z_iload_n 1 dJ6_numberOfTrailingZeros_0f7a4_70 rfl rfl ?_
          refine z_iconst 2 dJ6_numberOfTrailingZeros_0f7a4_71 (by decide) ?_
          refine z_iushr dJ6_numberOfTrailingZeros_0f7a4_72 ?_
          refine z_topi (fun v_3 e_3 => ?_)
          refine z_istore_n (lv' := [(0, .int v_3), (1, .int v_2)]) dJ6_numberOfTrailingZeros_0f7a4_73 rfl (Nat.le_of_ble_eq_true rfl) rfl ?_
          refine z_sub [0,1] rfl ?_
          exact join74 _ _ (by rw [stzf, ← hj]; simp [stz1, sushr, c_1, e_2, e_3])
      refine z_bipush 16 dJ6_numberOfTrailingZeros_0f7a4_50 (by decide) ?_
      refine z_icmp_le 62 dJ6_numberOfTrailingZeros_0f7a4_52 (by decide) (fun c_4 => ?_) (fun c_4 => ?_)
      · refine z_sub [0,1] rfl ?_
        exact join62 _ _ (by rw [← hj]; simp [stz1, sushr, c_4])
      · obtain ⟨v_5, e_5⟩ : ∃ y : Int32, y = n + 4 := ⟨_, rfl⟩
        refine z_iinc (lv' := [(1, .int v_5), (0, .int y)]) 1 v_5 dJ6_numberOfTrailingZeros_0f7a4_55 rfl (by rw [e_5]; rfl) (Nat.le_of_ble_eq_true rfl) rfl ?_
        refine z_iload_n 1 dJ6_numberOfTrailingZeros_0f7a4_58 rfl rfl ?_
        refine z_iconst 4 dJ6_numberOfTrailingZeros_0f7a4_59 (by decide) ?_
        refine z_iushr dJ6_numberOfTrailingZeros_0f7a4_60 ?_
        refine z_topi (fun v_6 e_6 => ?_)
        refine z_istore_n (lv' := [(0, .int v_6), (1, .int v_5)]) dJ6_numberOfTrailingZeros_0f7a4_61 rfl (Nat.le_of_ble_eq_true rfl) rfl ?_
        refine z_sub [0,1] rfl ?_
        exact join62 _ _ (by rw [← hj]; simp [stz1, sushr, c_4, e_5, e_6])
    refine z_sipush 256 dJ6_numberOfTrailingZeros_0f7a4_35 (by decide) ?_
    refine z_icmp_le 49 dJ6_numberOfTrailingZeros_0f7a4_38 (by decide) (fun c_7 => ?_) (fun c_7 => ?_)
    · refine z_sub [0,1] rfl ?_
      exact join49 _ _ (by rw [← hj]; simp [stz1, sushr, c_7])
    · obtain ⟨v_8, e_8⟩ : ∃ y : Int32, y = n + 8 := ⟨_, rfl⟩
      refine z_iinc (lv' := [(1, .int v_8), (0, .int y)]) 1 v_8 dJ6_numberOfTrailingZeros_0f7a4_41 rfl (by rw [e_8]; rfl) (Nat.le_of_ble_eq_true rfl) rfl ?_
      refine z_iload_n 1 dJ6_numberOfTrailingZeros_0f7a4_44 rfl rfl ?_
      refine z_bipush 8 dJ6_numberOfTrailingZeros_0f7a4_45 (by decide) ?_
      refine z_iushr dJ6_numberOfTrailingZeros_0f7a4_47 ?_
      refine z_topi (fun v_9 e_9 => ?_)
      refine z_istore_n (lv' := [(0, .int v_9), (1, .int v_8)]) dJ6_numberOfTrailingZeros_0f7a4_48 rfl (Nat.le_of_ble_eq_true rfl) rfl ?_
      refine z_sub [0,1] rfl ?_
      exact join49 _ _ (by rw [← hj]; simp [stz1, sushr, c_7, e_8, e_9])
  refine z_iload_n 0 dJ6_numberOfTrailingZeros_0f7a4_0 rfl rfl ?_
  refine z_iconst (-1) dJ6_numberOfTrailingZeros_0f7a4_1 (by decide) ?_
  refine z_ixor dJ6_numberOfTrailingZeros_0f7a4_2 ?_
  refine z_iload_n 0 dJ6_numberOfTrailingZeros_0f7a4_3 rfl rfl ?_
  refine z_iconst 1 dJ6_numberOfTrailingZeros_0f7a4_4 (by decide) ?_
  refine z_isub dJ6_numberOfTrailingZeros_0f7a4_5 ?_
  refine z_iand dJ6_numberOfTrailingZeros_0f7a4_6 ?_
  refine z_itop (y := (stz0 x)) rfl ?_
  refine z_istore_n (lv' := [(0, .int (stz0 x))]) dJ6_numberOfTrailingZeros_0f7a4_7 rfl (Nat.le_of_ble_eq_true rfl) rfl ?_
  refine z_iload_n 0 dJ6_numberOfTrailingZeros_0f7a4_8 rfl rfl ?_
  refine z_if_gt 17 dJ6_numberOfTrailingZeros_0f7a4_9 (by decide) (fun c_10 => ?_) (fun c_10 => ?_)
  · refine z_iconst 1 dJ6_numberOfTrailingZeros_0f7a4_17 (by decide) ?_
    refine z_istore_n (lv' := [(1, .int 1), (0, .int (stz0 x))]) dJ6_numberOfTrailingZeros_0f7a4_18 rfl (Nat.le_of_ble_eq_true rfl) rfl ?_
    refine z_iload_n 1 dJ6_numberOfTrailingZeros_0f7a4_19 rfl rfl ?_
    refine z_ldcw 65536 dJ6_numberOfTrailingZeros_0f7a4_20 nJ6_264 ?_
    refine z_icmp_le 34 dJ6_numberOfTrailingZeros_0f7a4_23 (by decide) (fun c_11 => ?_) (fun c_11 => ?_)
    · refine z_sub [1,0] rfl ?_
      exact join34 _ _ (by first | assumption | simp [c_10, c_11]) (by simp [stz1, sushr, c_10, c_11])
    · obtain ⟨v_12, e_12⟩ : ∃ y : Int32, y = 1 + 16 := ⟨_, rfl⟩
      refine z_iinc (lv' := [(1, .int v_12), (0, .int (stz0 x))]) 0 v_12 dJ6_numberOfTrailingZeros_0f7a4_26 rfl (by rw [e_12]; rfl) (Nat.le_of_ble_eq_true rfl) rfl ?_
      refine z_iload_n 1 dJ6_numberOfTrailingZeros_0f7a4_29 rfl rfl ?_
      refine z_bipush 16 dJ6_numberOfTrailingZeros_0f7a4_30 (by decide) ?_
      refine z_iushr dJ6_numberOfTrailingZeros_0f7a4_32 ?_
      refine z_topi (fun v_13 e_13 => ?_)
      refine z_istore_n (lv' := [(0, .int v_13), (1, .int v_12)]) dJ6_numberOfTrailingZeros_0f7a4_33 rfl (Nat.le_of_ble_eq_true rfl) rfl ?_
      refine z_sub [0,1] rfl ?_
      exact join34 _ _ (by first | assumption | simp [c_10, c_11, e_12, e_13]) (by simp [stz1, sushr, c_10, c_11, e_12, e_13])
  · refine z_iload_n 0 dJ6_numberOfTrailingZeros_0f7a4_12 rfl rfl ?_
    refine z_bipush 32 dJ6_numberOfTrailingZeros_0f7a4_13 (by decide) ?_
    refine z_iand dJ6_numberOfTrailingZeros_0f7a4_15 ?_
    exact y_iret dJ6_numberOfTrailingZeros_0f7a4_16 rfl (by first | (simp [sntz, c_10]; done) | (rw [sntz, if_pos hx0, ← hj]; rfl)) rfl
set_option maxRecDepth 100000 in
set_option maxHeartbeats 4000000 in
theorem c6_use {m : zmem} {D Y C L W : Nat} (hI : CI m D Y C L W) {K : Nat} (hK : K ≤ 9) : E0 MX6_useSpades 6 [.ref 0, .int (Int32.ofNat K)] m (suse D Y C K m) := by
  obtain ⟨hD, hD7, hY, hY8, hC, hC4, hL, hL4, hW, hW20⟩ := id hI
  refine E0.of (by decide) (Nat.le_of_ble_eq_true rfl) ?_
  show Z _ 0 [(0, .ref 0), (1, .int (Int32.ofNat K))] _ _ _ _
  refine z_iconst 0 dX6_useSpades_0 (by decide) ?_
  refine z_istore_n (lv' := [(2, .int 0), (0, .ref 0), (1, .int (Int32.ofNat K))]) dX6_useSpades_1 rfl (Nat.le_of_ble_eq_true rfl) rfl ?_
  have loop2 : ∀ (n : Nat) (k : Nat) (mm : zmem), k + n = K → CI mm D Y C L W → suse D Y C K m = suse D Y C n mm → Z (zMB (Q0 (suse D Y C K m)) 6 MX6_useSpades) 2 [(0, .ref 0), (1, .int (Int32.ofNat K)), (2, .int (Int32.ofNat k))] [] (hp mm) 0 0 := by
    intro n
    induction n with
    | zero =>
      intro k mm hk hIm hr
      refine z_iload_n 2 dX6_useSpades_2 rfl rfl ?_
      refine z_iload_n 1 dX6_useSpades_3 rfl rfl ?_
      refine z_icmp_ge 66 dX6_useSpades_4 (by decide) (fun c_1 => ?_) (fun c_1 => ?_)
      · exact y_vret dX6_useSpades_66 rfl (by first | exact hr.symm | (rw [hr]; simp [suse, c_1]))
      · exact (dz rfl (b := Int32.ofNat K) rfl (by omega) (by omega) c_1).elim
    | succ n ih2 =>
      intro k mm hk hIm hr
      refine z_iload_n 2 dX6_useSpades_2 rfl rfl ?_
      refine z_iload_n 1 dX6_useSpades_3 rfl rfl ?_
      refine z_icmp_ge 66 dX6_useSpades_4 (by decide) (fun c_2 => ?_) (fun c_2 => ?_)
      · exact (ds rfl (b := Int32.ofNat K) rfl (by omega) (by omega) c_2).elim
      · refine z_aload_n 0 dX6_useSpades_7 rfl rfl ?_
        refine y_getR fX6_29 dX6_useSpades_8 rfl rfl ?_
        refine z_aload_n 0 dX6_useSpades_11 rfl rfl ?_
        refine y_getR fX6_19 dX6_useSpades_12 rfl rfl ?_
        refine z_aload_n 0 dX6_useSpades_15 rfl rfl ?_
        refine y_getR fX6_29 dX6_useSpades_16 rfl rfl ?_
        refine y_Vi [] _ kX6_123 (c_waiting isPar7 hIm.1 hIm.2.1) rfl isPar7.1 dX6_useSpades_19 rfl rfl (Nat.le_of_ble_eq_true rfl) (Nat.le_of_ble_eq_true rfl) ⟨Nat.zero_le _, Nat.zero_le _⟩ ?_
        refine y_Vi [_, _] _ kX6_231 (c_first isPar7 isCus3 hIm.2.2.2.2.1 hIm.2.2.2.2.2.1 hIm.1 hIm.2.1) rfl isPar7.1 dX6_useSpades_22 rfl rfl (Nat.le_of_ble_eq_true rfl) (Nat.le_of_ble_eq_true rfl) ⟨Nat.zero_le _, Nat.zero_le _⟩ ?_
        refine z_itop (y := (sfirst mm 7 3 C D (swait mm 7 D)).1) rfl ?_
        refine z_istore_n (lv' := [(3, .int (sfirst mm 7 3 C D (swait mm 7 D)).1), (0, .ref 0), (1, .int (Int32.ofNat K)), (2, .int (Int32.ofNat k))]) dX6_useSpades_25 rfl (Nat.le_of_ble_eq_true rfl) rfl ?_
        refine z_aload_n 1 dX6_useSpades_26 rfl rfl ?_
        refine y_getR fX6_29 dX6_useSpades_27 rfl rfl ?_
        refine y_Vi [] _ kX6_235 (c_sf isPar7 hIm.1 hIm.2.1 hIm.2.2.1 hIm.2.2.2.1) rfl isPar7.1 dX6_useSpades_30 rfl rfl (Nat.le_of_ble_eq_true rfl) (Nat.le_of_ble_eq_true rfl) ⟨Nat.zero_le _, Nat.zero_le _⟩ ?_
        refine z_itop (y := (ssf mm 7 D Y)) rfl ?_
        refine z_istore (lv' := [(4, .int (ssf mm 7 D Y)), (3, .int (sfirst mm 7 3 C D (swait mm 7 D)).1), (0, .ref 0), (1, .int (Int32.ofNat K)), (2, .int (Int32.ofNat k))]) dX6_useSpades_33 (Nat.le_of_ble_eq_true rfl) rfl ?_
        refine z_iload_n 1 dX6_useSpades_35 rfl rfl ?_
        refine z_iconst (-1) dX6_useSpades_36 (by decide) ?_
        refine z_icmp_eq 45 dX6_useSpades_37 (by decide) (fun c_3 => ?_) (fun c_3 => ?_)
        · exact y_vret dX6_useSpades_45 rfl (by first | exact hr.symm | (rw [hr]; simp [suse, c_2, c_3]))
        · refine z_iload 0 dX6_useSpades_40 rfl ?_
          refine z_if_ne 46 dX6_useSpades_42 (by decide) (fun c_4 => ?_) (fun c_4 => ?_)
          · refine z_aload_n 2 dX6_useSpades_46 rfl rfl ?_
            refine y_getR fX6_29 dX6_useSpades_47 rfl rfl ?_
            refine z_iload_n 1 dX6_useSpades_50 rfl rfl ?_
            refine z_iload 0 dX6_useSpades_51 rfl ?_
            refine y_Si [_] _ kX6_238 c_ntz dX6_useSpades_53 rfl rfl (Nat.le_of_ble_eq_true rfl) (Nat.le_of_ble_eq_true rfl) ⟨Nat.zero_le _, Nat.zero_le _⟩ ?_
            refine y_Vi [_, _] _ kX6_217 (c_layDown isPar7) rfl isPar7.1 dX6_useSpades_56 rfl rfl (Nat.le_of_ble_eq_true rfl) (Nat.le_of_ble_eq_true rfl) ⟨Nat.zero_le _, Nat.zero_le _⟩ ?_
            refine z_pop dX6_useSpades_59 rfl ?_
            obtain ⟨v_5, e_5⟩ : ∃ y : Int32, y = (Int32.ofNat k) + 1 := ⟨_, rfl⟩
            refine z_iinc (lv' := [(2, .int v_5), (4, .int (ssf mm 7 D Y)), (3, .int (sfirst mm 7 3 C D (swait mm 7 D)).1), (0, .ref 0), (1, .int (Int32.ofNat K))]) 4 v_5 dX6_useSpades_60 rfl (by rw [e_5]; rfl) (Nat.le_of_ble_eq_true rfl) rfl ?_
            refine z_goto 2 dX6_useSpades_63 (by decide) ?_
            obtain rfl : v_5 = Int32.ofNat (k + 1) := e_5.trans (nat_succ k)
            refine z_sub [3,4,0] rfl ?_
            exact ih2 (k + 1) _ (by omega) (hIm.keep (K5.lay _ _ _)) (hr.trans (by simp [suse, c_2, c_3, c_4]))
          · exact y_vret dX6_useSpades_45 rfl (by first | exact hr.symm | (rw [hr]; simp [suse, c_2, c_3, c_4]))
  refine z_sub [1,2,0] rfl ?_
  exact loop2 (K) 0 _ (by omega) hI rfl
set_option maxRecDepth 100000 in
set_option maxHeartbeats 4000000 in
theorem c6_spring {m : zmem} {D Y C L W : Nat} (hI : CI m D Y C L W) {n k : Int32} : Ei MX6_spring 8 [.ref 0, .int n, .int k] m ((sk_spring m D Y C n k).1) ((sk_spring m D Y C n k).2) := by
  obtain ⟨hD, hD7, hY, hY8, hC, hC4, hL, hL4, hW, hW20⟩ := id hI
  refine Ei.of (by decide) (Nat.le_of_ble_eq_true rfl) ?_
  show Z _ 0 [(0, .ref 0), (1, .int n), (2, .int k)] _ _ _ _
  refine z_iload_n 1 dX6_spring_0 rfl rfl ?_
  refine z_iconst 1 dX6_spring_1 (by decide) ?_
  refine z_icmp_lt 21 dX6_spring_2 (by decide) (fun c_1 => ?_) (fun c_1 => ?_)
  · refine z_ldc (-1000000002) dX6_spring_21 nX6_77 ?_
    exact y_iret dX6_spring_23 rfl (by first | (rw [hr]; rfl) | simp [sk_spring, c_1]) (by first | (rw [hr]; rfl) | simp [sk_spring, c_1])
  · refine z_iload_n 1 dX6_spring_5 rfl rfl ?_
    refine z_bipush 99 dX6_spring_6 (by decide) ?_
    refine z_icmp_gt 21 dX6_spring_8 (by decide) (fun c_2 => ?_) (fun c_2 => ?_)
    · refine z_ldc (-1000000002) dX6_spring_21 nX6_77 ?_
      exact y_iret dX6_spring_23 rfl (by first | (rw [hr]; rfl) | simp [sk_spring, c_1, c_2]) (by first | (rw [hr]; rfl) | simp [sk_spring, c_1, c_2])
    · refine z_iload_n 2 dX6_spring_11 rfl rfl ?_
      refine z_if_lt 21 dX6_spring_12 (by decide) (fun c_3 => ?_) (fun c_3 => ?_)
      · refine z_ldc (-1000000002) dX6_spring_21 nX6_77 ?_
        exact y_iret dX6_spring_23 rfl (by first | (rw [hr]; rfl) | simp [sk_spring, c_1, c_2, c_3]) (by first | (rw [hr]; rfl) | simp [sk_spring, c_1, c_2, c_3])
      · refine z_iload_n 2 dX6_spring_15 rfl rfl ?_
        refine z_bipush 9 dX6_spring_16 (by decide) ?_
        refine z_icmp_le 24 dX6_spring_18 (by decide) (fun c_4 => ?_) (fun c_4 => ?_)
        · refine z_iconst 0 dX6_spring_24 (by decide) ?_
          refine z_istore_n (lv' := [(3, .int 0), (0, .ref 0), (1, .int n), (2, .int k)]) dX6_spring_25 rfl (Nat.le_of_ble_eq_true rfl) rfl ?_
          have loop26 : ∀ (q : Nat) (j : Nat) (mm : zmem), j + q = n.toNatClampNeg → CI mm D Y C L W → k = Int32.ofNat k.toNatClampNeg → k.toNatClampNeg ≤ 9 → sk_spring m D Y C n k = (spop (slaid (sfold (ssprs D Y C k) q j mm) 7 D), sfold (ssprs D Y C k) q j mm) → Z (zMB (Qi ((sk_spring m D Y C n k).1) ((sk_spring m D Y C n k).2)) 8 MX6_spring) 26 [(0, .ref 0), (1, .int n), (2, .int k), (3, .int (Int32.ofNat j))] [] (hp mm) 0 0 := by
            intro q
            induction q with
            | zero =>
              intro j mm hj hIm hkk hk9 hr
              have h99 := rng_le (hi := 99) c_2
              have h98 : (99 : Int32).toNatClampNeg = 99 := rfl
              refine z_iload_n 3 dX6_spring_26 rfl rfl ?_
              refine z_iload_n 1 dX6_spring_27 rfl rfl ?_
              refine z_icmp_ge 68 dX6_spring_28 (by decide) (fun c_5 => ?_) (fun c_5 => ?_)
              · refine z_aload_n 0 dX6_spring_68 rfl rfl ?_
                refine y_getR fX6_29 dX6_spring_69 rfl rfl ?_
                refine y_Vi [] _ kX6_127 (c_laid isPar7 hIm.1 hD7) rfl isPar7.1 dX6_spring_72 rfl rfl (Nat.le_of_ble_eq_true rfl) (Nat.le_of_ble_eq_true rfl) ⟨Nat.zero_le _, Nat.zero_le _⟩ ?_
                refine y_Si [_] _ kX6_226 c_pop dX6_spring_75 rfl rfl (Nat.le_of_ble_eq_true rfl) (Nat.le_of_ble_eq_true rfl) ⟨Nat.zero_le _, Nat.zero_le _⟩ ?_
                exact y_iret dX6_spring_78 rfl (by first | (rw [hr]; rfl) | simp [sk_spring, c_1, c_2, c_3, c_4, c_5]) (by first | (rw [hr]; rfl) | simp [sk_spring, c_1, c_2, c_3, c_4, c_5])
              · exact (dz rfl (rng (lo := 1) (by decide) c_1 c_2) (by omega) (by omega) c_5).elim
            | succ q ih26 =>
              intro j mm hj hIm hkk hk9 hr
              have h99 := rng_le (hi := 99) c_2
              have h98 : (99 : Int32).toNatClampNeg = 99 := rfl
              refine z_iload_n 3 dX6_spring_26 rfl rfl ?_
              refine z_iload_n 1 dX6_spring_27 rfl rfl ?_
              refine z_icmp_ge 68 dX6_spring_28 (by decide) (fun c_6 => ?_) (fun c_6 => ?_)
              · exact (ds rfl (rng (lo := 1) (by decide) c_1 c_2) (by omega) (by omega) c_6).elim
              · refine z_aload_n 0 dX6_spring_31 rfl rfl ?_
                refine y_getR fX6_29 dX6_spring_32 rfl rfl ?_
                refine z_aload_n 0 dX6_spring_35 rfl rfl ?_
                refine y_getR fX6_29 dX6_spring_36 rfl rfl ?_
                refine z_bipush 12 dX6_spring_39 (by decide) ?_
                refine y_Vi [_] _ kX6_220 (c_draw isPar7) rfl isPar7.1 dX6_spring_41 rfl rfl (Nat.le_of_ble_eq_true rfl) (Nat.le_of_ble_eq_true rfl) ⟨Nat.zero_le _, Nat.zero_le _⟩ ?_
                refine z_iconst 3 dX6_spring_44 (by decide) ?_
                refine z_isub dX6_spring_45 ?_
                refine y_V0 [_] _ kX6_202 (c_day isPar7 (hIm.keep (K5.spr0 mm)).1 hD7 (hIm.keep (K5.spr0 mm)).2.2.1 hY8) rfl isPar7.1 dX6_spring_46 rfl rfl (Nat.le_of_ble_eq_true rfl) (Nat.le_of_ble_eq_true rfl) ⟨Nat.zero_le _, Nat.zero_le _⟩ ?_
                refine z_aload_n 0 dX6_spring_49 rfl rfl ?_
                refine y_getR fX6_29 dX6_spring_50 rfl rfl ?_
                refine z_iconst 2 dX6_spring_53 (by decide) ?_
                refine y_V0 [_] _ kX6_208 (c_night isPar7 (hIm.keep ((K5.spr0 mm).tr (K5.day _ D Y _))).1 hD7) rfl isPar7.1 dX6_spring_54 rfl rfl (Nat.le_of_ble_eq_true rfl) (Nat.le_of_ble_eq_true rfl) ⟨Nat.zero_le _, Nat.zero_le _⟩ ?_
                refine z_aload_n 0 dX6_spring_57 rfl rfl ?_
                refine z_iload_n 2 dX6_spring_58 rfl rfl ?_
                refine z_itop (y := (Int32.ofNat k.toNatClampNeg)) hkk ?_
                refine y_V0 [_] _ kX6_223 (c6_use (K := k.toNatClampNeg) (hIm.keep (K5.spr1 mm D Y)) hk9) rfl rfl dX6_spring_59 rfl rfl (Nat.le_of_ble_eq_true rfl) (Nat.le_of_ble_eq_true rfl) ⟨Nat.zero_le _, Nat.zero_le _⟩ ?_
                obtain ⟨v_7, e_7⟩ : ∃ y : Int32, y = (Int32.ofNat j) + 1 := ⟨_, rfl⟩
                refine z_iinc (lv' := [(3, .int v_7), (0, .ref 0), (1, .int n), (2, .int k)]) 3 v_7 dX6_spring_62 rfl (by rw [e_7]; rfl) (Nat.le_of_ble_eq_true rfl) rfl ?_
                refine z_goto 26 dX6_spring_65 (by decide) ?_
                obtain rfl : v_7 = Int32.ofNat (j + 1) := e_7.trans (nat_succ j)
                refine z_sub [1,2,3,0] rfl ?_
                exact ih26 (j + 1) _ (by omega) (hIm.keep ((K5.spr1 mm D Y).tr (K5.use D Y C _ _))) hkk hk9 (hr.trans rfl)
          refine z_sub [1,2,3,0] rfl ?_
          exact loop26 (n.toNatClampNeg) 0 _ (by omega) hI (rng (lo := 0) (by decide) c_3 (Int32.not_lt.mpr c_4)) (rng_le (hi := 9) (Int32.not_lt.mpr c_4)) (by simp [sk_spring, ssprm, c_1, c_2, c_3, c_4])
        · refine z_ldc (-1000000002) dX6_spring_21 nX6_77 ?_
          exact y_iret dX6_spring_23 rfl (by first | (rw [hr]; rfl) | simp [sk_spring, c_1, c_2, c_3, c_4]) (by first | (rw [hr]; rfl) | simp [sk_spring, c_1, c_2, c_3, c_4])
set_option maxRecDepth 100000 in
set_option maxHeartbeats 4000000 in
theorem c6_span {m : zmem} {D Y C L W : Nat} (hI : CI m D Y C L W) {n a b w : Int32} : Ei MX6_span 6 [.ref 0, .int n, .int a, .int b, .int w] m (sk_span m D Y n a b w) (m) := by
  obtain ⟨hD, hD7, hY, hY8, hC, hC4, hL, hL4, hW, hW20⟩ := id hI
  refine Ei.of (by decide) (Nat.le_of_ble_eq_true rfl) ?_
  show Z _ 0 [(0, .ref 0), (1, .int n), (2, .int a), (3, .int b), (4, .int w)] _ _ _ _
  refine z_iload_n 1 dX6_span_0 rfl rfl ?_
  refine z_iconst 1 dX6_span_1 (by decide) ?_
  refine z_icmp_lt 44 dX6_span_2 (by decide) (fun c_1 => ?_) (fun c_1 => ?_)
  · refine z_ldc (-1000000002) dX6_span_44 nX6_77 ?_
    exact y_iret dX6_span_46 rfl (by simp [sk_span, c_1]) rfl
  · refine z_iload_n 1 dX6_span_5 rfl rfl ?_
    refine z_bipush 8 dX6_span_6 (by decide) ?_
    refine z_icmp_gt 44 dX6_span_8 (by decide) (fun c_2 => ?_) (fun c_2 => ?_)
    · refine z_ldc (-1000000002) dX6_span_44 nX6_77 ?_
      exact y_iret dX6_span_46 rfl (by simp [sk_span, c_1, c_2]) rfl
    · refine z_iload_n 2 dX6_span_11 rfl rfl ?_
      refine z_iconst 1 dX6_span_12 (by decide) ?_
      refine z_icmp_lt 44 dX6_span_13 (by decide) (fun c_3 => ?_) (fun c_3 => ?_)
      · refine z_ldc (-1000000002) dX6_span_44 nX6_77 ?_
        exact y_iret dX6_span_46 rfl (by simp [sk_span, c_1, c_2, c_3]) rfl
      · refine z_iload_n 2 dX6_span_16 rfl rfl ?_
        refine z_bipush 9 dX6_span_17 (by decide) ?_
        refine z_icmp_gt 44 dX6_span_19 (by decide) (fun c_4 => ?_) (fun c_4 => ?_)
        · refine z_ldc (-1000000002) dX6_span_44 nX6_77 ?_
          exact y_iret dX6_span_46 rfl (by simp [sk_span, c_1, c_2, c_3, c_4]) rfl
        · refine z_iload_n 3 dX6_span_22 rfl rfl ?_
          refine z_iload_n 2 dX6_span_23 rfl rfl ?_
          refine z_icmp_lt 44 dX6_span_24 (by decide) (fun c_5 => ?_) (fun c_5 => ?_)
          · refine z_ldc (-1000000002) dX6_span_44 nX6_77 ?_
            exact y_iret dX6_span_46 rfl (by simp [sk_span, c_1, c_2, c_3, c_4, c_5]) rfl
          · refine z_iload_n 3 dX6_span_27 rfl rfl ?_
            refine z_bipush 9 dX6_span_28 (by decide) ?_
            refine z_icmp_gt 44 dX6_span_30 (by decide) (fun c_6 => ?_) (fun c_6 => ?_)
            · refine z_ldc (-1000000002) dX6_span_44 nX6_77 ?_
              exact y_iret dX6_span_46 rfl (by simp [sk_span, c_1, c_2, c_3, c_4, c_5, c_6]) rfl
            · refine z_iload 4 dX6_span_33 rfl ?_
              refine z_if_lt 44 dX6_span_35 (by decide) (fun c_7 => ?_) (fun c_7 => ?_)
              · refine z_ldc (-1000000002) dX6_span_44 nX6_77 ?_
                exact y_iret dX6_span_46 rfl (by simp [sk_span, c_1, c_2, c_3, c_4, c_5, c_6, c_7]) rfl
              · refine z_iload 4 dX6_span_38 rfl ?_
                refine z_iconst 1 dX6_span_40 (by decide) ?_
                refine z_icmp_le 47 dX6_span_41 (by decide) (fun c_8 => ?_) (fun c_8 => ?_)
                · refine z_aload_n 0 dX6_span_47 rfl rfl ?_
                  refine y_getR fX6_29 dX6_span_48 rfl rfl ?_
                  refine z_iload_n 1 dX6_span_51 rfl rfl ?_
                  refine z_iload 4 dX6_span_52 rfl ?_
                  refine z_if_ne 61 dX6_span_54 (by decide) (fun c_9 => ?_) (fun c_9 => ?_)
                  · refine z_iload_n 2 dX6_span_61 rfl rfl ?_
                    refine y_Vi [_, _] _ kX6_264 (c_until isPar7 hD hD7 hY hY8) rfl isPar7.1 dX6_span_62 rfl rfl (Nat.le_of_ble_eq_true rfl) (Nat.le_of_ble_eq_true rfl) ⟨Nat.zero_le _, Nat.zero_le _⟩ ?_
                    exact y_iret dX6_span_65 rfl (by simp [sk_span, c_1, c_2, c_3, c_4, c_5, c_6, c_7, c_8, c_9]) rfl
                  · refine z_iload_n 3 dX6_span_57 rfl rfl ?_
                    refine z_goto 62 dX6_span_58 (by decide) ?_
                    refine y_Vi [_, _] _ kX6_264 (c_until isPar7 hD hD7 hY hY8) rfl isPar7.1 dX6_span_62 rfl rfl (Nat.le_of_ble_eq_true rfl) (Nat.le_of_ble_eq_true rfl) ⟨Nat.zero_le _, Nat.zero_le _⟩ ?_
                    exact y_iret dX6_span_65 rfl (by simp [sk_span, c_1, c_2, c_3, c_4, c_5, c_6, c_7, c_8, c_9]) rfl
                · refine z_ldc (-1000000002) dX6_span_44 nX6_77 ?_
                  exact y_iret dX6_span_46 rfl (by simp [sk_span, c_1, c_2, c_3, c_4, c_5, c_6, c_7, c_8]) rfl
set_option maxRecDepth 100000 in
set_option maxHeartbeats 4000000 in
theorem c6_laying {m : zmem} {D Y C L W : Nat} (hI : CI m D Y C L W) {d : Int32} : Ei MX6_laying 14 [.ref 0, .int d] m ((sk_laying m D Y C d).1) ((sk_laying m D Y C d).2) := by
  obtain ⟨hD, hD7, hY, hY8, hC, hC4, hL, hL4, hW, hW20⟩ := id hI
  refine Ei.of (by decide) (Nat.le_of_ble_eq_true rfl) ?_
  show Z _ 0 [(0, .ref 0), (1, .int d)] _ _ _ _
  have join19 : ¬ (¬ d = -1 ∧ sin (m 7 1) d = 0) → Z (zMB (Qi ((sk_laying m D Y C d).1) ((sk_laying m D Y C d).2)) 14 MX6_laying) 19 [(0, .ref 0), (1, .int d)] [] (hp m) 0 0 := by
    intro hj
    have hIb := hI.keep (K5.begin m C)
    have hIf := hIb.keep (K5_find (spbegin C m) (swait (spbegin C m) 7 D) (ssf (spbegin C m) 7 D Y))
    refine z_aload_n 0 dX6_laying_19 rfl rfl ?_
    refine y_getR fX6_59 dX6_laying_20 rfl rfl ?_
    refine z_aload_n 0 dX6_laying_23 rfl rfl ?_
    refine y_getR fX6_29 dX6_laying_24 rfl rfl ?_
    refine z_aload_n 0 dX6_laying_27 rfl rfl ?_
    refine y_getR fX6_19 dX6_laying_28 rfl rfl ?_
    refine y_V0 [_, _] _ kX6_241 (c_planBegin hC hC4) rfl rfl dX6_laying_31 rfl rfl (Nat.le_of_ble_eq_true rfl) (Nat.le_of_ble_eq_true rfl) ⟨Nat.zero_le _, Nat.zero_le _⟩ ?_
    refine z_aload_n 0 dX6_laying_34 rfl rfl ?_
    refine y_getR fX6_59 dX6_laying_35 rfl rfl ?_
    refine z_aload_n 0 dX6_laying_38 rfl rfl ?_
    refine y_getR fX6_29 dX6_laying_39 rfl rfl ?_
    refine y_Vi [] _ kX6_123 (c_waiting isPar7 hIb.1 hD7) rfl isPar7.1 dX6_laying_42 rfl rfl (Nat.le_of_ble_eq_true rfl) (Nat.le_of_ble_eq_true rfl) ⟨Nat.zero_le _, Nat.zero_le _⟩ ?_
    refine z_aload_n 0 dX6_laying_45 rfl rfl ?_
    refine y_getR fX6_29 dX6_laying_46 rfl rfl ?_
    refine y_Vi [] _ kX6_235 (c_sf isPar7 hIb.1 hD7 hIb.2.2.1 hY8) rfl isPar7.1 dX6_laying_49 rfl rfl (Nat.le_of_ble_eq_true rfl) (Nat.le_of_ble_eq_true rfl) ⟨Nat.zero_le _, Nat.zero_le _⟩ ?_
    refine y_V0 [_, _] _ kX6_251 c_find rfl rfl dX6_laying_52 rfl rfl (Nat.le_of_ble_eq_true rfl) (Nat.le_of_ble_eq_true rfl) ⟨Nat.zero_le _, Nat.zero_le _⟩ ?_
    refine z_aload_n 0 dX6_laying_55 rfl rfl ?_
    refine y_getR fX6_59 dX6_laying_56 rfl rfl ?_
    refine y_getI fX6_255 dX6_laying_59 rfl rfl ?_
    refine z_if_ne 67 dX6_laying_62 (by decide) (fun c_1 => ?_) (fun c_1 => ?_)
    · refine z_iload_n 1 dX6_laying_67 rfl rfl ?_
      refine z_iconst (-1) dX6_laying_68 (by decide) ?_
      refine z_icmp_ne 80 dX6_laying_69 (by decide) (fun c_2 => ?_) (fun c_2 => ?_)
      · refine z_aload_n 0 dX6_laying_80 rfl rfl ?_
        refine y_getR fX6_29 dX6_laying_81 rfl rfl ?_
        refine y_Vi [] _ kX6_123 (c_waiting isPar7 hIf.1 hD7) rfl isPar7.1 dX6_laying_84 rfl rfl (Nat.le_of_ble_eq_true rfl) (Nat.le_of_ble_eq_true rfl) ⟨Nat.zero_le _, Nat.zero_le _⟩ ?_
        refine z_iload_n 1 dX6_laying_87 rfl rfl ?_
        refine y_Si [_, _] _ kX6_174 c_has dX6_laying_88 rfl rfl (Nat.le_of_ble_eq_true rfl) (Nat.le_of_ble_eq_true rfl) ⟨Nat.zero_le _, Nat.zero_le _⟩ ?_
        refine z_if_eq 108 dX6_laying_91 (by decide) (fun c_3 => ?_) (fun c_3 => ?_)
        · refine z_iconst (-1) dX6_laying_108 (by decide) ?_
          exact y_iret dX6_laying_109 rfl (by first | (simp [sk_laying, c_1, c_2, c_3]; done) | (rw [sk_laying, if_neg hj] <;> simp [sk_layfm, c_1, c_2, c_3])) (by first | (simp [sk_laying, c_1, c_2, c_3]; done) | (rw [sk_laying, if_neg hj]; rfl))
        · refine z_aload_n 0 dX6_laying_94 rfl rfl ?_
          refine y_getR fX6_59 dX6_laying_95 rfl rfl ?_
          refine y_getR fX6_261 dX6_laying_98 rfl rfl ?_
          refine z_iload_n 1 dX6_laying_101 rfl rfl ?_
          refine y_Si [_, _] _ kX6_142 (c_at (q := 54) (n := 7) rfl (by decide)) dX6_laying_102 rfl rfl (Nat.le_of_ble_eq_true rfl) (Nat.le_of_ble_eq_true rfl) ⟨Nat.zero_le _, Nat.zero_le _⟩ ?_
          refine z_goto 109 dX6_laying_105 (by decide) ?_
          exact y_iret dX6_laying_109 rfl (by first | (simp [sk_laying, c_1, c_2, c_3]; done) | (rw [sk_laying, if_neg hj] <;> simp [sk_layfm, c_1, c_2, c_3])) (by first | (simp [sk_laying, c_1, c_2, c_3]; done) | (rw [sk_laying, if_neg hj]; rfl))
      · refine z_aload_n 0 dX6_laying_72 rfl rfl ?_
        refine y_getR fX6_59 dX6_laying_73 rfl rfl ?_
        refine y_getI fX6_258 dX6_laying_76 rfl rfl ?_
        exact y_iret dX6_laying_79 rfl (by first | (simp [sk_laying, c_1, c_2]; done) | (rw [sk_laying, if_neg hj] <;> simp [sk_layfm, c_1, c_2])) (by first | (simp [sk_laying, c_1, c_2]; done) | (rw [sk_laying, if_neg hj]; rfl))
    · refine z_iconst (-1) dX6_laying_65 (by decide) ?_
      exact y_iret dX6_laying_66 rfl (by first | (simp [sk_laying, c_1]; done) | (rw [sk_laying, if_neg hj] <;> simp [sk_layfm, c_1])) (by first | (simp [sk_laying, c_1]; done) | (rw [sk_laying, if_neg hj]; rfl))
  refine z_iload_n 1 dX6_laying_0 rfl rfl ?_
  refine z_iconst (-1) dX6_laying_1 (by decide) ?_
  refine z_icmp_eq 19 dX6_laying_2 (by decide) (fun c_4 => ?_) (fun c_4 => ?_)
  · refine z_sub [0,1] rfl ?_
    exact join19 (by simp [c_4])
  · refine z_aload_n 0 dX6_laying_5 rfl rfl ?_
    refine y_getR fX6_29 dX6_laying_6 rfl rfl ?_
    refine z_iload_n 1 dX6_laying_9 rfl rfl ?_
    refine y_Vi [_] _ kX6_150 (c_hasDead isPar7) rfl isPar7.1 dX6_laying_10 rfl rfl (Nat.le_of_ble_eq_true rfl) (Nat.le_of_ble_eq_true rfl) ⟨Nat.zero_le _, Nat.zero_le _⟩ ?_
    refine z_if_ne 19 dX6_laying_13 (by decide) (fun c_5 => ?_) (fun c_5 => ?_)
    · refine z_sub [0,1] rfl ?_
      exact join19 (by simp [c_4, c_5])
    · refine z_ldc (-1000000001) dX6_laying_16 nX6_137 ?_
      exact y_iret dX6_laying_18 rfl (by first | (simp [sk_laying, c_4, c_5]; done) | (rw [sk_laying, if_neg hj] <;> simp [sk_layfm, c_4, c_5])) (by first | (simp [sk_laying, c_4, c_5]; done) | (rw [sk_laying, if_neg hj]; rfl))
set_option maxRecDepth 100000 in
set_option maxHeartbeats 4000000 in
theorem c6_fits {m : zmem} {D Y C L W : Nat} (hI : CI m D Y C L W)  : Ei MX6_fits 4 [.ref 0] m (aat 128 (scw m D (2 ^ D - 1) 56) (Int32.ofNat (2 ^ D - 1))) (scw m D (2 ^ D - 1)) := by
  obtain ⟨hD, hD7, hY, hY8, hC, hC4, hL, hL4, hW, hW20⟩ := id hI
  refine Ei.of (by decide) (Nat.le_of_ble_eq_true rfl) ?_
  show Z _ 0 [(0, .ref 0)] _ _ _ _
  refine z_aload_n 0 dX6_fits_0 rfl rfl ?_
  refine y_getR fX6_66 dX6_fits_1 rfl rfl ?_
  refine z_aload_n 0 dX6_fits_4 rfl rfl ?_
  refine y_getR fX6_29 dX6_fits_5 rfl rfl ?_
  refine y_Vi [_] _ kX6_273 (c_count hD hD7 (sall2 hD hD7) (all127 hD7)) rfl rfl dX6_fits_8 rfl rfl (Nat.le_of_ble_eq_true rfl) (Nat.le_of_ble_eq_true rfl) ⟨Nat.zero_le _, Nat.zero_le _⟩ ?_
  exact y_iret dX6_fits_11 rfl rfl rfl
set_option maxRecDepth 100000 in
set_option maxHeartbeats 4000000 in
theorem c6_mixed {m : zmem} {D Y C L W : Nat} (hI : CI m D Y C L W) {c : Int32} : Ei MX6_mixed 4 [.ref 0, .int c] m ((sk_mixed m D c).1) ((sk_mixed m D c).2) := by
  obtain ⟨hD, hD7, hY, hY8, hC, hC4, hL, hL4, hW, hW20⟩ := id hI
  refine Ei.of (by decide) (Nat.le_of_ble_eq_true rfl) ?_
  show Z _ 0 [(0, .ref 0), (1, .int c)] _ _ _ _
  have join19 : ¬ (¬ c = -1 ∧ sin (m 7 1) c = 0) → Z (zMB (Qi ((sk_mixed m D c).1) ((sk_mixed m D c).2)) 4 MX6_mixed) 19 [(0, .ref 0), (1, .int c)] [] (hp m) 0 0 := by
    intro hj
    refine z_aload_n 0 dX6_mixed_19 rfl rfl ?_
    refine y_getR fX6_66 dX6_mixed_20 rfl rfl ?_
    refine z_aload_n 0 dX6_mixed_23 rfl rfl ?_
    refine y_getR fX6_29 dX6_mixed_24 rfl rfl ?_
    refine y_V0 [_] _ kX6_277 (c_weigh hD hD7 (sall2 hD hD7) (all127 hD7)) rfl rfl dX6_mixed_27 rfl rfl (Nat.le_of_ble_eq_true rfl) (Nat.le_of_ble_eq_true rfl) ⟨Nat.zero_le _, Nat.zero_le _⟩ ?_
    refine z_aload_n 0 dX6_mixed_30 rfl rfl ?_
    refine y_getR fX6_66 dX6_mixed_31 rfl rfl ?_
    refine y_Vi [] _ kX6_280 c_fewest rfl rfl dX6_mixed_34 rfl rfl (Nat.le_of_ble_eq_true rfl) (Nat.le_of_ble_eq_true rfl) ⟨Nat.zero_le _, Nat.zero_le _⟩ ?_
    refine z_bipush 99 dX6_mixed_37 (by decide) ?_
    refine z_icmp_lt 44 dX6_mixed_39 (by decide) (fun c_1 => ?_) (fun c_1 => ?_)
    · refine z_iload_n 1 dX6_mixed_44 rfl rfl ?_
      refine z_iconst (-1) dX6_mixed_45 (by decide) ?_
      refine z_icmp_ne 59 dX6_mixed_46 (by decide) (fun c_2 => ?_) (fun c_2 => ?_)
      · refine z_aload_n 0 dX6_mixed_59 rfl rfl ?_
        refine y_getR fX6_66 dX6_mixed_60 rfl rfl ?_
        refine z_aload_n 0 dX6_mixed_63 rfl rfl ?_
        refine y_getR fX6_29 dX6_mixed_64 rfl rfl ?_
        refine z_iload_n 1 dX6_mixed_67 rfl rfl ?_
        refine z_itop (y := (Int32.ofNat c.toNatClampNeg)) (sin_nat hD (by omega) (fun q => hj ⟨c_2, q⟩)).1 ?_
        refine y_Vi [_, _] _ kX6_283 (c_nameOf (by have := (sin_nat hD (by omega) (fun q => hj ⟨c_2, q⟩)).2; omega) (hI.keep (K5.swg m D _)).1 hD7) rfl rfl dX6_mixed_68 rfl rfl (Nat.le_of_ble_eq_true rfl) (Nat.le_of_ble_eq_true rfl) ⟨Nat.zero_le _, Nat.zero_le _⟩ ?_
        exact y_iret dX6_mixed_71 rfl (by first | (simp [sk_mixed, c_1, c_2]; done) | (rw [sk_mixed, if_neg hj] <;> simp [c_1, c_2])) (by first | (simp [sk_mixed, c_1, c_2]; done) | (rw [sk_mixed, if_neg hj] <;> simp [c_1, c_2]))
      · refine z_aload_n 0 dX6_mixed_49 rfl rfl ?_
        refine y_getR fX6_66 dX6_mixed_50 rfl rfl ?_
        refine y_Vi [] _ kX6_280 c_fewest rfl rfl dX6_mixed_53 rfl rfl (Nat.le_of_ble_eq_true rfl) (Nat.le_of_ble_eq_true rfl) ⟨Nat.zero_le _, Nat.zero_le _⟩ ?_
        refine z_goto 71 dX6_mixed_56 (by decide) ?_
        exact y_iret dX6_mixed_71 rfl (by first | (simp [sk_mixed, c_1, c_2]; done) | (rw [sk_mixed, if_neg hj] <;> simp [c_1, c_2])) (by first | (simp [sk_mixed, c_1, c_2]; done) | (rw [sk_mixed, if_neg hj] <;> simp [c_1, c_2]))
    · refine z_iconst (-1) dX6_mixed_42 (by decide) ?_
      exact y_iret dX6_mixed_43 rfl (by first | (simp [sk_mixed, c_1]; done) | (rw [sk_mixed, if_neg hj] <;> simp [c_1])) (by first | (simp [sk_mixed, c_1]; done) | (rw [sk_mixed, if_neg hj] <;> simp [c_1]))
  refine z_iload_n 1 dX6_mixed_0 rfl rfl ?_
  refine z_iconst (-1) dX6_mixed_1 (by decide) ?_
  refine z_icmp_eq 19 dX6_mixed_2 (by decide) (fun c_3 => ?_) (fun c_3 => ?_)
  · refine z_sub [0,1] rfl ?_
    exact join19 (by simp [c_3])
  · refine z_aload_n 0 dX6_mixed_5 rfl rfl ?_
    refine y_getR fX6_29 dX6_mixed_6 rfl rfl ?_
    refine z_iload_n 1 dX6_mixed_9 rfl rfl ?_
    refine y_Vi [_] _ kX6_150 (c_hasDead isPar7) rfl isPar7.1 dX6_mixed_10 rfl rfl (Nat.le_of_ble_eq_true rfl) (Nat.le_of_ble_eq_true rfl) ⟨Nat.zero_le _, Nat.zero_le _⟩ ?_
    refine z_if_ne 19 dX6_mixed_13 (by decide) (fun c_4 => ?_) (fun c_4 => ?_)
    · refine z_sub [0,1] rfl ?_
      exact join19 (by simp [c_3, c_4])
    · refine z_ldc (-1000000001) dX6_mixed_16 nX6_137 ?_
      exact y_iret dX6_mixed_18 rfl (by first | (simp [sk_mixed, c_3, c_4]; done) | (rw [sk_mixed, if_neg hj] <;> simp [c_3, c_4])) (by first | (simp [sk_mixed, c_3, c_4]; done) | (rw [sk_mixed, if_neg hj] <;> simp [c_3, c_4]))
set_option maxRecDepth 100000 in
set_option maxHeartbeats 4000000 in
theorem c6_churches {m : zmem} {D Y C L W : Nat} (hI : CI m D Y C L W) {w : Int32} : Ei MX6_churches 4 [.ref 0, .int w] m (sk_churches m D w) (m) := by
  obtain ⟨hD, hD7, hY, hY8, hC, hC4, hL, hL4, hW, hW20⟩ := id hI
  refine Ei.of (by decide) (Nat.le_of_ble_eq_true rfl) ?_
  show Z _ 0 [(0, .ref 0), (1, .int w)] _ _ _ _
  refine z_iload_n 1 dX6_churches_0 rfl rfl ?_
  refine z_if_lt 9 dX6_churches_1 (by decide) (fun c_1 => ?_) (fun c_1 => ?_)
  · refine z_ldc (-1000000002) dX6_churches_9 nX6_77 ?_
    exact y_iret dX6_churches_11 rfl (by first | (simp [sk_churches, c_1]; done) | (simp [sk_churches, hab, c_1])) rfl
  · refine z_iload_n 1 dX6_churches_4 rfl rfl ?_
    refine z_iconst 1 dX6_churches_5 (by decide) ?_
    refine z_icmp_le 12 dX6_churches_6 (by decide) (fun c_2 => ?_) (fun c_2 => ?_)
    · refine z_aload_n 0 dX6_churches_12 rfl rfl ?_
      refine y_getR fX6_29 dX6_churches_13 rfl rfl ?_
      refine y_Vi [] _ kX6_123 (c_waiting isPar7 hD hD7) rfl isPar7.1 dX6_churches_16 rfl rfl (Nat.le_of_ble_eq_true rfl) (Nat.le_of_ble_eq_true rfl) ⟨Nat.zero_le _, Nat.zero_le _⟩ ?_
      refine z_itop (y := (swait m 7 D)) rfl ?_
      refine z_istore_n (lv' := [(2, .int (swait m 7 D)), (0, .ref 0), (1, .int w)]) dX6_churches_19 rfl (Nat.le_of_ble_eq_true rfl) rfl ?_
      refine z_iconst 0 dX6_churches_20 (by decide) ?_
      refine z_istore_n (lv' := [(3, .int 0), (2, .int (swait m 7 D)), (0, .ref 0), (1, .int w)]) dX6_churches_21 rfl (Nat.le_of_ble_eq_true rfl) rfl ?_
      refine z_aload_n 2 dX6_churches_22 rfl rfl ?_
      refine y_getR fX6_29 dX6_churches_23 rfl rfl ?_
      refine z_iload_n 1 dX6_churches_26 rfl rfl ?_
      refine y_Vi [_] _ kX6_287 (c_ranks isPar7 hD hD7) rfl isPar7.1 dX6_churches_27 rfl rfl (Nat.le_of_ble_eq_true rfl) (Nat.le_of_ble_eq_true rfl) ⟨Nat.zero_le _, Nat.zero_le _⟩ ?_
      refine z_itop (y := (sranks m 7 D (swait m 7 D))) rfl ?_
      refine z_istore (lv' := [(4, .int (sranks m 7 D (swait m 7 D))), (3, .int 0), (2, .int (swait m 7 D)), (0, .ref 0), (1, .int w)]) dX6_churches_30 (Nat.le_of_ble_eq_true rfl) rfl ?_
      refine z_iconst 1 dX6_churches_32 (by decide) ?_
      refine z_istore (lv' := [(5, .int 1), (4, .int (sranks m 7 D (swait m 7 D))), (3, .int 0), (2, .int (swait m 7 D)), (0, .ref 0), (1, .int w)]) dX6_churches_33 (Nat.le_of_ble_eq_true rfl) rfl ?_
      have join105 : ∀ (a : Int32) (b : Int32), sk_ch m D = (a, b) → Z (zMB (Qi (sk_churches m D w) (m)) 4 MX6_churches) 105 [(0, .ref 0), (1, .int w), (3, .int a), (4, .int b)] [] (hp m) 0 0 := by
        intro a b hab
        refine z_iload_n 1 dX6_churches_105 rfl rfl ?_
        refine z_if_ne 114 dX6_churches_106 (by decide) (fun c_3 => ?_) (fun c_3 => ?_)
        · refine z_iload_n 2 dX6_churches_114 rfl rfl ?_
          exact y_iret dX6_churches_115 rfl (by first | (simp [sk_churches, c_1, c_2, c_3]; done) | (simp [sk_churches, hab, c_1, c_2, c_3])) rfl
        · refine z_iload 3 dX6_churches_109 rfl ?_
          refine z_goto 115 dX6_churches_111 (by decide) ?_
          exact y_iret dX6_churches_115 rfl (by first | (simp [sk_churches, c_1, c_2, c_3]; done) | (simp [sk_churches, hab, c_1, c_2, c_3])) rfl
      have loop35 : ∀ (n : Nat) (k : Nat) (a : Int32) (b : Int32), k + n = 128 → sk_ch m D = sfold (sk_chi m D (swait m 7 D)) n k (a, b) → Z (zMB (Qi (sk_churches m D w) (m)) 4 MX6_churches) 35 [(0, .ref 0), (1, .int w), (2, .int (swait m 7 D)), (3, .int a), (4, .int b), (5, .int (Int32.ofNat k))] [] (hp m) 0 0 := by
        intro n
        induction n with
        | zero =>
          intro k a b hk hr
          refine z_iload 5 dX6_churches_35 rfl ?_
          refine z_bipush 7 dX6_churches_37 (by decide) ?_
          refine y_Si [_] _ kX6_199 c_bit dX6_churches_39 rfl rfl (Nat.le_of_ble_eq_true rfl) (Nat.le_of_ble_eq_true rfl) ⟨Nat.zero_le _, Nat.zero_le _⟩ ?_
          refine z_itop (y := 128) (by decide) ?_
          refine z_icmp_ge 105 dX6_churches_42 (by decide) (fun c_4 => ?_) (fun c_4 => ?_)
          · refine z_sub [0,1,3,4] rfl ?_
            exact join105 _ _ hr
          · exact (dz rfl (b := 128) (N := 128) rfl (by omega) (by omega) c_4).elim
        | succ n ih35 =>
          intro k a b hk hr
          refine z_iload 5 dX6_churches_35 rfl ?_
          refine z_bipush 7 dX6_churches_37 (by decide) ?_
          refine y_Si [_] _ kX6_199 c_bit dX6_churches_39 rfl rfl (Nat.le_of_ble_eq_true rfl) (Nat.le_of_ble_eq_true rfl) ⟨Nat.zero_le _, Nat.zero_le _⟩ ?_
          refine z_itop (y := 128) (by decide) ?_
          refine z_icmp_ge 105 dX6_churches_42 (by decide) (fun c_5 => ?_) (fun c_5 => ?_)
          · exact (ds rfl (b := 128) (N := 128) rfl (by omega) (by omega) c_5).elim
          · refine z_iload 5 dX6_churches_45 rfl ?_
            refine z_iload_n 2 dX6_churches_47 rfl rfl ?_
            refine z_iconst (-1) dX6_churches_48 (by decide) ?_
            refine z_ixor dX6_churches_49 ?_
            refine z_iand dX6_churches_50 ?_
            refine z_itop (y := (smsk (swait m 7 D) k)) rfl ?_
            refine z_if_eq 57 dX6_churches_51 (by decide) (fun c_6 => ?_) (fun c_6 => ?_)
            · refine z_aload_n 0 dX6_churches_57 rfl rfl ?_
              refine y_getR fX6_29 dX6_churches_58 rfl rfl ?_
              refine z_iload 5 dX6_churches_61 rfl ?_
              refine y_Vi [_] _ kX6_287 (c_ranks isPar7 hD hD7) rfl isPar7.1 dX6_churches_63 rfl rfl (Nat.le_of_ble_eq_true rfl) (Nat.le_of_ble_eq_true rfl) ⟨Nat.zero_le _, Nat.zero_le _⟩ ?_
              refine z_aload_n 0 dX6_churches_66 rfl rfl ?_
              refine y_getR fX6_29 dX6_churches_67 rfl rfl ?_
              refine z_iload_n 2 dX6_churches_70 rfl rfl ?_
              refine z_iload 5 dX6_churches_71 rfl ?_
              refine z_iconst (-1) dX6_churches_73 (by decide) ?_
              refine z_ixor dX6_churches_74 ?_
              refine z_iand dX6_churches_75 ?_
              refine y_Vi [_] _ kX6_287 (c_ranks isPar7 hD hD7) rfl isPar7.1 dX6_churches_76 rfl rfl (Nat.le_of_ble_eq_true rfl) (Nat.le_of_ble_eq_true rfl) ⟨Nat.zero_le _, Nat.zero_le _⟩ ?_
              refine z_isub dX6_churches_79 ?_
              refine z_mabs lX6_290 zh_abs zh_mi zh_absc dX6_churches_80 (Nat.le_of_ble_eq_true rfl) (Nat.le_of_ble_eq_true rfl) (Nat.zero_le _) (Nat.zero_le _) ?_
              refine z_itop (y := (sk_gap m D (swait m 7 D) (Int32.ofNat k))) rfl ?_
              refine z_istore (lv' := [(6, .int (sk_gap m D (swait m 7 D) (Int32.ofNat k))), (0, .ref 0), (1, .int w), (2, .int (swait m 7 D)), (3, .int a), (4, .int b), (5, .int (Int32.ofNat k))]) dX6_churches_83 (Nat.le_of_ble_eq_true rfl) rfl ?_
              refine z_iload 0 dX6_churches_85 rfl ?_
              refine z_iload 5 dX6_churches_87 rfl ?_
              refine z_icmp_ge 99 dX6_churches_89 (by decide) (fun c_7 => ?_) (fun c_7 => ?_)
              · obtain ⟨v_8, e_8⟩ : ∃ y : Int32, y = (Int32.ofNat k) + 1 := ⟨_, rfl⟩
                refine z_iinc (lv' := [(5, .int v_8), (6, .int (sk_gap m D (swait m 7 D) (Int32.ofNat k))), (0, .ref 0), (1, .int w), (2, .int (swait m 7 D)), (3, .int a), (4, .int b)]) 6 v_8 dX6_churches_99 rfl (by rw [e_8]; rfl) (Nat.le_of_ble_eq_true rfl) rfl ?_
                refine z_goto 35 dX6_churches_102 (by decide) ?_
                obtain rfl : v_8 = Int32.ofNat (k + 1) := e_8.trans (nat_succ k)
                refine z_sub [2,3,4,5,6,0] rfl ?_
                exact ih35 (k + 1) _ _ (by omega) (hr.trans (congrArg (sfold _ n (k + 1)) (by subst_vars; simp [sk_chi, c_5, c_6, c_7])))
              · refine z_iload 0 dX6_churches_92 rfl ?_
                refine z_istore (lv' := [(4, .int (sk_gap m D (swait m 7 D) (Int32.ofNat k))), (6, .int (sk_gap m D (swait m 7 D) (Int32.ofNat k))), (0, .ref 0), (1, .int w), (2, .int (swait m 7 D)), (3, .int a), (5, .int (Int32.ofNat k))]) dX6_churches_94 (Nat.le_of_ble_eq_true rfl) rfl ?_
                refine z_iload 6 dX6_churches_96 rfl ?_
                refine z_istore_n (lv' := [(3, .int (Int32.ofNat k)), (4, .int (sk_gap m D (swait m 7 D) (Int32.ofNat k))), (6, .int (sk_gap m D (swait m 7 D) (Int32.ofNat k))), (0, .ref 0), (1, .int w), (2, .int (swait m 7 D)), (5, .int (Int32.ofNat k))]) dX6_churches_98 rfl (Nat.le_of_ble_eq_true rfl) rfl ?_
                obtain ⟨v_9, e_9⟩ : ∃ y : Int32, y = (Int32.ofNat k) + 1 := ⟨_, rfl⟩
                refine z_iinc (lv' := [(5, .int v_9), (3, .int (Int32.ofNat k)), (4, .int (sk_gap m D (swait m 7 D) (Int32.ofNat k))), (6, .int (sk_gap m D (swait m 7 D) (Int32.ofNat k))), (0, .ref 0), (1, .int w), (2, .int (swait m 7 D))]) 6 v_9 dX6_churches_99 rfl (by rw [e_9]; rfl) (Nat.le_of_ble_eq_true rfl) rfl ?_
                refine z_goto 35 dX6_churches_102 (by decide) ?_
                obtain rfl : v_9 = Int32.ofNat (k + 1) := e_9.trans (nat_succ k)
                refine z_sub [4,5,6,1,2,0] rfl ?_
                exact ih35 (k + 1) _ _ (by omega) (hr.trans (congrArg (sfold _ n (k + 1)) (by subst_vars; simp [sk_chi, c_5, c_6, c_7])))
            · refine z_goto 99 dX6_churches_54 (by decide) ?_
              obtain ⟨v_10, e_10⟩ : ∃ y : Int32, y = (Int32.ofNat k) + 1 := ⟨_, rfl⟩
              refine z_iinc (lv' := [(5, .int v_10), (0, .ref 0), (1, .int w), (2, .int (swait m 7 D)), (3, .int a), (4, .int b)]) 5 v_10 dX6_churches_99 rfl (by rw [e_10]; rfl) (Nat.le_of_ble_eq_true rfl) rfl ?_
              refine z_goto 35 dX6_churches_102 (by decide) ?_
              obtain rfl : v_10 = Int32.ofNat (k + 1) := e_10.trans (nat_succ k)
              refine z_sub [1,2,3,4,5,0] rfl ?_
              exact ih35 (k + 1) _ _ (by omega) (hr.trans (congrArg (sfold _ n (k + 1)) (by subst_vars; simp [sk_chi, c_5, c_6])))
      refine z_sub [4,5,3,2,1,0] rfl ?_
      exact loop35 127 1 _ _ (by omega) (sk_ch_eq m D)
    · refine z_ldc (-1000000002) dX6_churches_9 nX6_77 ?_
      exact y_iret dX6_churches_11 rfl (by first | (simp [sk_churches, c_1, c_2]; done) | (simp [sk_churches, hab, c_1, c_2])) rfl
set_option maxRecDepth 100000 in
set_option maxHeartbeats 4000000 in
theorem c6_judge {m : zmem} {D Y C L W : Nat} (hI : CI m D Y C L W)  : Ei MX6_judge 6 [.ref 0] m (sk_jud m D C W 0 (swait m 7 D) (ssf m 7 D Y)) (m) := by
  obtain ⟨hD, hD7, hY, hY8, hC, hC4, hL, hL4, hW, hW20⟩ := id hI
  refine Ei.of (by decide) (Nat.le_of_ble_eq_true rfl) ?_
  show Z _ 0 [(0, .ref 0)] _ _ _ _
  refine z_aload_n 0 dX6_judge_0 rfl rfl ?_
  refine y_getR fX6_29 dX6_judge_1 rfl rfl ?_
  refine y_Vi [] _ kX6_123 (c_waiting isPar7 hD hD7) rfl isPar7.1 dX6_judge_4 rfl rfl (Nat.le_of_ble_eq_true rfl) (Nat.le_of_ble_eq_true rfl) ⟨Nat.zero_le _, Nat.zero_le _⟩ ?_
  refine z_itop (y := (swait m 7 D)) rfl ?_
  refine z_istore_n (lv' := [(1, .int (swait m 7 D)), (0, .ref 0)]) dX6_judge_7 rfl (Nat.le_of_ble_eq_true rfl) rfl ?_
  refine z_aload_n 1 dX6_judge_8 rfl rfl ?_
  refine y_getR fX6_29 dX6_judge_9 rfl rfl ?_
  refine y_Vi [] _ kX6_235 (c_sf isPar7 hD hD7 hY hY8) rfl isPar7.1 dX6_judge_12 rfl rfl (Nat.le_of_ble_eq_true rfl) (Nat.le_of_ble_eq_true rfl) ⟨Nat.zero_le _, Nat.zero_le _⟩ ?_
  refine z_itop (y := (ssf m 7 D Y)) rfl ?_
  refine z_istore_n (lv' := [(2, .int (ssf m 7 D Y)), (1, .int (swait m 7 D)), (0, .ref 0)]) dX6_judge_15 rfl (Nat.le_of_ble_eq_true rfl) rfl ?_
  refine z_iconst 0 dX6_judge_16 (by decide) ?_
  refine z_istore_n (lv' := [(3, .int 0), (2, .int (ssf m 7 D Y)), (1, .int (swait m 7 D)), (0, .ref 0)]) dX6_judge_17 rfl (Nat.le_of_ble_eq_true rfl) rfl ?_
  have loop18 : ∀ (n : Nat) (k : Nat) (lf : Int32) (fr : Int32), k + n = W → sk_jud m D C W 0 (swait m 7 D) (ssf m 7 D Y) = sk_jud m D C n k lf fr → Z (zMB (Qi (sk_jud m D C W 0 (swait m 7 D) (ssf m 7 D Y)) (m)) 6 MX6_judge) 18 [(0, .ref 0), (1, .int lf), (2, .int fr), (3, .int (Int32.ofNat k))] [] (hp m) 0 0 := by
    intro n
    induction n with
    | zero =>
      intro k lf fr hk hr
      refine z_iload_n 3 dX6_judge_18 rfl rfl ?_
      refine z_aload_n 0 dX6_judge_19 rfl rfl ?_
      refine y_getR fX6_52 dX6_judge_20 rfl rfl ?_
      refine y_getI fX6_100 dX6_judge_23 rfl rfl ?_
      refine z_icmp_ge 118 dX6_judge_26 (by decide) (fun c_1 => ?_) (fun c_1 => ?_)
      · refine z_iconst (-1) dX6_judge_118 (by decide) ?_
        exact y_iret dX6_judge_119 rfl (by first | exact hr.symm | (rw [hr]; simp [sk_jud, c_1])) rfl
      · exact (dz rfl hW (by omega) (by omega) c_1).elim
    | succ n ih18 =>
      intro k lf fr hk hr
      refine z_iload_n 3 dX6_judge_18 rfl rfl ?_
      refine z_aload_n 0 dX6_judge_19 rfl rfl ?_
      refine y_getR fX6_52 dX6_judge_20 rfl rfl ?_
      refine y_getI fX6_100 dX6_judge_23 rfl rfl ?_
      refine z_icmp_ge 118 dX6_judge_26 (by decide) (fun c_2 => ?_) (fun c_2 => ?_)
      · exact (ds rfl hW (by omega) (by omega) c_2).elim
      · refine z_aload_n 0 dX6_judge_29 rfl rfl ?_
        refine y_getR fX6_52 dX6_judge_30 rfl rfl ?_
        refine y_getR fX6_295 dX6_judge_33 rfl rfl ?_
        refine z_iload_n 3 dX6_judge_36 rfl rfl ?_
        refine y_Si [_, _] _ kX6_142 (c_at (q := 48) (n := 20) rfl (by decide)) dX6_judge_37 rfl rfl (Nat.le_of_ble_eq_true rfl) (Nat.le_of_ble_eq_true rfl) ⟨Nat.zero_le _, Nat.zero_le _⟩ ?_
        refine z_itop (y := (aat 20 (m 48) (Int32.ofNat k))) rfl ?_
        refine z_istore (lv' := [(4, .int (aat 20 (m 48) (Int32.ofNat k))), (0, .ref 0), (1, .int lf), (2, .int fr), (3, .int (Int32.ofNat k))]) dX6_judge_40 (Nat.le_of_ble_eq_true rfl) rfl ?_
        refine z_aload_n 1 dX6_judge_42 rfl rfl ?_
        refine y_getR fX6_52 dX6_judge_43 rfl rfl ?_
        refine y_getR fX6_298 dX6_judge_46 rfl rfl ?_
        refine z_iload_n 4 dX6_judge_49 rfl rfl ?_
        refine y_Si [_, _] _ kX6_142 (c_at (q := 49) (n := 20) rfl (by decide)) dX6_judge_50 rfl rfl (Nat.le_of_ble_eq_true rfl) (Nat.le_of_ble_eq_true rfl) ⟨Nat.zero_le _, Nat.zero_le _⟩ ?_
        refine z_itop (y := (aat 20 (m 49) (Int32.ofNat k))) rfl ?_
        refine z_istore (lv' := [(5, .int (aat 20 (m 49) (Int32.ofNat k))), (4, .int (aat 20 (m 48) (Int32.ofNat k))), (0, .ref 0), (1, .int lf), (2, .int fr), (3, .int (Int32.ofNat k))]) dX6_judge_53 (Nat.le_of_ble_eq_true rfl) rfl ?_
        refine z_iload_n 3 dX6_judge_55 rfl rfl ?_
        refine z_iload 1 dX6_judge_56 rfl ?_
        refine y_Si [_, _] _ kX6_174 c_has dX6_judge_58 rfl rfl (Nat.le_of_ble_eq_true rfl) (Nat.le_of_ble_eq_true rfl) ⟨Nat.zero_le _, Nat.zero_le _⟩ ?_
        refine z_if_eq 90 dX6_judge_61 (by decide) (fun c_3 => ?_) (fun c_3 => ?_)
        · refine z_iload_n 5 dX6_judge_90 rfl rfl ?_
          exact y_iret dX6_judge_91 rfl (by first | exact hr.symm | (rw [hr]; simp [sk_jud, c_2, c_3])) rfl
        · refine z_iload_n 4 dX6_judge_64 rfl rfl ?_
          refine z_iload 0 dX6_judge_65 rfl ?_
          refine y_Si [_, _] _ kX6_174 c_has dX6_judge_67 rfl rfl (Nat.le_of_ble_eq_true rfl) (Nat.le_of_ble_eq_true rfl) ⟨Nat.zero_le _, Nat.zero_le _⟩ ?_
          refine z_if_eq 90 dX6_judge_70 (by decide) (fun c_4 => ?_) (fun c_4 => ?_)
          · refine z_iload_n 5 dX6_judge_90 rfl rfl ?_
            exact y_iret dX6_judge_91 rfl (by first | exact hr.symm | (rw [hr]; simp [sk_jud, c_2, c_3, c_4])) rfl
          · refine z_iload 1 dX6_judge_73 rfl ?_
            refine z_aload_n 2 dX6_judge_75 rfl rfl ?_
            refine y_getR fX6_29 dX6_judge_76 rfl rfl ?_
            refine z_aload_n 2 dX6_judge_79 rfl rfl ?_
            refine y_getR fX6_19 dX6_judge_80 rfl rfl ?_
            refine z_iload_n 3 dX6_judge_83 rfl rfl ?_
            refine y_Vi [_, _] _ kX6_231 (c_first isPar7 isCus3 hC hC4 hD hD7) rfl isPar7.1 dX6_judge_84 rfl rfl (Nat.le_of_ble_eq_true rfl) (Nat.le_of_ble_eq_true rfl) ⟨Nat.zero_le _, Nat.zero_le _⟩ ?_
            refine z_icmp_eq 92 dX6_judge_87 (by decide) (fun c_5 => ?_) (fun c_5 => ?_)
            · refine z_iload_n 3 dX6_judge_92 rfl rfl ?_
              refine z_iload 1 dX6_judge_93 rfl ?_
              refine y_Si [_] _ kX6_199 c_bit dX6_judge_95 rfl rfl (Nat.le_of_ble_eq_true rfl) (Nat.le_of_ble_eq_true rfl) ⟨Nat.zero_le _, Nat.zero_le _⟩ ?_
              refine z_iconst (-1) dX6_judge_98 (by decide) ?_
              refine z_ixor dX6_judge_99 ?_
              refine z_iand dX6_judge_100 ?_
              refine z_topi (fun v_6 e_6 => ?_)
              refine z_istore_n (lv' := [(1, .int v_6), (5, .int (aat 20 (m 49) (Int32.ofNat k))), (4, .int (aat 20 (m 48) (Int32.ofNat k))), (0, .ref 0), (2, .int fr), (3, .int (Int32.ofNat k))]) dX6_judge_101 rfl (Nat.le_of_ble_eq_true rfl) rfl ?_
              refine z_iload_n 4 dX6_judge_102 rfl rfl ?_
              refine z_iload 1 dX6_judge_103 rfl ?_
              refine y_Si [_] _ kX6_199 c_bit dX6_judge_105 rfl rfl (Nat.le_of_ble_eq_true rfl) (Nat.le_of_ble_eq_true rfl) ⟨Nat.zero_le _, Nat.zero_le _⟩ ?_
              refine z_iconst (-1) dX6_judge_108 (by decide) ?_
              refine z_ixor dX6_judge_109 ?_
              refine z_iand dX6_judge_110 ?_
              refine z_topi (fun v_7 e_7 => ?_)
              refine z_istore_n (lv' := [(2, .int v_7), (1, .int v_6), (5, .int (aat 20 (m 49) (Int32.ofNat k))), (4, .int (aat 20 (m 48) (Int32.ofNat k))), (0, .ref 0), (3, .int (Int32.ofNat k))]) dX6_judge_111 rfl (Nat.le_of_ble_eq_true rfl) rfl ?_
              obtain ⟨v_8, e_8⟩ : ∃ y : Int32, y = (Int32.ofNat k) + 1 := ⟨_, rfl⟩
              refine z_iinc (lv' := [(3, .int v_8), (2, .int v_7), (1, .int v_6), (5, .int (aat 20 (m 49) (Int32.ofNat k))), (4, .int (aat 20 (m 48) (Int32.ofNat k))), (0, .ref 0)]) 5 v_8 dX6_judge_112 rfl (by rw [e_8]; rfl) (Nat.le_of_ble_eq_true rfl) rfl ?_
              refine z_goto 18 dX6_judge_115 (by decide) ?_
              obtain rfl : v_8 = Int32.ofNat (k + 1) := e_8.trans (nat_succ k)
              refine z_sub [5,2,1,0] rfl ?_
              exact ih18 (k + 1) _ _ (by omega) (hr.trans (by rw [sk_jud, if_neg c_3, if_neg c_4, if_pos c_5]; subst_vars; rfl))
            · refine z_iload_n 5 dX6_judge_90 rfl rfl ?_
              exact y_iret dX6_judge_91 rfl (by first | exact hr.symm | (rw [hr]; simp [sk_jud, c_2, c_3, c_4, c_5])) rfl
  refine z_sub [3,2,1,0] rfl ?_
  exact loop18 (W) 0 _ _ (by omega) rfl
