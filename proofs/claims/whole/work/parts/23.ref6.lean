/-! the reference: the text and its reader -/
def rappend (v : Int32) (m : zmem) : zmem := mset (mset m 66 (m 57 12).toNatClampNeg v) 57 12 (m 57 12 + 1)
def rbyte (b : Int64) (k : Nat) : Int32 := ((b >>> ((8 * Int32.ofNat k).toInt64 &&& 63)) &&& 255).toInt32
def rk_feedm (m : zmem) (n : Int32) (b : Int64) : zmem := sdown (fun k m => rappend (rbyte b k) m) n.toNatClampNeg m
def rk_feed (m : zmem) (n : Int32) (b : Int64) : Int32 × zmem := if rini n 1 8 = 0 then (-1000000002, m) else if m 57 12 + n ≤ 400 then (rk_feedm m n b 57 12, rk_feedm m n b) else (-1000000004, m)
def rL (m : zmem) : Nat := (m 57 12).toNatClampNeg
def rP (m : zmem) : Nat := (m 57 13).toNatClampNeg
def RT (m : zmem) : Prop := m 57 12 = Int32.ofNat (rL m) ∧ rL m ≤ 400 ∧ m 57 13 = Int32.ofNat (rP m) ∧ rP m ≤ rL m
def rat (m : zmem) (k : Nat) : zmem := mset m 57 13 (Int32.ofNat k)
def rblk (m : zmem) : Nat := sskip (fun k => decide (m 66 k = 32)) (rL m - rP m) (rP m)
def rhr (m : zmem) : Int32 := if Int32.ofNat (rL m) ≤ Int32.ofNat (rblk m) then -1 else m 66 (rblk m)
def rwant (m : zmem) (g num wh : Int32) : zmem := if ¬ g = 0 then m else if ¬ m 57 16 = 0 then m else mset (mset m 57 16 num) 57 17 wh
def rwantr (m : zmem) (g num wh : Int32) : Int32 := if ¬ rwant m g num wh 57 16 = 0 then 0 else 1
def rtw0 (m : zmem) : zmem := mset (rat m (rblk m)) 57 14 (Int32.ofNat (rblk m))
def rwe (m : zmem) : Nat := sskip (fun k => decide (¬ rini (m 66 k) 97 122 = 0)) (rL m - rblk m) (rblk m)
def rtw (m : zmem) : zmem := mset (rat (rtw0 m) (rwe m)) 57 15 (Int32.ofNat (rwe m - rblk m))
def rlet (a b c d e : Int32) (k : Nat) : Int32 := if Int32.ofNat k = 0 then a else if Int32.ofNat k = 1 then b else if Int32.ofNat k = 2 then c else if Int32.ofNat k = 3 then d else e
def risw (u : Nat → Int32) (F : Nat) (a b c d e : Int32) : Nat → Nat → Int32 → Int32
  | 0, _, s => s
  | n + 1, k, s => if s = 0 then s else risw u F a b c d e n (k + 1) (if u (F + k) = rlet a b c d e k then 1 else 0)
def rdig (u : Nat → Int32) : Nat → Nat → Int32 → Nat × Int32
  | 0, k, v => (k, v)
  | n + 1, k, v => if rini (u k) 48 57 = 0 then (k, v) else rdig u n (k + 1) (if v ≤ 99999 then 10 * v + u k - 48 else v)
def rnm0 (m : zmem) : zmem := rwant (rtw0 m) (rini (rhr m) 48 57) 1 (Int32.ofNat (rblk m))
def rnmd (m : zmem) : Nat × Int32 := rdig (m 66) (rL m - rblk m) (rblk m) 0
def rgd (m : zmem) (lo hi : Int32) : Int32 := if 4 ≤ Int32.ofNat (rnmd m).1 - Int32.ofNat (rblk m) then 0 else if rini (rnmd m).2 lo hi = 0 then 0 else 1
def rnm1 (m : zmem) (lo hi : Int32) : zmem := rwant (rat (rnm0 m) (rnmd m).1) (rgd m lo hi) 2 (Int32.ofNat (rblk m))
def rnum (m : zmem) (lo hi : Int32) : Int32 × zmem := if m 57 16 ≤ 0 then (if rwantr (rtw0 m) (rini (rhr m) 48 57) 1 (Int32.ofNat (rblk m)) = 0 then (0, rnm0 m) else ((rnmd m).2, rnm1 m lo hi)) else (0, m)
def rend0 (m : zmem) : zmem := rwant (rat m (rblk m)) (if rhr m = 59 then 1 else 0) 1 (Int32.ofNat (rblk m))
def rend (m : zmem) : zmem := if ¬ m 57 16 = 0 then m else if rwantr (rat m (rblk m)) (if rhr m = 59 then 1 else 0) 1 (Int32.ofNat (rblk m)) = 0 then rend0 m else mset (rend0 m) 57 13 (rend0 m 57 13 + 1)
def rstart (m : zmem) : zmem := mset (mset (mset m 57 13 0) 57 16 0) 57 17 (-1)
theorem mset_id {m : zmem} {q j : Nat} {v : Int32} (h : m q j = v) : mset m q j v = m := by
  funext a b
  by_cases e : a = q ∧ b = j
  · rw [e.1, e.2, mset_eq, h]
  · exact mset_ne v e
theorem rblk_le (m : zmem) (h : RT m) : rP m ≤ rblk m ∧ rblk m ≤ rL m := by
  have := sskip_le (fun k => decide (m 66 k = 32)) (rL m - rP m) (rP m)
  have := h.2.2.2
  unfold rblk
  omega
theorem rwe_le (m : zmem) (h : RT m) : rblk m ≤ rwe m ∧ rwe m ≤ rL m := by
  have := sskip_le (fun k => decide (¬ rini (m 66 k) 97 122 = 0)) (rL m - rblk m) (rblk m)
  have := rblk_le m h
  unfold rwe
  omega
theorem rwantr01 (m : zmem) (g num wh : Int32) : rwantr m g num wh = 0 ∨ rwantr m g num wh = 1 := by
  unfold rwantr
  split
  · exact Or.inl rfl
  · exact Or.inr rfl
theorem nat_sub {a b : Nat} (h : b ≤ a) : Int32.ofNat a - Int32.ofNat b = Int32.ofNat (a - b) := by
  have e : Int32.ofNat a = Int32.ofNat (a - b) + Int32.ofNat b := by rw [← Int32.ofNat_add]; congr 1; omega
  rw [e]
  exact Int32.add_sub_cancel _ _
theorem risw01 {u : Nat → Int32} {F : Nat} {a b c d e : Int32} : ∀ n k s, (s = 0 ∨ s = 1) → risw u F a b c d e n k s = 0 ∨ risw u F a b c d e n k s = 1 := by
  intro n
  induction n with
  | zero => intro k s h; exact h
  | succ n ih =>
    intro k s h
    unfold risw
    split
    · exact h
    · refine ih (k + 1) _ ?_
      split
      · exact Or.inr rfl
      · exact Or.inl rfl
set_option maxRecDepth 100000 in
set_option maxHeartbeats 4000000 in
theorem c7_feed {m : zmem} {L : Nat} {n : Int32} {b : Int64} (hL : m 57 12 = Int32.ofNat L) (hL4 : L ≤ 400) : Ei MX7_feed 1 [.ref 57, .int n, .long b] m ((rk_feed m n b).1) ((rk_feed m n b).2) := by
  refine Ei.of (by decide) (Nat.le_of_ble_eq_true rfl) ?_
  show Z _ 0 [(0, .ref 57), (1, .int n), (2, .long b)] _ _ _ _
  refine z_iload_n 1 dX7_feed_0 rfl rfl ?_
  refine z_i2l dX7_feed_1 ?_
  refine z_lconst 1 dX7_feed_2 (by decide) ?_
  refine z_ldc2 8 dX7_feed_3 nX7_75 ?_
  refine y_Si [_, _, _] _ kX7_77 (c7_ini (lo := 1) (hi := 8)) dX7_feed_6 rfl rfl (Nat.le_of_ble_eq_true rfl) (Nat.le_of_ble_eq_true rfl) ⟨Nat.zero_le _, Nat.zero_le _⟩ ?_
  refine z_if_ne 15 dX7_feed_9 (by decide) (fun c_1 => ?_) (fun c_1 => ?_)
  · refine z_aload_n 0 dX7_feed_15 rfl rfl ?_
    refine y_getI fX7_82 dX7_feed_16 rfl rfl ?_
    refine z_iload_n 1 dX7_feed_19 rfl rfl ?_
    refine z_iadd dX7_feed_20 ?_
    refine z_sipush 400 dX7_feed_21 (by decide) ?_
    refine z_icmp_le 30 dX7_feed_24 (by decide) (fun c_2 => ?_) (fun c_2 => ?_)
    · refine z_iload_n 1 dX7_feed_30 rfl rfl ?_
      refine z_iconst 1 dX7_feed_31 (by decide) ?_
      refine z_isub dX7_feed_32 ?_
      refine z_itop (y := (Int32.ofNat n.toNatClampNeg - 1)) (congrArg (· - 1) (vp_nn (rini_vp (n := 9) (lo := 1) (hi := 8) (by decide) (by decide) c_1))) ?_
      refine z_istore (lv' := [(4, .int (Int32.ofNat n.toNatClampNeg - 1)), (0, .ref 57), (1, .int n), (2, .long b)]) dX7_feed_33 (Nat.le_of_ble_eq_true rfl) rfl ?_
      have loop35 : ∀ (q : Nat) (mm : zmem) (l : Nat), q ≤ 8 → mm 57 12 = Int32.ofNat l → l + q ≤ 400 → rk_feedm m n b = sdown (fun k m => rappend (rbyte b k) m) q mm → Z (zMB (Qi ((rk_feed m n b).1) ((rk_feed m n b).2)) 1 MX7_feed) 35 [(0, .ref 57), (1, .int n), (2, .long b), (4, .int (Int32.ofNat q - 1))] [] (hp mm) 0 0 := by
        intro q
        induction q with
        | zero =>
          intro mm l hq8 hl hlq hr
          refine z_iload 3 dX7_feed_35 rfl ?_
          refine z_if_lt 77 dX7_feed_37 (by decide) (fun c_3 => ?_) (fun c_3 => ?_)
          · refine z_aload_n 0 dX7_feed_77 rfl rfl ?_
            refine y_getI fX7_82 dX7_feed_78 rfl rfl ?_
            exact y_iret dX7_feed_81 rfl (by first | (simp [rk_feed, c_1, c_2, c_3]; done) | (rw [rk_feed, if_neg c_1, if_pos c_2, hr]; rfl)) (by first | (simp [rk_feed, c_1, c_2, c_3]; done) | (rw [rk_feed, if_neg c_1, if_pos c_2, hr]; rfl))
          · exact (c_3 (by decide)).elim
        | succ q ih35 =>
          intro mm l hq8 hl hlq hr
          rw [nat_pred]
          refine z_iload 3 dX7_feed_35 rfl ?_
          refine z_if_lt 77 dX7_feed_37 (by decide) (fun c_4 => ?_) (fun c_4 => ?_)
          · exact (lt0 (by omega) c_4).elim
          · refine z_aload_n 0 dX7_feed_40 rfl rfl ?_
            refine y_getR fX7_42 dX7_feed_41 rfl rfl ?_
            refine z_aload_n 0 dX7_feed_44 rfl rfl ?_
            refine y_getI fX7_82 dX7_feed_45 rfl rfl ?_
            refine z_itop (y := (Int32.ofNat l)) hl ?_
            refine z_lload_n 2 dX7_feed_48 rfl rfl ?_
            refine z_bipush 8 dX7_feed_49 (by decide) ?_
            refine z_iload 3 dX7_feed_51 rfl ?_
            refine z_imul dX7_feed_53 ?_
            refine z_lshr dX7_feed_54 ?_
            refine z_ldc2 255 dX7_feed_55 nX7_86 ?_
            refine z_land dX7_feed_58 ?_
            refine z_l2i dX7_feed_59 ?_
            refine y_ast (N := l) dX7_feed_60 rfl rfl (by omega) ?_
            refine z_aload_n 0 dX7_feed_61 rfl rfl ?_
            refine z_dup dX7_feed_62 rfl ?_
            refine y_getI fX7_82 dX7_feed_63 rfl rfl ?_
            refine z_iconst 1 dX7_feed_66 (by decide) ?_
            refine z_iadd dX7_feed_67 ?_
            refine y_putI fX7_82 dX7_feed_68 rfl rfl ?_
            obtain ⟨v_5, e_5⟩ : ∃ y : Int32, y = (Int32.ofNat q) + (-1) := ⟨_, rfl⟩
            refine z_iinc (lv' := [(4, .int v_5), (0, .ref 57), (1, .int n), (2, .long b)]) 3 v_5 dX7_feed_71 rfl (by rw [e_5]; rfl) (Nat.le_of_ble_eq_true rfl) rfl ?_
            refine z_goto 35 dX7_feed_74 (by decide) ?_
            obtain rfl : v_5 = (Int32.ofNat q - 1) := e_5.trans (add_m1 _)
            refine z_sub [1,2,3,0] rfl ?_
            exact ih35 _ (l + 1) (by omega) (by rw [mset_eq, mset_cell (a := 57) (k := 66) _ (by decide), hl, nat_succ]) (by omega) (hr.trans (by simp only [sdown, rappend, rbyte, hl, natc (show l < 2147483648 by omega), mset_cell (a := 57) (k := 66) _ (by decide), mset_eq]))
      refine z_sub [1,2,3,0] rfl ?_
      exact loop35 n.toNatClampNeg _ L (by have := vl (rini_vp (n := 9) (lo := 1) (hi := 8) (by decide) (by decide) c_1); omega) hL (by have h9 := vl (rini_vp (n := 9) (lo := 1) (hi := 8) (by decide) (by decide) c_1); have hn := vp_nn (rini_vp (n := 9) (lo := 1) (hi := 8) (by decide) (by decide) c_1); have h := c_2; rw [hL, hn, ← Int32.ofNat_add] at h; exact (nat_le (b := 400) (by omega) (by decide)).mp h) rfl
    · refine z_ldc (-1000000004) dX7_feed_27 nX7_85 ?_
      exact y_iret dX7_feed_29 rfl (by first | (simp [rk_feed, c_1, c_2]; done) | (rw [rk_feed, if_neg c_1, if_pos c_2, hr]; rfl)) (by first | (simp [rk_feed, c_1, c_2]; done) | (rw [rk_feed, if_neg c_1, if_pos c_2, hr]; rfl))
  · refine z_ldc (-1000000002) dX7_feed_12 nX7_81 ?_
    exact y_iret dX7_feed_14 rfl (by first | (simp [rk_feed, c_1]; done) | (rw [rk_feed, if_neg c_1, if_pos c_2, hr]; rfl)) (by first | (simp [rk_feed, c_1]; done) | (rw [rk_feed, if_neg c_1, if_pos c_2, hr]; rfl))
set_option maxRecDepth 100000 in
set_option maxHeartbeats 4000000 in
theorem c7_here {m : zmem} (hT : RT m) : Ei MX7_here 0 [.ref 57] m (rhr m) (rat m (rblk m)) := by
  obtain ⟨hL, hL4, hP, hPL⟩ := id hT
  refine Ei.of (by decide) (Nat.le_of_ble_eq_true rfl) ?_
  show Z _ 0 [(0, .ref 57)] _ _ _ _
  refine y_mem (m1 := rat m (rP m)) (mset_id hP).symm ?_
  have loop0 : ∀ (n : Nat) (k : Nat), k + n = rL m → rblk m = sskip (fun k => decide (m 66 k = 32)) n k → Z (zMB (Qi (rhr m) (rat m (rblk m))) 0 MX7_here) 0 [(0, .ref 57)] [] (hp (rat m k)) 0 0 := by
    intro n
    induction n with
    | zero =>
      intro k hk hr
      refine z_aload_n 0 dX7_here_0 rfl rfl ?_
      refine y_getI fX7_88 dX7_here_1 rfl rfl ?_
      refine z_itop (y := (Int32.ofNat k)) (mset_eq _ _ _ _) ?_
      refine z_aload_n 0 dX7_here_4 rfl rfl ?_
      refine y_getI fX7_82 dX7_here_5 rfl rfl ?_
      refine z_itop (y := (Int32.ofNat (rL m))) (by first | exact (mset_ne _ (by decide)).trans hL) ?_
      refine z_icmp_ge 38 dX7_here_8 (by decide) (fun c_1 => ?_) (fun c_1 => ?_)
      · have hfound : rblk m = k := by rw [hr]; simp_all [sskip, mset_cell]
        refine z_aload_n 0 dX7_here_38 rfl rfl ?_
        refine y_getI fX7_88 dX7_here_39 rfl rfl ?_
        refine z_itop (y := (Int32.ofNat k)) (mset_eq _ _ _ _) ?_
        refine z_aload_n 0 dX7_here_42 rfl rfl ?_
        refine y_getI fX7_82 dX7_here_43 rfl rfl ?_
        refine z_itop (y := (Int32.ofNat (rL m))) ((mset_ne _ (by decide)).trans hL) ?_
        refine z_icmp_ge 61 dX7_here_46 (by decide) (fun c_2 => ?_) (fun c_2 => ?_)
        · refine z_iconst (-1) dX7_here_61 (by decide) ?_
          exact y_iret dX7_here_62 rfl (by rw [rhr, show rblk m = k from hfound]; simp [mset_cell, c_1, c_2]) (by rw [show rblk m = k from hfound])
        · exact (dz rfl rfl (by omega) (by omega) c_2).elim
      · exact (dz rfl rfl (by omega) (by omega) c_1).elim
    | succ n ih0 =>
      intro k hk hr
      refine z_aload_n 0 dX7_here_0 rfl rfl ?_
      refine y_getI fX7_88 dX7_here_1 rfl rfl ?_
      refine z_itop (y := (Int32.ofNat k)) (mset_eq _ _ _ _) ?_
      refine z_aload_n 0 dX7_here_4 rfl rfl ?_
      refine y_getI fX7_82 dX7_here_5 rfl rfl ?_
      refine z_itop (y := (Int32.ofNat (rL m))) (by first | exact (mset_ne _ (by decide)).trans hL) ?_
      refine z_icmp_ge 38 dX7_here_8 (by decide) (fun c_3 => ?_) (fun c_3 => ?_)
      · exact (ds rfl rfl (by omega) (by omega) c_3).elim
      · refine z_aload_n 0 dX7_here_11 rfl rfl ?_
        refine y_getR fX7_42 dX7_here_12 rfl rfl ?_
        refine z_aload_n 0 dX7_here_15 rfl rfl ?_
        refine y_getI fX7_88 dX7_here_16 rfl rfl ?_
        refine z_itop (y := (Int32.ofNat k)) (mset_eq _ _ _ _) ?_
        refine y_ald (N := k) dX7_here_19 rfl rfl (by omega) ?_
        refine z_itop (y := (m 66 k)) (congrFun (mset_cell _ (by decide)) _) ?_
        refine z_bipush 32 dX7_here_20 (by decide) ?_
        refine z_icmp_ne 38 dX7_here_22 (by decide) (fun c_4 => ?_) (fun c_4 => ?_)
        · have hfound : rblk m = k := by rw [hr]; simp_all [sskip, mset_cell]
          refine z_aload_n 0 dX7_here_38 rfl rfl ?_
          refine y_getI fX7_88 dX7_here_39 rfl rfl ?_
          refine z_itop (y := (Int32.ofNat k)) (mset_eq _ _ _ _) ?_
          refine z_aload_n 0 dX7_here_42 rfl rfl ?_
          refine y_getI fX7_82 dX7_here_43 rfl rfl ?_
          refine z_itop (y := (Int32.ofNat (rL m))) ((mset_ne _ (by decide)).trans hL) ?_
          refine z_icmp_ge 61 dX7_here_46 (by decide) (fun c_5 => ?_) (fun c_5 => ?_)
          · exact (ds rfl rfl (by omega) (by omega) c_5).elim
          · refine z_aload_n 0 dX7_here_49 rfl rfl ?_
            refine y_getR fX7_42 dX7_here_50 rfl rfl ?_
            refine z_aload_n 0 dX7_here_53 rfl rfl ?_
            refine y_getI fX7_88 dX7_here_54 rfl rfl ?_
            refine z_itop (y := (Int32.ofNat k)) (mset_eq _ _ _ _) ?_
            refine y_ald (N := k) dX7_here_57 rfl rfl (by omega) ?_
            refine z_itop (y := (m 66 k)) (congrFun (mset_cell _ (by decide)) _) ?_
            refine z_goto 62 dX7_here_58 (by decide) ?_
            exact y_iret dX7_here_62 rfl (by rw [rhr, show rblk m = k from hfound]; simp [mset_cell, c_3, c_4, c_5]) (by rw [show rblk m = k from hfound])
        · refine z_aload_n 0 dX7_here_25 rfl rfl ?_
          refine z_dup dX7_here_26 rfl ?_
          refine y_getI fX7_88 dX7_here_27 rfl rfl ?_
          refine z_iconst 1 dX7_here_30 (by decide) ?_
          refine z_iadd dX7_here_31 ?_
          refine y_putI fX7_88 dX7_here_32 rfl rfl ?_
          refine z_goto 0 dX7_here_35 (by decide) ?_
          refine y_mem (m1 := rat m (k + 1)) (by simp only [rat, mset_eq, mset_mset, nat_succ]) ?_
          refine z_sub [0] rfl ?_
          exact ih0 (k + 1) (by omega) (hr.trans (by simp_all [sskip, rat, mset_cell]))
  refine z_sub [0] rfl ?_
  exact loop0 (rL m - rP m) (rP m) (by omega) rfl
set_option maxRecDepth 100000 in
set_option maxHeartbeats 4000000 in
theorem c7_want {m : zmem} {g num wh : Int32} : Ei MX7_want 0 [.ref 57, .int g, .int num, .int wh] m (rwantr m g num wh) (rwant m g num wh) := by
  refine Ei.of (by decide) (Nat.le_of_ble_eq_true rfl) ?_
  show Z _ 0 [(0, .ref 57), (1, .int g), (2, .int num), (3, .int wh)] _ _ _ _
  refine z_iload_n 1 dX7_want_0 rfl rfl ?_
  refine z_if_ne 21 dX7_want_1 (by decide) (fun c_1 => ?_) (fun c_1 => ?_)
  · refine z_aload_n 0 dX7_want_21 rfl rfl ?_
    refine y_getI fX7_91 dX7_want_22 rfl rfl ?_
    refine z_if_ne 32 dX7_want_25 (by decide) (fun c_2 => ?_) (fun c_2 => ?_)
    · refine z_iconst 0 dX7_want_32 (by decide) ?_
      exact y_zret dX7_want_33 rfl (by simp) (by simp_all [rwantr, rwant]) (by simp_all [rwant])
    · refine z_iconst 1 dX7_want_28 (by decide) ?_
      refine z_goto 33 dX7_want_29 (by decide) ?_
      exact y_zret dX7_want_33 rfl (by simp) (by simp_all [rwantr, rwant]) (by simp_all [rwant])
  · refine z_aload_n 0 dX7_want_4 rfl rfl ?_
    refine y_getI fX7_91 dX7_want_5 rfl rfl ?_
    refine z_if_ne 21 dX7_want_8 (by decide) (fun c_3 => ?_) (fun c_3 => ?_)
    · refine z_aload_n 0 dX7_want_21 rfl rfl ?_
      refine y_getI fX7_91 dX7_want_22 rfl rfl ?_
      refine z_if_ne 32 dX7_want_25 (by decide) (fun c_4 => ?_) (fun c_4 => ?_)
      · refine z_iconst 0 dX7_want_32 (by decide) ?_
        exact y_zret dX7_want_33 rfl (by simp) (by simp_all [rwantr, rwant]) (by simp_all [rwant])
      · refine z_iconst 1 dX7_want_28 (by decide) ?_
        refine z_goto 33 dX7_want_29 (by decide) ?_
        exact y_zret dX7_want_33 rfl (by simp) (by simp_all [rwantr, rwant]) (by simp_all [rwant])
    · refine z_aload_n 0 dX7_want_11 rfl rfl ?_
      refine z_iload_n 2 dX7_want_12 rfl rfl ?_
      refine y_putI fX7_91 dX7_want_13 rfl rfl ?_
      refine z_aload_n 0 dX7_want_16 rfl rfl ?_
      refine z_iload_n 3 dX7_want_17 rfl rfl ?_
      refine y_putI fX7_45 dX7_want_18 rfl rfl ?_
      refine z_aload_n 0 dX7_want_21 rfl rfl ?_
      refine y_getI fX7_91 dX7_want_22 rfl rfl ?_
      refine z_if_ne 32 dX7_want_25 (by decide) (fun c_5 => ?_) (fun c_5 => ?_)
      · refine z_iconst 0 dX7_want_32 (by decide) ?_
        exact y_zret dX7_want_33 rfl (by simp) (by simp_all [rwantr, rwant]) (by simp_all [rwant])
      · refine z_iconst 1 dX7_want_28 (by decide) ?_
        refine z_goto 33 dX7_want_29 (by decide) ?_
        exact y_zret dX7_want_33 rfl (by simp) (by simp_all [rwantr, rwant]) (by simp_all [rwant])
set_option maxRecDepth 100000 in
set_option maxHeartbeats 4000000 in
theorem c7_word {m : zmem} (hT : RT m) : E0 MX7_takeWord 2 [.ref 57] m (rtw m) := by
  obtain ⟨hL, hL4, hP, hPL⟩ := id hT
  have hB := rblk_le m hT
  have hE := rwe_le m hT
  refine E0.of (by decide) (Nat.le_of_ble_eq_true rfl) ?_
  show Z _ 0 [(0, .ref 57)] _ _ _ _
  refine z_aload_n 0 dX7_takeWord_0 rfl rfl ?_
  refine y_Vi [] _ kX7_94 (c7_here hT) rfl rfl dX7_takeWord_1 rfl rfl (Nat.le_of_ble_eq_true rfl) (Nat.le_of_ble_eq_true rfl) ⟨Nat.zero_le _, Nat.zero_le _⟩ ?_
  refine z_topi (fun v_1 e_1 => ?_)
  refine z_istore_n (lv' := [(1, .int v_1), (0, .ref 57)]) dX7_takeWord_4 rfl (Nat.le_of_ble_eq_true rfl) rfl ?_
  refine z_aload_n 1 dX7_takeWord_5 rfl rfl ?_
  refine z_aload_n 1 dX7_takeWord_6 rfl rfl ?_
  refine y_getI fX7_88 dX7_takeWord_7 rfl rfl ?_
  refine z_itop (y := (Int32.ofNat (rblk m))) (mset_eq _ _ _ _) ?_
  refine y_putI fX7_98 dX7_takeWord_10 rfl rfl ?_
  refine y_mem (m1 := rat (rtw0 m) (rblk m)) (mset_id (by simp [rtw0, rat, mset])).symm ?_
  have loop13 : ∀ (n : Nat) (k : Nat), k + n = rL m → rat (rtw0 m) k 57 12 = Int32.ofNat (rL m) → rwe m = sskip (fun k => decide (¬ rini (m 66 k) 97 122 = 0)) n k → Z (zMB (Q0 (rtw m)) 2 MX7_takeWord) 13 [(0, .ref 57)] [] (hp (rat (rtw0 m) k)) 0 0 := by
    intro n
    induction n with
    | zero =>
      intro k hk hLL hr
      refine z_aload_n 0 dX7_takeWord_13 rfl rfl ?_
      refine y_getI fX7_88 dX7_takeWord_14 rfl rfl ?_
      refine z_itop (y := (Int32.ofNat k)) (mset_eq _ _ _ _) ?_
      refine z_aload_n 0 dX7_takeWord_17 rfl rfl ?_
      refine y_getI fX7_82 dX7_takeWord_18 rfl rfl ?_
      refine z_itop (y := (Int32.ofNat (rL m))) hLL ?_
      refine z_icmp_ge 59 dX7_takeWord_21 (by decide) (fun c_2 => ?_) (fun c_2 => ?_)
      · have hfound : rwe m = k := by rw [hr]; simp_all [sskip, rat, rtw0, mset_cell]
        have hB3 : rblk m ≤ k := by omega
        refine z_aload_n 0 dX7_takeWord_59 rfl rfl ?_
        refine z_aload_n 0 dX7_takeWord_60 rfl rfl ?_
        refine y_getI fX7_88 dX7_takeWord_61 rfl rfl ?_
        refine z_itop (y := (Int32.ofNat k)) (mset_eq _ _ _ _) ?_
        refine z_aload_n 0 dX7_takeWord_64 rfl rfl ?_
        refine y_getI fX7_98 dX7_takeWord_65 rfl rfl ?_
        refine z_itop (y := (Int32.ofNat (rblk m))) ((mset_ne _ (by decide)).trans (mset_eq _ _ _ _)) ?_
        refine z_isub dX7_takeWord_68 ?_
        refine y_putI fX7_105 dX7_takeWord_69 rfl rfl ?_
        exact y_vret dX7_takeWord_72 rfl (by simp only [rtw, hfound, ← nat_sub hB3])
      · exact (dz rfl rfl (by omega) (by omega) c_2).elim
    | succ n ih13 =>
      intro k hk hLL hr
      refine z_aload_n 0 dX7_takeWord_13 rfl rfl ?_
      refine y_getI fX7_88 dX7_takeWord_14 rfl rfl ?_
      refine z_itop (y := (Int32.ofNat k)) (mset_eq _ _ _ _) ?_
      refine z_aload_n 0 dX7_takeWord_17 rfl rfl ?_
      refine y_getI fX7_82 dX7_takeWord_18 rfl rfl ?_
      refine z_itop (y := (Int32.ofNat (rL m))) hLL ?_
      refine z_icmp_ge 59 dX7_takeWord_21 (by decide) (fun c_3 => ?_) (fun c_3 => ?_)
      · exact (ds rfl rfl (by omega) (by omega) c_3).elim
      · refine z_aload_n 0 dX7_takeWord_24 rfl rfl ?_
        refine y_getR fX7_42 dX7_takeWord_25 rfl rfl ?_
        refine z_aload_n 0 dX7_takeWord_28 rfl rfl ?_
        refine y_getI fX7_88 dX7_takeWord_29 rfl rfl ?_
        refine z_itop (y := (Int32.ofNat k)) (mset_eq _ _ _ _) ?_
        refine y_ald (N := k) dX7_takeWord_32 rfl rfl (by omega) ?_
        refine z_itop (y := (m 66 k)) (by simp only [rat, rtw0, mset_cell (a := 66) (k := 57) _ (by decide)]) ?_
        refine z_i2l dX7_takeWord_33 ?_
        refine z_ldc2 97 dX7_takeWord_34 nX7_101 ?_
        refine z_ldc2 122 dX7_takeWord_37 nX7_103 ?_
        refine y_Si [_, _, _] _ kX7_77 (c7_ini (lo := 97) (hi := 122)) dX7_takeWord_40 rfl rfl (Nat.le_of_ble_eq_true rfl) (Nat.le_of_ble_eq_true rfl) ⟨Nat.zero_le _, Nat.zero_le _⟩ ?_
        refine z_if_eq 59 dX7_takeWord_43 (by decide) (fun c_4 => ?_) (fun c_4 => ?_)
        · have hfound : rwe m = k := by rw [hr]; simp_all [sskip, rat, rtw0, mset_cell]
          have hB3 : rblk m ≤ k := by omega
          refine z_aload_n 0 dX7_takeWord_59 rfl rfl ?_
          refine z_aload_n 0 dX7_takeWord_60 rfl rfl ?_
          refine y_getI fX7_88 dX7_takeWord_61 rfl rfl ?_
          refine z_itop (y := (Int32.ofNat k)) (mset_eq _ _ _ _) ?_
          refine z_aload_n 0 dX7_takeWord_64 rfl rfl ?_
          refine y_getI fX7_98 dX7_takeWord_65 rfl rfl ?_
          refine z_itop (y := (Int32.ofNat (rblk m))) ((mset_ne _ (by decide)).trans (mset_eq _ _ _ _)) ?_
          refine z_isub dX7_takeWord_68 ?_
          refine y_putI fX7_105 dX7_takeWord_69 rfl rfl ?_
          exact y_vret dX7_takeWord_72 rfl (by simp only [rtw, hfound, ← nat_sub hB3])
        · refine z_aload_n 0 dX7_takeWord_46 rfl rfl ?_
          refine z_dup dX7_takeWord_47 rfl ?_
          refine y_getI fX7_88 dX7_takeWord_48 rfl rfl ?_
          refine z_iconst 1 dX7_takeWord_51 (by decide) ?_
          refine z_iadd dX7_takeWord_52 ?_
          refine y_putI fX7_88 dX7_takeWord_53 rfl rfl ?_
          refine z_goto 13 dX7_takeWord_56 (by decide) ?_
          refine y_mem (m1 := rat (rtw0 m) (k + 1)) (by simp only [rat, mset_eq, mset_mset, nat_succ]) ?_
          refine z_sub [0] rfl ?_
          exact ih13 (k + 1) (by omega) (by rw [← hLL]; simp [rat, mset]) (hr.trans (by simp_all [sskip, rat, rtw0, mset_cell]))
  refine z_sub [1] rfl ?_
  exact loop13 (rL m - rblk m) (rblk m) (by omega) (by rw [← hL]; simp [rat, rtw0, mset]) rfl
