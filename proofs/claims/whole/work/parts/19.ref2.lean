/-! the reference: days, nights, layings one by one -/
/-- nothing but the big row is another -/
def W58 (m m' : zmem) : Prop := ∀ q, q ≠ 58 → m' q = m q
theorem W58.rf (m : zmem) : W58 m m := fun _ _ => rfl
theorem W58.tr {a b c : zmem} (h : W58 a b) (g : W58 b c) : W58 a c := fun q hq => (g q hq).trans (h q hq)
theorem W58.ms {m : zmem} {j : Nat} {v : Int32} : W58 m (mset m 58 j v) := fun _ hq => mset_cell v hq
theorem W58.wp {m : zmem} {X o : Nat} {d v : Int32} : W58 m (wp m X o d v) := W58.ms
theorem W58.fold {f : Nat → zmem → zmem} (h : ∀ k m, W58 m (f k m)) : ∀ n k m, W58 m (sfold f n k m) := by
  intro n
  induction n with
  | zero => intro k m; exact W58.rf m
  | succ n ih => intro k m; exact (h k m).tr (ih (k + 1) (f k m))
theorem RI.w {m m' : zmem} {D Y C L W : Nat} (h : RI m D Y C L W) (w : W58 m m') : RI m' D Y C L W := by
  obtain ⟨hD, hD7, hY, hY8, hC, hC8, hL, hL4, hW, hW20⟩ := h
  refine ⟨?_, hD7, ?_, hY8, ?_, hC8, ?_, hL4, ?_, hW20⟩ <;> rw [w _ (by decide)] <;> assumption
theorem rini_vp {v lo hi : Int32} {n : Nat} (h0 : (0 : Int) ≤ lo.toInt) (h1 : hi.toInt < n) (h : ¬ rini v lo hi = 0) : vp_in v n := by
  have a : ¬ v < lo := fun q => h (by simp [rini, q])
  have b : ¬ hi < v := fun q => h (by simp [rini, q])
  rw [Int32.lt_iff_toInt_lt] at a b
  intro q
  have e : v.toNatClampNeg = v.toInt.toNat := rfl
  rw [Int32.lt_iff_toInt_lt, show (0 : Int32).toInt = 0 from rfl] at q
  omega
theorem vN' {k b : Nat} (h : k < b) (hb : b < 2147483648) : vp_in (Int32.ofNat k) b := by
  intro q
  rw [natc (by omega), Int32.lt_iff_toInt_lt, nat_toInt (by omega), show (0 : Int32).toInt = 0 from rfl] at q
  omega
theorem sfind_vp {c : Nat → Bool} {b : Nat} (hb : b < 2147483648) : ∀ n k, k + n ≤ b → ¬ sfind c n k < 0 → vp_in (sfind c n k) b := by
  intro n
  induction n with
  | zero => intro k _ h; exact (h (show (-1 : Int32) < 0 by decide)).elim
  | succ n ih =>
    intro k hk h
    unfold sfind at h ⊢
    split
    · exact vN' (by omega) hb
    · rename_i hc
      rw [if_neg hc] at h
      exact ih (k + 1) (by omega) h
def rrate (m : zmem) (h i : Int32) : Int32 := if h * m 57 2 - m 57 3 * i ≤ 0 then 0 else h * m 57 2 - m 57 3 * i
def rcut (x : Int32) : Int32 := if x ≤ 99 then x else 99
def rps1 (h : Int32) (D k : Nat) (m : zmem) : zmem := if h ≤ 0 then (if 0 ≤ rwho m 0 D (Int32.ofNat k) then m else wp m 0 0 (Int32.ofNat k) (rcut (wt m 0 0 (Int32.ofNat k) - h))) else wp m 0 0 (Int32.ofNat k) (if wt m 0 0 (Int32.ofNat k) ≤ rrate m h (Int32.ofNat k) then 0 else wt m 0 0 (Int32.ofNat k) - rrate m h (Int32.ofNat k))
def rwd (m : zmem) (k : Nat) : Int32 := if rlf m 0 (Int32.ofNat k) = 0 then 0 else if 9999 ≤ wt m 0 16 (Int32.ofNat k) then 0 else 1
def rps2 (k : Nat) (m : zmem) : zmem := wp m 0 16 (Int32.ofNat k) (wt m 0 16 (Int32.ofNat k) + rwd m k)
def rpassA (m : zmem) (D Y : Nat) (h : Int32) : zmem := sfold (rps1 h D) Y 0 m
def rpass (m : zmem) (D Y : Nat) (h : Int32) : zmem := sfold rps2 D 0 (rpassA m D Y h)
def rsoft (m : zmem) (Y : Nat) : Int32 := sfold (fun k s => s ||| ((if ¬ wt m 0 0 (Int32.ofNat k) = 0 then 0 else 1) <<< (Int32.ofNat k &&& 31))) Y 0 0
def rch0 (c : Int32) : Int64 := c.toInt64 * 1103515245 + 12345
def rch (c : Int32) : Int32 := (rch0 c - rch0 c / 2147483648 * 2147483648).toInt32
def rdm (m : zmem) : zmem := mset m 58 73 (rch (m 58 73))
def rdv (m : zmem) (n : Int32) : Int32 := srem (rch (m 58 73) / 65536) n
def rgn (r : Int32) (k : Nat) (m : zmem) : zmem := if rlf m 0 (Int32.ofNat k) = 0 then m else if r ≤ rdv m 10 then rdm m else if wt (rdm m) 0 32 (Int32.ofNat k) ≤ 0 then rdm m else wp (rdm m) 0 32 (Int32.ofNat k) (wt (rdm m) 0 32 (Int32.ofNat k) - 1)
def rgnaw (m : zmem) (D : Nat) (r : Int32) : zmem := sfold (rgn r) D 0 m
def rnights (m : zmem) (D : Nat) (n r : Int32) : zmem := sfold (fun _ m => rgnaw m D r) n.toNatClampNeg 0 m
def rblf (m : zmem) (k : Nat) (s : Int32) : Int32 := s ||| ((if rlf m 0 (Int32.ofNat k) = 0 then 0 else if ¬ wt m 0 32 (Int32.ofNat k) = 0 then 0 else 1) <<< (Int32.ofNat k &&& 31))
def rbl (m : zmem) (D : Nat) : Int32 := sfold (rblf m) D 0 0
def rlay2 (m : zmem) (X : Nat) (d i : Int32) : zmem := wp (wp m X 0 i 0) X 40 d i
def rlaym (m : zmem) (X : Nat) (d i : Int32) : zmem := wp (rlay2 m X d i) X 72 0 (wt (rlay2 m X d i) X 72 0 + (wt m X 0 i + 4))
def rleast (m : zmem) (D Y : Nat) : Int32 := sfind (fun k => decide (wt m 0 0 (Int32.ofNat k) = 0 ∧ ¬ 0 ≤ rwho m 0 D (Int32.ofNat k))) Y 0
def rspd (D Y C : Nat) (_ : Nat) (m : zmem) : zmem := if rorder m 0 C D 0 < 0 then m else if 0 ≤ rleast m D Y then rlaym m 0 (rorder m 0 C D 0) (rleast m D Y) else m
def rspr1 (m : zmem) (D Y : Nat) : zmem := rgnaw (rpass (rdm m) D Y (rdv m 12 - 3)) D 2
def rspr (D Y C : Nat) (k : Int32) (_ : Nat) (m : zmem) : zmem := sfold (rspd D Y C) k.toNatClampNeg 0 (rspr1 m D Y)
def rsprm (m : zmem) (D Y C : Nat) (n k : Int32) : zmem := sfold (rspr D Y C k) n.toNatClampNeg 0 m
theorem W58.dm (m : zmem) : W58 m (rdm m) := W58.ms
theorem W58.ps (m : zmem) (D Y : Nat) (h : Int32) : W58 m (rpass m D Y h) := by
  refine (W58.fold (f := rps1 h D) (fun k m => ?_) Y 0 m).tr (W58.fold (fun k m => W58.wp) D 0 _)
  unfold rps1
  split
  · split
    · exact W58.rf m
    · exact W58.wp
  · exact W58.wp
theorem W58.gn (m : zmem) (D : Nat) (r : Int32) : W58 m (rgnaw m D r) := by
  refine W58.fold (fun k m => ?_) D 0 m
  unfold rgn
  split
  · exact W58.rf m
  · split
    · exact W58.dm m
    · split
      · exact W58.dm m
      · exact (W58.dm m).tr W58.wp
theorem W58.lay (m : zmem) (X : Nat) (d i : Int32) : W58 m (rlaym m X d i) := (W58.wp.tr W58.wp).tr W58.wp
theorem W58.spd (D Y C k : Nat) (m : zmem) : W58 m (rspd D Y C k m) := by
  unfold rspd
  split
  · exact W58.rf m
  · split
    · exact W58.lay m 0 _ _
    · exact W58.rf m
theorem W58.spr1 (m : zmem) (D Y : Nat) : W58 m (rspr1 m D Y) := ((W58.dm m).tr (W58.ps _ D Y _)).tr (W58.gn _ D 2)
theorem W58.spr (D Y C : Nat) (k : Int32) (j : Nat) (m : zmem) : W58 m (rspr D Y C k j m) := (W58.spr1 m D Y).tr (W58.fold (W58.spd D Y C) _ 0 _)
theorem W58.nights (m : zmem) (D : Nat) (n r : Int32) : W58 m (rnights m D n r) := W58.fold (fun _ m => W58.gn m D r) _ 0 m
theorem W58.sprm (m : zmem) (D Y C : Nat) (n k : Int32) : W58 m (rsprm m D Y C n k) := W58.fold (W58.spr D Y C k) _ 0 m
def rk_letter (m : zmem) (d v : Int32) : Int32 × zmem := if sin (m 64 1) d = 0 then (-1000000001, m) else if rini v 0 99 = 0 then (-1000000002, m) else (wt m 0 8 d, wp m 0 8 d v)
def rgv (m : zmem) (d n : Int32) : Int32 := if wt m 0 24 d + n ≤ 9999 then wt m 0 24 d + n else 9999
def rk_gift (m : zmem) (d n : Int32) : Int32 × zmem := if sin (m 64 1) d = 0 then (-1000000001, m) else if rini n 1 999 = 0 then (-1000000002, m) else if rlf m 0 d = 0 then (-1000000003, m) else (wt (wp m 0 24 d (rgv m d n)) 0 24 d, wp m 0 24 d (rgv m d n))
def rk_knock (m : zmem) (D C : Nat) (d : Int32) : Int32 × zmem := if sin (m 64 1) d = 0 then (-1000000001, m) else if rlf m 0 d = 0 then (-1000000003, m) else (rplace m 0 C D d, wp m 0 48 d 1)
def rk_day (m : zmem) (D Y : Nat) (h : Int32) : Int32 × zmem := if rini h (-9) 9 = 0 then (-1000000002, m) else (rsoft (rpass m D Y h) Y, rpass m D Y h)
def rk_rats (m : zmem) (D : Nat) (n r : Int32) : Int32 × zmem := if rini n 1 99 = 0 then (-1000000002, m) else if rini r 0 10 = 0 then (-1000000002, m) else (rbl (rnights m D n r) D, rnights m D n r)
def rk_lay (m : zmem) (D : Nat) (d i : Int32) : Int32 × zmem := if sin (m 64 1) d = 0 then (-1000000001, m) else if sin (m 64 0) i = 0 then (-1000000001, m) else if rlf m 0 d = 0 then (-1000000003, m) else if 0 ≤ rwho m 0 D i then (-1000000003, m) else (wt m 0 0 i + 4, rlaym m 0 d i)
def rk_spring (m : zmem) (D Y C : Nat) (n k : Int32) : Int32 × zmem := if rini n 1 99 = 0 then (-1000000002, m) else if rini k 0 9 = 0 then (-1000000002, m) else (rones (rlaid (rsprm m D Y C n k) 0 D), rsprm m D Y C n k)
def roff (m : zmem) (X C : Nat) (b a : Int32) : Int32 := if a = b then 0 else if wt m X 40 a < 0 then 0 else if wt m X 40 b < 0 then 0 else if rabc m X a b C 0 = 0 then 0 else if wt m X 40 a ≤ wt m X 40 b then 0 else 1
theorem roff01 (m : zmem) (X C : Nat) (b a : Int32) : roff m X C b a = 0 ∨ roff m X C b a = 1 := by
  unfold roff
  repeat (first | (split <;> first | exact Or.inl rfl | exact Or.inr rfl | skip))
def roffs (m : zmem) (D C : Nat) (d : Int32) : Int32 := sfold (fun k s => s ||| (roff m 0 C (Int32.ofNat k) d <<< (Int32.ofNat k &&& 31))) D 0 0
def rk_offended (m : zmem) (D C : Nat) (d : Int32) : Int32 := if sin (m 64 1) d = 0 then -1000000001 else if wt m 0 40 d < 0 then -1000000003 else roffs m D C d
def rap (m : zmem) (X a b : Nat) : Int32 := if Int32.ofNat b ≤ Int32.ofNat a then 0 else if wt m X 40 (Int32.ofNat a) < 0 then 0 else if wt m X 40 (Int32.ofNat b) < 0 then 0 else if rsize (wt m X 40 (Int32.ofNat a) - wt m X 40 (Int32.ofNat b)) = 1 then 0 else 1
def rqab (m : zmem) (X C a b : Nat) (s : Int32) : Int32 := s + (roff m X C (Int32.ofNat b) (Int32.ofNat a) + (if rap m X a b = 0 then 0 else if ¬ m 63 a = m 63 b then 0 else 1))
def rqa (m : zmem) (X C D a : Nat) (s : Int32) : Int32 := sfold (rqab m X C a) D 0 s
def rquar (m : zmem) (X C D : Nat) : Int32 := sfold (rqa m X C D) D 0 0
def rcp (X Y k : Nat) (m : zmem) : zmem := mset m 58 (Y + k) (m 58 (X + k))
def rcopy (m : zmem) (X Y : Nat) : zmem := sfold (rcp X Y) 100 0 m
theorem W58.copy (m : zmem) (X Y : Nat) : W58 m (rcopy m X Y) := W58.fold (fun _ _ => W58.ms) 100 0 m
def rfree (m : zmem) (D : Nat) (i : Int32) : Int32 := if ¬ wt m 0 0 i = 0 then 0 else if 0 ≤ rwho m 0 D i then 0 else 1
theorem rfree01 (m : zmem) (D : Nat) (i : Int32) : rfree m D i = 0 ∨ rfree m D i = 1 := by
  unfold rfree
  split
  · exact Or.inl rfl
  · split
    · exact Or.inl rfl
    · exact Or.inr rfl
set_option maxRecDepth 100000 in
set_option maxHeartbeats 4000000 in
theorem c7_told {m : zmem} {D Y C L W : Nat} (hI : RI m D Y C L W) {x : Int32} : Ei MX7_told 2 [.ref 57, .int x] m (rk_told m D x) (m) := by
  obtain ⟨hD, hD7, hY, hY8, hC, hC8, hL, hL4, hW, hW20⟩ := id hI
  refine Ei.of (by decide) (Nat.le_of_ble_eq_true rfl) ?_
  show Z _ 0 [(0, .ref 57), (1, .int x)] _ _ _ _
  refine z_iload_n 1 dX7_told_0 rfl rfl ?_
  by_cases c_1 : x = 0
  · refine z_itop c_1 ?_
    refine z_tableIn 56 dX7_told_1 (by decide) (by decide) rfl (by decide) ?_
    refine z_aload_n 0 dX7_told_56 rfl rfl ?_
    refine y_getR fX7_36 dX7_told_57 rfl rfl ?_
    refine z_iconst 0 dX7_told_60 (by decide) ?_
    refine y_ald (N := 0) dX7_told_61 rfl rfl (by decide) ?_
    exact y_iret dX7_told_62 rfl (by simp [rk_told, c_1]) rfl
  · skip
    by_cases c_2 : x = 1
    · refine z_itop c_2 ?_
      refine z_tableIn 63 dX7_told_1 (by decide) (by decide) rfl (by decide) ?_
      refine z_aload_n 0 dX7_told_63 rfl rfl ?_
      refine y_getR fX7_36 dX7_told_64 rfl rfl ?_
      refine z_iconst 1 dX7_told_67 (by decide) ?_
      refine y_ald (N := 1) dX7_told_68 rfl rfl (by decide) ?_
      exact y_iret dX7_told_69 rfl (by simp [rk_told, c_1, c_2]) rfl
    · skip
      by_cases c_3 : x = 2
      · refine z_itop c_3 ?_
        refine z_tableIn 70 dX7_told_1 (by decide) (by decide) rfl (by decide) ?_
        refine z_aload_n 0 dX7_told_70 rfl rfl ?_
        refine y_getI fX7_82 dX7_told_71 rfl rfl ?_
        exact y_iret dX7_told_74 rfl (by simp [rk_told, c_1, c_2, c_3]) rfl
      · skip
        by_cases c_4 : x = 3
        · refine z_itop c_4 ?_
          refine z_tableIn 75 dX7_told_1 (by decide) (by decide) rfl (by decide) ?_
          refine z_aload_n 0 dX7_told_75 rfl rfl ?_
          refine y_getI fX7_17 dX7_told_76 rfl rfl ?_
          exact y_iret dX7_told_79 rfl (by simp [rk_told, c_1, c_2, c_3, c_4]) rfl
        · skip
          by_cases c_5 : x = 4
          · refine z_itop c_5 ?_
            refine z_tableIn 80 dX7_told_1 (by decide) (by decide) rfl (by decide) ?_
            refine z_aload_n 0 dX7_told_80 rfl rfl ?_
            refine y_getI fX7_21 dX7_told_81 rfl rfl ?_
            exact y_iret dX7_told_84 rfl (by simp [rk_told, c_1, c_2, c_3, c_4, c_5]) rfl
          · skip
            by_cases c_6 : x = 5
            · refine z_itop c_6 ?_
              refine z_tableIn 85 dX7_told_1 (by decide) (by decide) rfl (by decide) ?_
              refine z_aload_n 0 dX7_told_85 rfl rfl ?_
              refine z_iconst 0 dX7_told_86 (by decide) ?_
              refine y_Vi [_] _ kX7_175 (c7_loft (X := 0) hI (by decide)) rfl rfl dX7_told_87 rfl rfl (Nat.le_of_ble_eq_true rfl) (Nat.le_of_ble_eq_true rfl) ⟨Nat.zero_le _, Nat.zero_le _⟩ ?_
              exact y_iret dX7_told_90 rfl (by simp [rk_told, c_1, c_2, c_3, c_4, c_5, c_6]) rfl
            · skip
              by_cases c_7 : x = 6
              · refine z_itop c_7 ?_
                refine z_tableIn 91 dX7_told_1 (by decide) (by decide) rfl (by decide) ?_
                refine z_aload_n 0 dX7_told_91 rfl rfl ?_
                refine z_iconst 0 dX7_told_92 (by decide) ?_
                refine y_Vi [_] _ kX7_179 (c7_laid (X := 0) hI (by decide)) rfl rfl dX7_told_93 rfl rfl (Nat.le_of_ble_eq_true rfl) (Nat.le_of_ble_eq_true rfl) ⟨Nat.zero_le _, Nat.zero_le _⟩ ?_
                exact y_iret dX7_told_96 rfl (by simp [rk_told, c_1, c_2, c_3, c_4, c_5, c_6, c_7]) rfl
              · skip
                by_cases c_8 : x = 7
                · refine z_itop c_8 ?_
                  refine z_tableIn 97 dX7_told_1 (by decide) (by decide) rfl (by decide) ?_
                  refine z_aload_n 0 dX7_told_97 rfl rfl ?_
                  refine y_getR fX7_7 dX7_told_98 rfl rfl ?_
                  refine z_bipush 72 dX7_told_101 (by decide) ?_
                  refine y_ald (N := 72) dX7_told_103 rfl rfl (by decide) ?_
                  exact y_iret dX7_told_104 rfl (by simp [rk_told, c_1, c_2, c_3, c_4, c_5, c_6, c_7, c_8]) rfl
                · skip
                  by_cases c_9 : x = 8
                  · refine z_itop c_9 ?_
                    refine z_tableIn 105 dX7_told_1 (by decide) (by decide) rfl (by decide) ?_
                    refine z_aload_n 0 dX7_told_105 rfl rfl ?_
                    refine y_getI fX7_147 dX7_told_106 rfl rfl ?_
                    exact y_iret dX7_told_109 rfl (by simp [rk_told, c_1, c_2, c_3, c_4, c_5, c_6, c_7, c_8, c_9]) rfl
                  · skip
                    by_cases c_10 : x = 9
                    · refine z_itop c_10 ?_
                      refine z_tableIn 110 dX7_told_1 (by decide) (by decide) rfl (by decide) ?_
                      refine z_aload_n 0 dX7_told_110 rfl rfl ?_
                      refine y_getI fX7_72 dX7_told_111 rfl rfl ?_
                      exact y_iret dX7_told_114 rfl (by simp [rk_told, c_1, c_2, c_3, c_4, c_5, c_6, c_7, c_8, c_9, c_10]) rfl
                    · skip
                      refine z_tableOut 115 dX7_told_1 (by have h0 : ¬ x.toInt = 0 := fun h => c_1 (Int32.toInt_inj.mp (h.trans rfl)); have h1 : ¬ x.toInt = 1 := fun h => c_2 (Int32.toInt_inj.mp (h.trans rfl)); have h2 : ¬ x.toInt = 2 := fun h => c_3 (Int32.toInt_inj.mp (h.trans rfl)); have h3 : ¬ x.toInt = 3 := fun h => c_4 (Int32.toInt_inj.mp (h.trans rfl)); have h4 : ¬ x.toInt = 4 := fun h => c_5 (Int32.toInt_inj.mp (h.trans rfl)); have h5 : ¬ x.toInt = 5 := fun h => c_6 (Int32.toInt_inj.mp (h.trans rfl)); have h6 : ¬ x.toInt = 6 := fun h => c_7 (Int32.toInt_inj.mp (h.trans rfl)); have h7 : ¬ x.toInt = 7 := fun h => c_8 (Int32.toInt_inj.mp (h.trans rfl)); have h8 : ¬ x.toInt = 8 := fun h => c_9 (Int32.toInt_inj.mp (h.trans rfl)); have h9 : ¬ x.toInt = 9 := fun h => c_10 (Int32.toInt_inj.mp (h.trans rfl)); omega) (by decide) ?_
                      refine z_ldc (-1000000002) dX7_told_115 nX7_81 ?_
                      exact y_iret dX7_told_117 rfl (by simp [rk_told, c_1, c_2, c_3, c_4, c_5, c_6, c_7, c_8, c_9, c_10]) rfl
set_option maxRecDepth 100000 in
set_option maxHeartbeats 4000000 in
theorem c7_yard {m : zmem} {D Y C L W : Nat} (hI : RI m D Y C L W) {i x : Int32} : Ei MX7_yard 2 [.ref 57, .int i, .int x] m (rk_yard m D i x) (m) := by
  obtain ⟨hD, hD7, hY, hY8, hC, hC8, hL, hL4, hW, hW20⟩ := id hI
  refine Ei.of (by decide) (Nat.le_of_ble_eq_true rfl) ?_
  show Z _ 0 [(0, .ref 57), (1, .int i), (2, .int x)] _ _ _ _
  refine z_aload_n 0 dX7_yard_0 rfl rfl ?_
  refine z_iload_n 1 dX7_yard_1 rfl rfl ?_
  refine y_Vi [_] _ kX7_182 (c7_isYard hI) rfl rfl dX7_yard_2 rfl rfl (Nat.le_of_ble_eq_true rfl) (Nat.le_of_ble_eq_true rfl) ⟨Nat.zero_le _, Nat.zero_le _⟩ ?_
  refine z_if_ne 11 dX7_yard_5 (by decide) (fun c_1 => ?_) (fun c_1 => ?_)
  · refine z_iload_n 2 dX7_yard_11 rfl rfl ?_
    refine z_if_ne 24 dX7_yard_12 (by decide) (fun c_2 => ?_) (fun c_2 => ?_)
    · refine z_iload_n 2 dX7_yard_24 rfl rfl ?_
      refine z_iconst 1 dX7_yard_25 (by decide) ?_
      refine z_icmp_ne 38 dX7_yard_26 (by decide) (fun c_3 => ?_) (fun c_3 => ?_)
      · refine z_ldc (-1000000002) dX7_yard_38 nX7_81 ?_
        exact y_iret dX7_yard_40 rfl (by simp [rk_yard, c_1, c_2, c_3]) rfl
      · refine z_aload_n 0 dX7_yard_29 rfl rfl ?_
        refine z_iconst 0 dX7_yard_30 (by decide) ?_
        refine z_iload_n 1 dX7_yard_31 rfl rfl ?_
        refine y_Vi [_, _] _ kX7_187 (c7_who (X := 0) hI (by decide)) rfl rfl dX7_yard_32 rfl rfl (Nat.le_of_ble_eq_true rfl) (Nat.le_of_ble_eq_true rfl) ⟨Nat.zero_le _, Nat.zero_le _⟩ ?_
        refine z_goto 40 dX7_yard_35 (by decide) ?_
        exact y_iret dX7_yard_40 rfl (by simp [rk_yard, c_1, c_2, c_3]) rfl
    · refine z_aload_n 0 dX7_yard_15 rfl rfl ?_
      refine y_getR fX7_7 dX7_yard_16 rfl rfl ?_
      refine z_iload_n 1 dX7_yard_19 rfl rfl ?_
      refine y_wld (X := 0) (o := 0) (d := i) dX7_yard_20 (wiD (sin_vp hY hY8 c_1)) (wb (by decide) (sin_vp hY hY8 c_1) (by decide)) ?_
      refine z_goto 40 dX7_yard_21 (by decide) ?_
      exact y_iret dX7_yard_40 rfl (by simp [rk_yard, c_1, c_2]) rfl
  · refine z_ldc (-1000000001) dX7_yard_8 nX7_186 ?_
    exact y_iret dX7_yard_10 rfl (by simp [rk_yard, c_1]) rfl
set_option maxRecDepth 100000 in
set_option maxHeartbeats 4000000 in
theorem c7_dead {m : zmem} {D Y C L W : Nat} (hI : RI m D Y C L W) {d x : Int32} : Ei MX7_dead 2 [.ref 57, .int d, .int x] m (rk_dead m d x) (m) := by
  obtain ⟨hD, hD7, hY, hY8, hC, hC8, hL, hL4, hW, hW20⟩ := id hI
  refine Ei.of (by decide) (Nat.le_of_ble_eq_true rfl) ?_
  show Z _ 0 [(0, .ref 57), (1, .int d), (2, .int x)] _ _ _ _
  refine z_aload_n 0 dX7_dead_0 rfl rfl ?_
  refine z_iload_n 1 dX7_dead_1 rfl rfl ?_
  refine y_Vi [_] _ kX7_190 (c7_isDead hI) rfl rfl dX7_dead_2 rfl rfl (Nat.le_of_ble_eq_true rfl) (Nat.le_of_ble_eq_true rfl) ⟨Nat.zero_le _, Nat.zero_le _⟩ ?_
  refine z_if_ne 11 dX7_dead_5 (by decide) (fun c_1 => ?_) (fun c_1 => ?_)
  · refine z_iload_n 2 dX7_dead_11 rfl rfl ?_
    by_cases c_2 : x = 0
    · refine z_itop c_2 ?_
      refine z_tableIn 64 dX7_dead_12 (by decide) (by decide) rfl (by decide) ?_
      refine z_aload_n 0 dX7_dead_64 rfl rfl ?_
      refine y_getR fX7_7 dX7_dead_65 rfl rfl ?_
      refine z_bipush 8 dX7_dead_68 (by decide) ?_
      refine z_iload_n 1 dX7_dead_70 rfl rfl ?_
      refine z_iadd dX7_dead_71 ?_
      refine y_wld (X := 0) (o := 8) (d := d) dX7_dead_72 (wiB (sin_vp hD (by omega) c_1)) (wb (by decide) (sin_vp hD (by omega) c_1) (by decide)) ?_
      exact y_iret dX7_dead_73 rfl (by simp [rk_dead, c_1, c_2]) rfl
    · skip
      by_cases c_3 : x = 1
      · refine z_itop c_3 ?_
        refine z_tableIn 74 dX7_dead_12 (by decide) (by decide) rfl (by decide) ?_
        refine z_aload_n 0 dX7_dead_74 rfl rfl ?_
        refine y_getR fX7_7 dX7_dead_75 rfl rfl ?_
        refine z_bipush 16 dX7_dead_78 (by decide) ?_
        refine z_iload_n 1 dX7_dead_80 rfl rfl ?_
        refine z_iadd dX7_dead_81 ?_
        refine y_wld (X := 0) (o := 16) (d := d) dX7_dead_82 (wiB (sin_vp hD (by omega) c_1)) (wb (by decide) (sin_vp hD (by omega) c_1) (by decide)) ?_
        exact y_iret dX7_dead_83 rfl (by simp [rk_dead, c_1, c_2, c_3]) rfl
      · skip
        by_cases c_4 : x = 2
        · refine z_itop c_4 ?_
          refine z_tableIn 84 dX7_dead_12 (by decide) (by decide) rfl (by decide) ?_
          refine z_aload_n 0 dX7_dead_84 rfl rfl ?_
          refine y_getR fX7_33 dX7_dead_85 rfl rfl ?_
          refine z_iload_n 1 dX7_dead_88 rfl rfl ?_
          refine y_ald (N := d.toNatClampNeg) dX7_dead_89 rfl (wi0 (sin_vp hD (by omega) c_1)) (vn (sin_vp hD (by omega) c_1) (by decide)) ?_
          exact y_iret dX7_dead_90 rfl (by simp [rk_dead, c_1, c_2, c_3, c_4]) rfl
        · skip
          by_cases c_5 : x = 3
          · refine z_itop c_5 ?_
            refine z_tableIn 91 dX7_dead_12 (by decide) (by decide) rfl (by decide) ?_
            refine z_aload_n 0 dX7_dead_91 rfl rfl ?_
            refine y_getR fX7_7 dX7_dead_92 rfl rfl ?_
            refine z_bipush 24 dX7_dead_95 (by decide) ?_
            refine z_iload_n 1 dX7_dead_97 rfl rfl ?_
            refine z_iadd dX7_dead_98 ?_
            refine y_wld (X := 0) (o := 24) (d := d) dX7_dead_99 (wiB (sin_vp hD (by omega) c_1)) (wb (by decide) (sin_vp hD (by omega) c_1) (by decide)) ?_
            exact y_iret dX7_dead_100 rfl (by simp [rk_dead, c_1, c_2, c_3, c_4, c_5]) rfl
          · skip
            by_cases c_6 : x = 4
            · refine z_itop c_6 ?_
              refine z_tableIn 101 dX7_dead_12 (by decide) (by decide) rfl (by decide) ?_
              refine z_aload_n 0 dX7_dead_101 rfl rfl ?_
              refine y_getR fX7_7 dX7_dead_102 rfl rfl ?_
              refine z_bipush 32 dX7_dead_105 (by decide) ?_
              refine z_iload_n 1 dX7_dead_107 rfl rfl ?_
              refine z_iadd dX7_dead_108 ?_
              refine y_wld (X := 0) (o := 32) (d := d) dX7_dead_109 (wiB (sin_vp hD (by omega) c_1)) (wb (by decide) (sin_vp hD (by omega) c_1) (by decide)) ?_
              exact y_iret dX7_dead_110 rfl (by simp [rk_dead, c_1, c_2, c_3, c_4, c_5, c_6]) rfl
            · skip
              by_cases c_7 : x = 5
              · refine z_itop c_7 ?_
                refine z_tableIn 111 dX7_dead_12 (by decide) (by decide) rfl (by decide) ?_
                refine z_aload_n 0 dX7_dead_111 rfl rfl ?_
                refine y_getR fX7_7 dX7_dead_112 rfl rfl ?_
                refine z_bipush 40 dX7_dead_115 (by decide) ?_
                refine z_iload_n 1 dX7_dead_117 rfl rfl ?_
                refine z_iadd dX7_dead_118 ?_
                refine y_wld (X := 0) (o := 40) (d := d) dX7_dead_119 (wiB (sin_vp hD (by omega) c_1)) (wb (by decide) (sin_vp hD (by omega) c_1) (by decide)) ?_
                exact y_iret dX7_dead_120 rfl (by simp [rk_dead, c_1, c_2, c_3, c_4, c_5, c_6, c_7]) rfl
              · skip
                by_cases c_8 : x = 6
                · refine z_itop c_8 ?_
                  refine z_tableIn 121 dX7_dead_12 (by decide) (by decide) rfl (by decide) ?_
                  refine z_aload_n 0 dX7_dead_121 rfl rfl ?_
                  refine y_getR fX7_7 dX7_dead_122 rfl rfl ?_
                  refine z_bipush 48 dX7_dead_125 (by decide) ?_
                  refine z_iload_n 1 dX7_dead_127 rfl rfl ?_
                  refine z_iadd dX7_dead_128 ?_
                  refine y_wld (X := 0) (o := 48) (d := d) dX7_dead_129 (wiB (sin_vp hD (by omega) c_1)) (wb (by decide) (sin_vp hD (by omega) c_1) (by decide)) ?_
                  exact y_iret dX7_dead_130 rfl (by simp [rk_dead, c_1, c_2, c_3, c_4, c_5, c_6, c_7, c_8]) rfl
                · skip
                  by_cases c_9 : x = 7
                  · refine z_itop c_9 ?_
                    refine z_tableIn 131 dX7_dead_12 (by decide) (by decide) rfl (by decide) ?_
                    refine z_aload_n 0 dX7_dead_131 rfl rfl ?_
                    refine y_getR fX7_7 dX7_dead_132 rfl rfl ?_
                    refine z_bipush 56 dX7_dead_135 (by decide) ?_
                    refine z_iload_n 1 dX7_dead_137 rfl rfl ?_
                    refine z_iadd dX7_dead_138 ?_
                    refine y_wld (X := 0) (o := 56) (d := d) dX7_dead_139 (wiB (sin_vp hD (by omega) c_1)) (wb (by decide) (sin_vp hD (by omega) c_1) (by decide)) ?_
                    exact y_iret dX7_dead_140 rfl (by simp [rk_dead, c_1, c_2, c_3, c_4, c_5, c_6, c_7, c_8, c_9]) rfl
                  · skip
                    by_cases c_10 : x = 8
                    · refine z_itop c_10 ?_
                      refine z_tableIn 141 dX7_dead_12 (by decide) (by decide) rfl (by decide) ?_
                      refine z_aload_n 0 dX7_dead_141 rfl rfl ?_
                      refine y_getR fX7_7 dX7_dead_142 rfl rfl ?_
                      refine z_bipush 64 dX7_dead_145 (by decide) ?_
                      refine z_iload_n 1 dX7_dead_147 rfl rfl ?_
                      refine z_iadd dX7_dead_148 ?_
                      refine y_wld (X := 0) (o := 64) (d := d) dX7_dead_149 (wiB (sin_vp hD (by omega) c_1)) (wb (by decide) (sin_vp hD (by omega) c_1) (by decide)) ?_
                      exact y_iret dX7_dead_150 rfl (by simp [rk_dead, c_1, c_2, c_3, c_4, c_5, c_6, c_7, c_8, c_9, c_10]) rfl
                    · skip
                      refine z_tableOut 151 dX7_dead_12 (by have h0 : ¬ x.toInt = 0 := fun h => c_2 (Int32.toInt_inj.mp (h.trans rfl)); have h1 : ¬ x.toInt = 1 := fun h => c_3 (Int32.toInt_inj.mp (h.trans rfl)); have h2 : ¬ x.toInt = 2 := fun h => c_4 (Int32.toInt_inj.mp (h.trans rfl)); have h3 : ¬ x.toInt = 3 := fun h => c_5 (Int32.toInt_inj.mp (h.trans rfl)); have h4 : ¬ x.toInt = 4 := fun h => c_6 (Int32.toInt_inj.mp (h.trans rfl)); have h5 : ¬ x.toInt = 5 := fun h => c_7 (Int32.toInt_inj.mp (h.trans rfl)); have h6 : ¬ x.toInt = 6 := fun h => c_8 (Int32.toInt_inj.mp (h.trans rfl)); have h7 : ¬ x.toInt = 7 := fun h => c_9 (Int32.toInt_inj.mp (h.trans rfl)); have h8 : ¬ x.toInt = 8 := fun h => c_10 (Int32.toInt_inj.mp (h.trans rfl)); omega) (by decide) ?_
                      refine z_ldc (-1000000002) dX7_dead_151 nX7_81 ?_
                      exact y_iret dX7_dead_153 rfl (by simp [rk_dead, c_1, c_2, c_3, c_4, c_5, c_6, c_7, c_8, c_9, c_10]) rfl
  · refine z_ldc (-1000000001) dX7_dead_8 nX7_186 ?_
    exact y_iret dX7_dead_10 rfl (by simp [rk_dead, c_1]) rfl
set_option maxRecDepth 100000 in
set_option maxHeartbeats 4000000 in
theorem c7_orderp {m : zmem} {D Y C L W : Nat} (hI : RI m D Y C L W) {i : Int32} : Ei MX7_order 5 [.ref 57, .int i] m (rorder m 0 C D i) (m) := by
  obtain ⟨hD, hD7, hY, hY8, hC, hC8, hL, hL4, hW, hW20⟩ := id hI
  refine Ei.of (by decide) (Nat.le_of_ble_eq_true rfl) ?_
  show Z _ 0 [(0, .ref 57), (1, .int i)] _ _ _ _
  refine z_aload_n 0 dX7_order_0 rfl rfl ?_
  refine z_iconst 0 dX7_order_1 (by decide) ?_
  refine z_iload_n 1 dX7_order_2 rfl rfl ?_
  refine y_Vi [_, _] _ kX7_193 (c7_order (X := 0) hI (by decide)) rfl rfl dX7_order_3 rfl rfl (Nat.le_of_ble_eq_true rfl) (Nat.le_of_ble_eq_true rfl) ⟨Nat.zero_le _, Nat.zero_le _⟩ ?_
  exact y_iret dX7_order_6 rfl rfl rfl
set_option maxRecDepth 100000 in
set_option maxHeartbeats 4000000 in
theorem c7_letter {m : zmem} {D Y C L W : Nat} (hI : RI m D Y C L W) {d v : Int32} : Ei MX7_letter 2 [.ref 57, .int d, .int v] m ((rk_letter m d v).1) ((rk_letter m d v).2) := by
  obtain ⟨hD, hD7, hY, hY8, hC, hC8, hL, hL4, hW, hW20⟩ := id hI
  refine Ei.of (by decide) (Nat.le_of_ble_eq_true rfl) ?_
  show Z _ 0 [(0, .ref 57), (1, .int d), (2, .int v)] _ _ _ _
  refine z_aload_n 0 dX7_letter_0 rfl rfl ?_
  refine z_iload_n 1 dX7_letter_1 rfl rfl ?_
  refine y_Vi [_] _ kX7_190 (c7_isDead hI) rfl rfl dX7_letter_2 rfl rfl (Nat.le_of_ble_eq_true rfl) (Nat.le_of_ble_eq_true rfl) ⟨Nat.zero_le _, Nat.zero_le _⟩ ?_
  refine z_if_ne 11 dX7_letter_5 (by decide) (fun c_1 => ?_) (fun c_1 => ?_)
  · refine z_iload_n 2 dX7_letter_11 rfl rfl ?_
    refine z_i2l dX7_letter_12 ?_
    refine z_lconst 0 dX7_letter_13 (by decide) ?_
    refine z_ldc2 99 dX7_letter_14 nX7_196 ?_
    refine y_Si [_, _, _] _ kX7_77 (c7_ini (lo := 0) (hi := 99)) dX7_letter_17 rfl rfl (Nat.le_of_ble_eq_true rfl) (Nat.le_of_ble_eq_true rfl) ⟨Nat.zero_le _, Nat.zero_le _⟩ ?_
    refine z_if_ne 26 dX7_letter_20 (by decide) (fun c_2 => ?_) (fun c_2 => ?_)
    · refine z_aload_n 0 dX7_letter_26 rfl rfl ?_
      refine y_getR fX7_7 dX7_letter_27 rfl rfl ?_
      refine z_bipush 8 dX7_letter_30 (by decide) ?_
      refine z_iload_n 1 dX7_letter_32 rfl rfl ?_
      refine z_iadd dX7_letter_33 ?_
      refine y_wld (X := 0) (o := 8) (d := d) dX7_letter_34 (wiB (sin_vp hD (by omega) c_1)) (wb (by decide) (sin_vp hD (by omega) c_1) (by decide)) ?_
      refine z_topi (fun v_3 e_3 => ?_)
      refine z_istore_n (lv' := [(3, .int v_3), (0, .ref 57), (1, .int d), (2, .int v)]) dX7_letter_35 rfl (Nat.le_of_ble_eq_true rfl) rfl ?_
      refine z_aload_n 1 dX7_letter_36 rfl rfl ?_
      refine y_getR fX7_7 dX7_letter_37 rfl rfl ?_
      refine z_bipush 8 dX7_letter_40 (by decide) ?_
      refine z_iload_n 2 dX7_letter_42 rfl rfl ?_
      refine z_iadd dX7_letter_43 ?_
      refine z_iload_n 3 dX7_letter_44 rfl rfl ?_
      refine y_wst (X := 0) (o := 8) (d := d) dX7_letter_45 (wiB (sin_vp hD (by omega) c_1)) (wb (by decide) (sin_vp hD (by omega) c_1) (by decide)) ?_
      refine z_iload_n 0 dX7_letter_46 rfl rfl ?_
      exact y_iret dX7_letter_47 rfl (by simp [rk_letter, c_1, c_2, e_3]) (by simp [rk_letter, c_1, c_2, e_3])
    · refine z_ldc (-1000000002) dX7_letter_23 nX7_81 ?_
      exact y_iret dX7_letter_25 rfl (by simp [rk_letter, c_1, c_2]) (by simp [rk_letter, c_1, c_2])
  · refine z_ldc (-1000000001) dX7_letter_8 nX7_186 ?_
    exact y_iret dX7_letter_10 rfl (by simp [rk_letter, c_1]) (by simp [rk_letter, c_1])
set_option maxRecDepth 100000 in
set_option maxHeartbeats 4000000 in
theorem c7_gift {m : zmem} {D Y C L W : Nat} (hI : RI m D Y C L W) {d n : Int32} : Ei MX7_gift 2 [.ref 57, .int d, .int n] m ((rk_gift m d n).1) ((rk_gift m d n).2) := by
  obtain ⟨hD, hD7, hY, hY8, hC, hC8, hL, hL4, hW, hW20⟩ := id hI
  refine Ei.of (by decide) (Nat.le_of_ble_eq_true rfl) ?_
  show Z _ 0 [(0, .ref 57), (1, .int d), (2, .int n)] _ _ _ _
  refine z_aload_n 0 dX7_gift_0 rfl rfl ?_
  refine z_iload_n 1 dX7_gift_1 rfl rfl ?_
  refine y_Vi [_] _ kX7_190 (c7_isDead hI) rfl rfl dX7_gift_2 rfl rfl (Nat.le_of_ble_eq_true rfl) (Nat.le_of_ble_eq_true rfl) ⟨Nat.zero_le _, Nat.zero_le _⟩ ?_
  refine z_if_ne 11 dX7_gift_5 (by decide) (fun c_1 => ?_) (fun c_1 => ?_)
  · refine z_iload_n 2 dX7_gift_11 rfl rfl ?_
    refine z_i2l dX7_gift_12 ?_
    refine z_lconst 1 dX7_gift_13 (by decide) ?_
    refine z_ldc2 999 dX7_gift_14 nX7_198 ?_
    refine y_Si [_, _, _] _ kX7_77 (c7_ini (lo := 1) (hi := 999)) dX7_gift_17 rfl rfl (Nat.le_of_ble_eq_true rfl) (Nat.le_of_ble_eq_true rfl) ⟨Nat.zero_le _, Nat.zero_le _⟩ ?_
    refine z_if_ne 26 dX7_gift_20 (by decide) (fun c_2 => ?_) (fun c_2 => ?_)
    · refine z_aload_n 0 dX7_gift_26 rfl rfl ?_
      refine z_iconst 0 dX7_gift_27 (by decide) ?_
      refine z_iload_n 1 dX7_gift_28 rfl rfl ?_
      refine y_Vi [_, _] _ kX7_154 (c7_lf (X := 0) (by decide) (sin_vp hD (by omega) c_1)) rfl rfl dX7_gift_29 rfl rfl (Nat.le_of_ble_eq_true rfl) (Nat.le_of_ble_eq_true rfl) ⟨Nat.zero_le _, Nat.zero_le _⟩ ?_
      refine z_if_ne 38 dX7_gift_32 (by decide) (fun c_3 => ?_) (fun c_3 => ?_)
      · refine z_aload_n 0 dX7_gift_38 rfl rfl ?_
        refine y_getR fX7_7 dX7_gift_39 rfl rfl ?_
        refine z_bipush 24 dX7_gift_42 (by decide) ?_
        refine z_iload_n 1 dX7_gift_44 rfl rfl ?_
        refine z_iadd dX7_gift_45 ?_
        refine z_aload_n 0 dX7_gift_46 rfl rfl ?_
        refine y_getR fX7_7 dX7_gift_47 rfl rfl ?_
        refine z_bipush 24 dX7_gift_50 (by decide) ?_
        refine z_iload_n 1 dX7_gift_52 rfl rfl ?_
        refine z_iadd dX7_gift_53 ?_
        refine y_wld (X := 0) (o := 24) (d := d) dX7_gift_54 (wiB (sin_vp hD (by omega) c_1)) (wb (by decide) (sin_vp hD (by omega) c_1) (by decide)) ?_
        refine z_iload_n 2 dX7_gift_55 rfl rfl ?_
        refine z_iadd dX7_gift_56 ?_
        refine z_sipush 9999 dX7_gift_57 (by decide) ?_
        refine z_icmp_le 69 dX7_gift_60 (by decide) (fun c_4 => ?_) (fun c_4 => ?_)
        · refine z_aload_n 0 dX7_gift_69 rfl rfl ?_
          refine y_getR fX7_7 dX7_gift_70 rfl rfl ?_
          refine z_bipush 24 dX7_gift_73 (by decide) ?_
          refine z_iload_n 1 dX7_gift_75 rfl rfl ?_
          refine z_iadd dX7_gift_76 ?_
          refine y_wld (X := 0) (o := 24) (d := d) dX7_gift_77 (wiB (sin_vp hD (by omega) c_1)) (wb (by decide) (sin_vp hD (by omega) c_1) (by decide)) ?_
          refine z_iload_n 2 dX7_gift_78 rfl rfl ?_
          refine z_iadd dX7_gift_79 ?_
          refine y_wst (X := 0) (o := 24) (d := d) dX7_gift_80 (wiB (sin_vp hD (by omega) c_1)) (wb (by decide) (sin_vp hD (by omega) c_1) (by decide)) ?_
          refine z_aload_n 0 dX7_gift_81 rfl rfl ?_
          refine y_getR fX7_7 dX7_gift_82 rfl rfl ?_
          refine z_bipush 24 dX7_gift_85 (by decide) ?_
          refine z_iload_n 1 dX7_gift_87 rfl rfl ?_
          refine z_iadd dX7_gift_88 ?_
          refine y_wld (X := 0) (o := 24) (d := d) dX7_gift_89 (wiB (sin_vp hD (by omega) c_1)) (wb (by decide) (sin_vp hD (by omega) c_1) (by decide)) ?_
          exact y_iret dX7_gift_90 rfl (by simp [rk_gift, rgv, c_1, c_2, c_3, c_4]) (by simp [rk_gift, rgv, c_1, c_2, c_3, c_4])
        · refine z_sipush 9999 dX7_gift_63 (by decide) ?_
          refine z_goto 80 dX7_gift_66 (by decide) ?_
          refine y_wst (X := 0) (o := 24) (d := d) dX7_gift_80 (wiB (sin_vp hD (by omega) c_1)) (wb (by decide) (sin_vp hD (by omega) c_1) (by decide)) ?_
          refine z_aload_n 0 dX7_gift_81 rfl rfl ?_
          refine y_getR fX7_7 dX7_gift_82 rfl rfl ?_
          refine z_bipush 24 dX7_gift_85 (by decide) ?_
          refine z_iload_n 1 dX7_gift_87 rfl rfl ?_
          refine z_iadd dX7_gift_88 ?_
          refine y_wld (X := 0) (o := 24) (d := d) dX7_gift_89 (wiB (sin_vp hD (by omega) c_1)) (wb (by decide) (sin_vp hD (by omega) c_1) (by decide)) ?_
          exact y_iret dX7_gift_90 rfl (by simp [rk_gift, rgv, c_1, c_2, c_3, c_4]) (by simp [rk_gift, rgv, c_1, c_2, c_3, c_4])
      · refine z_ldc (-1000000003) dX7_gift_35 nX7_200 ?_
        exact y_iret dX7_gift_37 rfl (by simp [rk_gift, rgv, c_1, c_2, c_3]) (by simp [rk_gift, rgv, c_1, c_2, c_3])
    · refine z_ldc (-1000000002) dX7_gift_23 nX7_81 ?_
      exact y_iret dX7_gift_25 rfl (by simp [rk_gift, rgv, c_1, c_2]) (by simp [rk_gift, rgv, c_1, c_2])
  · refine z_ldc (-1000000001) dX7_gift_8 nX7_186 ?_
    exact y_iret dX7_gift_10 rfl (by simp [rk_gift, rgv, c_1]) (by simp [rk_gift, rgv, c_1])
set_option maxRecDepth 100000 in
set_option maxHeartbeats 4000000 in
theorem c7_knock {m : zmem} {D Y C L W : Nat} (hI : RI m D Y C L W) {d : Int32} : Ei MX7_knock 4 [.ref 57, .int d] m ((rk_knock m D C d).1) ((rk_knock m D C d).2) := by
  obtain ⟨hD, hD7, hY, hY8, hC, hC8, hL, hL4, hW, hW20⟩ := id hI
  refine Ei.of (by decide) (Nat.le_of_ble_eq_true rfl) ?_
  show Z _ 0 [(0, .ref 57), (1, .int d)] _ _ _ _
  refine z_aload_n 0 dX7_knock_0 rfl rfl ?_
  refine z_iload_n 1 dX7_knock_1 rfl rfl ?_
  refine y_Vi [_] _ kX7_190 (c7_isDead hI) rfl rfl dX7_knock_2 rfl rfl (Nat.le_of_ble_eq_true rfl) (Nat.le_of_ble_eq_true rfl) ⟨Nat.zero_le _, Nat.zero_le _⟩ ?_
  refine z_if_ne 11 dX7_knock_5 (by decide) (fun c_1 => ?_) (fun c_1 => ?_)
  · refine z_aload_n 0 dX7_knock_11 rfl rfl ?_
    refine z_iconst 0 dX7_knock_12 (by decide) ?_
    refine z_iload_n 1 dX7_knock_13 rfl rfl ?_
    refine y_Vi [_, _] _ kX7_154 (c7_lf (X := 0) (by decide) (sin_vp hD (by omega) c_1)) rfl rfl dX7_knock_14 rfl rfl (Nat.le_of_ble_eq_true rfl) (Nat.le_of_ble_eq_true rfl) ⟨Nat.zero_le _, Nat.zero_le _⟩ ?_
    refine z_if_ne 23 dX7_knock_17 (by decide) (fun c_2 => ?_) (fun c_2 => ?_)
    · refine z_aload_n 0 dX7_knock_23 rfl rfl ?_
      refine z_iconst 0 dX7_knock_24 (by decide) ?_
      refine z_iload_n 1 dX7_knock_25 rfl rfl ?_
      refine y_Vi [_, _] _ kX7_172 (c7_place (X := 0) hI (by decide) (sin_vp hD (by omega) c_1)) rfl rfl dX7_knock_26 rfl rfl (Nat.le_of_ble_eq_true rfl) (Nat.le_of_ble_eq_true rfl) ⟨Nat.zero_le _, Nat.zero_le _⟩ ?_
      refine z_topi (fun v_3 e_3 => ?_)
      refine z_istore_n (lv' := [(2, .int v_3), (0, .ref 57), (1, .int d)]) dX7_knock_29 rfl (Nat.le_of_ble_eq_true rfl) rfl ?_
      refine z_aload_n 1 dX7_knock_30 rfl rfl ?_
      refine y_getR fX7_7 dX7_knock_31 rfl rfl ?_
      refine z_bipush 48 dX7_knock_34 (by decide) ?_
      refine z_iload_n 2 dX7_knock_36 rfl rfl ?_
      refine z_iadd dX7_knock_37 ?_
      refine z_iconst 1 dX7_knock_38 (by decide) ?_
      refine y_wst (X := 0) (o := 48) (d := d) dX7_knock_39 (wiB (sin_vp hD (by omega) c_1)) (wb (by decide) (sin_vp hD (by omega) c_1) (by decide)) ?_
      refine z_iload_n 0 dX7_knock_40 rfl rfl ?_
      exact y_iret dX7_knock_41 rfl (by simp [rk_knock, c_1, c_2, e_3]) (by simp [rk_knock, c_1, c_2, e_3])
    · refine z_ldc (-1000000003) dX7_knock_20 nX7_200 ?_
      exact y_iret dX7_knock_22 rfl (by simp [rk_knock, c_1, c_2]) (by simp [rk_knock, c_1, c_2])
  · refine z_ldc (-1000000001) dX7_knock_8 nX7_186 ?_
    exact y_iret dX7_knock_10 rfl (by simp [rk_knock, c_1]) (by simp [rk_knock, c_1])
set_option maxRecDepth 100000 in
set_option maxHeartbeats 4000000 in
theorem c7_rate {m : zmem} {h i : Int32} : Ei MX7_rate 0 [.ref 57, .int h, .int i] m (rrate m h i) (m) := by
  refine Ei.of (by decide) (Nat.le_of_ble_eq_true rfl) ?_
  show Z _ 0 [(0, .ref 57), (1, .int h), (2, .int i)] _ _ _ _
  refine z_iload_n 1 dX7_rate_0 rfl rfl ?_
  refine z_aload_n 0 dX7_rate_1 rfl rfl ?_
  refine y_getI fX7_17 dX7_rate_2 rfl rfl ?_
  refine z_imul dX7_rate_5 ?_
  refine z_aload_n 0 dX7_rate_6 rfl rfl ?_
  refine y_getI fX7_21 dX7_rate_7 rfl rfl ?_
  refine z_iload_n 2 dX7_rate_10 rfl rfl ?_
  refine z_imul dX7_rate_11 ?_
  refine z_isub dX7_rate_12 ?_
  refine z_topi (fun v_1 e_1 => ?_)
  refine z_istore_n (lv' := [(3, .int v_1), (0, .ref 57), (1, .int h), (2, .int i)]) dX7_rate_13 rfl (Nat.le_of_ble_eq_true rfl) rfl ?_
  refine z_iload_n 0 dX7_rate_14 rfl rfl ?_
  refine z_if_le 22 dX7_rate_15 (by decide) (fun c_2 => ?_) (fun c_2 => ?_)
  · refine z_iconst 0 dX7_rate_22 (by decide) ?_
    exact y_iret dX7_rate_23 rfl (by rw [rrate, ← e_1]; simp [c_2]) rfl
  · refine z_iload_n 0 dX7_rate_18 rfl rfl ?_
    refine z_goto 23 dX7_rate_19 (by decide) ?_
    exact y_iret dX7_rate_23 rfl (by rw [rrate, ← e_1]; simp [c_2]) rfl
set_option maxRecDepth 100000 in
set_option maxHeartbeats 4000000 in
theorem c7_pass {m : zmem} {D Y C L W : Nat} (hI : RI m D Y C L W) {h : Int32} : E0 MX7_pass 1 [.ref 57, .int h] m (rpass m D Y h) := by
  obtain ⟨hD, hD7, hY, hY8, hC, hC8, hL, hL4, hW, hW20⟩ := id hI
  refine E0.of (by decide) (Nat.le_of_ble_eq_true rfl) ?_
  show Z _ 0 [(0, .ref 57), (1, .int h)] _ _ _ _
  refine z_iconst 0 dX7_pass_0 (by decide) ?_
  refine z_istore_n (lv' := [(2, .int 0), (0, .ref 57), (1, .int h)]) dX7_pass_1 rfl (Nat.le_of_ble_eq_true rfl) rfl ?_
  have loop2 : ∀ (n : Nat) (k : Nat) (mm : zmem), k + n = Y → rpassA m D Y h = sfold (rps1 h D) n k mm → W58 m mm → Z (zMB (Q0 (rpass m D Y h)) 1 MX7_pass) 2 [(0, .ref 57), (1, .int h), (2, .int (Int32.ofNat k))] [] (hp mm) 0 0 := by
    intro n
    induction n with
    | zero =>
      intro k mm hk hr hw
      refine z_iload_n 2 dX7_pass_2 rfl rfl ?_
      refine z_aload_n 0 dX7_pass_3 rfl rfl ?_
      refine y_getR fX7_36 dX7_pass_4 rfl rfl ?_
      refine z_iconst 0 dX7_pass_7 (by decide) ?_
      refine y_ald (N := 0) dX7_pass_8 rfl rfl (by decide) ?_
      refine z_icmp_ge 104 dX7_pass_9 (by decide) (fun c_1 => ?_) (fun c_1 => ?_)
      · refine z_iconst 0 dX7_pass_104 (by decide) ?_
        refine z_istore_n (lv' := [(2, .int 0), (0, .ref 57), (1, .int h)]) dX7_pass_105 rfl (Nat.le_of_ble_eq_true rfl) rfl ?_
        have loop106 : ∀ (q : Nat) (j : Nat) (mm : zmem), j + q = D → rpass m D Y h = sfold rps2 q j mm → W58 m mm → Z (zMB (Q0 (rpass m D Y h)) 1 MX7_pass) 106 [(0, .ref 57), (1, .int h), (2, .int (Int32.ofNat j))] [] (hp mm) 0 0 := by
          intro q
          induction q with
          | zero =>
            intro j mm hj hr2 hw
            refine z_iload_n 2 dX7_pass_106 rfl rfl ?_
            refine z_aload_n 0 dX7_pass_107 rfl rfl ?_
            refine y_getR fX7_36 dX7_pass_108 rfl rfl ?_
            refine z_iconst 1 dX7_pass_111 (by decide) ?_
            refine y_ald (N := 1) dX7_pass_112 rfl rfl (by decide) ?_
            refine z_icmp_ge 166 dX7_pass_113 (by decide) (fun c_2 => ?_) (fun c_2 => ?_)
            · exact y_vret dX7_pass_166 rfl hr2.symm
            · exact (dz rfl ((hI.w hw).1) (by omega) (by omega) c_2).elim
          | succ q ih106 =>
            intro j mm hj hr2 hw
            refine z_iload_n 2 dX7_pass_106 rfl rfl ?_
            refine z_aload_n 0 dX7_pass_107 rfl rfl ?_
            refine y_getR fX7_36 dX7_pass_108 rfl rfl ?_
            refine z_iconst 1 dX7_pass_111 (by decide) ?_
            refine y_ald (N := 1) dX7_pass_112 rfl rfl (by decide) ?_
            refine z_icmp_ge 166 dX7_pass_113 (by decide) (fun c_3 => ?_) (fun c_3 => ?_)
            · exact (ds rfl ((hI.w hw).1) (by omega) (by omega) c_3).elim
            · refine z_aload_n 0 dX7_pass_116 rfl rfl ?_
              refine y_getR fX7_7 dX7_pass_117 rfl rfl ?_
              refine z_bipush 16 dX7_pass_120 (by decide) ?_
              refine z_iload_n 2 dX7_pass_122 rfl rfl ?_
              refine z_iadd dX7_pass_123 ?_
              refine z_dup2 dX7_pass_124 rfl rfl ?_
              refine y_wld (X := 0) (o := 16) (d := Int32.ofNat j) dX7_pass_125 (wiB (vk (by omega))) (wb (by decide) (vk (by omega)) (by decide)) ?_
              refine z_aload_n 0 dX7_pass_126 rfl rfl ?_
              refine z_iconst 0 dX7_pass_127 (by decide) ?_
              refine z_iload_n 2 dX7_pass_128 rfl rfl ?_
              refine y_Vi [_, _] _ kX7_154 (c7_lf (by decide) (vk (by omega))) rfl rfl dX7_pass_129 rfl rfl (Nat.le_of_ble_eq_true rfl) (Nat.le_of_ble_eq_true rfl) ⟨Nat.zero_le _, Nat.zero_le _⟩ ?_
              refine z_if_eq 154 dX7_pass_132 (by decide) (fun c_4 => ?_) (fun c_4 => ?_)
              · refine z_iconst 0 dX7_pass_154 (by decide) ?_
                refine y_Si [_] _ kX7_157 (c7_one (by first | exact rlf01 _ _ _ | exact roff01 _ _ _ _ _ | decide)) dX7_pass_155 rfl rfl (Nat.le_of_ble_eq_true rfl) (Nat.le_of_ble_eq_true rfl) ⟨Nat.zero_le _, Nat.zero_le _⟩ ?_
                refine z_iadd dX7_pass_158 ?_
                refine y_wst (X := 0) (o := 16) (d := Int32.ofNat j) dX7_pass_159 (wiB (vk (by omega))) (wb (by decide) (vk (by omega)) (by decide)) ?_
                obtain ⟨v_5, e_5⟩ : ∃ y : Int32, y = (Int32.ofNat j) + 1 := ⟨_, rfl⟩
                refine z_iinc (lv' := [(2, .int v_5), (0, .ref 57), (1, .int h)]) 2 v_5 dX7_pass_160 rfl (by rw [e_5]; rfl) (Nat.le_of_ble_eq_true rfl) rfl ?_
                refine z_goto 106 dX7_pass_163 (by decide) ?_
                obtain rfl : v_5 = Int32.ofNat (j + 1) := e_5.trans (nat_succ j)
                refine z_sub [1,2,0] rfl ?_
                exact ih106 (j + 1) _ (by omega) (hr2.trans (congrArg (sfold _ q (j + 1)) (by simp [rps2, rwd, c_3, c_4]))) (hw.tr W58.wp)
              · refine z_aload_n 0 dX7_pass_135 rfl rfl ?_
                refine y_getR fX7_7 dX7_pass_136 rfl rfl ?_
                refine z_bipush 16 dX7_pass_139 (by decide) ?_
                refine z_iload_n 2 dX7_pass_141 rfl rfl ?_
                refine z_iadd dX7_pass_142 ?_
                refine y_wld (X := 0) (o := 16) (d := Int32.ofNat j) dX7_pass_143 (wiB (vk (by omega))) (wb (by decide) (vk (by omega)) (by decide)) ?_
                refine z_sipush 9999 dX7_pass_144 (by decide) ?_
                refine z_icmp_ge 154 dX7_pass_147 (by decide) (fun c_6 => ?_) (fun c_6 => ?_)
                · refine z_iconst 0 dX7_pass_154 (by decide) ?_
                  refine y_Si [_] _ kX7_157 (c7_one (by first | exact rlf01 _ _ _ | exact roff01 _ _ _ _ _ | decide)) dX7_pass_155 rfl rfl (Nat.le_of_ble_eq_true rfl) (Nat.le_of_ble_eq_true rfl) ⟨Nat.zero_le _, Nat.zero_le _⟩ ?_
                  refine z_iadd dX7_pass_158 ?_
                  refine y_wst (X := 0) (o := 16) (d := Int32.ofNat j) dX7_pass_159 (wiB (vk (by omega))) (wb (by decide) (vk (by omega)) (by decide)) ?_
                  obtain ⟨v_7, e_7⟩ : ∃ y : Int32, y = (Int32.ofNat j) + 1 := ⟨_, rfl⟩
                  refine z_iinc (lv' := [(2, .int v_7), (0, .ref 57), (1, .int h)]) 2 v_7 dX7_pass_160 rfl (by rw [e_7]; rfl) (Nat.le_of_ble_eq_true rfl) rfl ?_
                  refine z_goto 106 dX7_pass_163 (by decide) ?_
                  obtain rfl : v_7 = Int32.ofNat (j + 1) := e_7.trans (nat_succ j)
                  refine z_sub [1,2,0] rfl ?_
                  exact ih106 (j + 1) _ (by omega) (hr2.trans (congrArg (sfold _ q (j + 1)) (by simp [rps2, rwd, c_3, c_4, c_6]))) (hw.tr W58.wp)
                · refine z_iconst 1 dX7_pass_150 (by decide) ?_
                  refine z_goto 155 dX7_pass_151 (by decide) ?_
                  refine y_Si [_] _ kX7_157 (c7_one (by first | exact rlf01 _ _ _ | exact roff01 _ _ _ _ _ | decide)) dX7_pass_155 rfl rfl (Nat.le_of_ble_eq_true rfl) (Nat.le_of_ble_eq_true rfl) ⟨Nat.zero_le _, Nat.zero_le _⟩ ?_
                  refine z_iadd dX7_pass_158 ?_
                  refine y_wst (X := 0) (o := 16) (d := Int32.ofNat j) dX7_pass_159 (wiB (vk (by omega))) (wb (by decide) (vk (by omega)) (by decide)) ?_
                  obtain ⟨v_8, e_8⟩ : ∃ y : Int32, y = (Int32.ofNat j) + 1 := ⟨_, rfl⟩
                  refine z_iinc (lv' := [(2, .int v_8), (0, .ref 57), (1, .int h)]) 2 v_8 dX7_pass_160 rfl (by rw [e_8]; rfl) (Nat.le_of_ble_eq_true rfl) rfl ?_
                  refine z_goto 106 dX7_pass_163 (by decide) ?_
                  obtain rfl : v_8 = Int32.ofNat (j + 1) := e_8.trans (nat_succ j)
                  refine z_sub [1,2,0] rfl ?_
                  exact ih106 (j + 1) _ (by omega) (hr2.trans (congrArg (sfold _ q (j + 1)) (by simp [rps2, rwd, c_3, c_4, c_6]))) (hw.tr W58.wp)
        refine z_sub [1,2,0] rfl ?_
        exact loop106 (D) 0 _ (by omega) (congrArg (sfold rps2 D 0) hr) hw
      · exact (dz rfl ((hI.w hw).2.2.1) (by omega) (by omega) c_1).elim
    | succ n ih2 =>
      intro k mm hk hr hw
      refine z_iload_n 2 dX7_pass_2 rfl rfl ?_
      refine z_aload_n 0 dX7_pass_3 rfl rfl ?_
      refine y_getR fX7_36 dX7_pass_4 rfl rfl ?_
      refine z_iconst 0 dX7_pass_7 (by decide) ?_
      refine y_ald (N := 0) dX7_pass_8 rfl rfl (by decide) ?_
      refine z_icmp_ge 104 dX7_pass_9 (by decide) (fun c_9 => ?_) (fun c_9 => ?_)
      · exact (ds rfl ((hI.w hw).2.2.1) (by omega) (by omega) c_9).elim
      · refine z_iload_n 1 dX7_pass_12 rfl rfl ?_
        refine z_if_le 57 dX7_pass_13 (by decide) (fun c_10 => ?_) (fun c_10 => ?_)
        · refine z_aload_n 0 dX7_pass_57 rfl rfl ?_
          refine z_iconst 0 dX7_pass_58 (by decide) ?_
          refine z_iload_n 2 dX7_pass_59 rfl rfl ?_
          refine y_Vi [_, _] _ kX7_187 (c7_who (X := 0) (hI.w hw) (by decide)) rfl rfl dX7_pass_60 rfl rfl (Nat.le_of_ble_eq_true rfl) (Nat.le_of_ble_eq_true rfl) ⟨Nat.zero_le _, Nat.zero_le _⟩ ?_
          refine z_if_ge 98 dX7_pass_63 (by decide) (fun c_11 => ?_) (fun c_11 => ?_)
          · obtain ⟨v_12, e_12⟩ : ∃ y : Int32, y = (Int32.ofNat k) + 1 := ⟨_, rfl⟩
            refine z_iinc (lv' := [(2, .int v_12), (0, .ref 57), (1, .int h)]) 2 v_12 dX7_pass_98 rfl (by rw [e_12]; rfl) (Nat.le_of_ble_eq_true rfl) rfl ?_
            refine z_goto 2 dX7_pass_101 (by decide) ?_
            obtain rfl : v_12 = Int32.ofNat (k + 1) := e_12.trans (nat_succ k)
            refine z_sub [1,2,0] rfl ?_
            exact ih2 (k + 1) _ (by omega) (hr.trans (congrArg (sfold _ n (k + 1)) (by simp [rps1, rcut, c_9, c_10, c_11]))) (by first | exact hw | exact hw.tr W58.wp)
          · refine z_aload_n 0 dX7_pass_66 rfl rfl ?_
            refine y_getR fX7_7 dX7_pass_67 rfl rfl ?_
            refine z_iload_n 2 dX7_pass_70 rfl rfl ?_
            refine z_aload_n 0 dX7_pass_71 rfl rfl ?_
            refine y_getR fX7_7 dX7_pass_72 rfl rfl ?_
            refine z_iload_n 2 dX7_pass_75 rfl rfl ?_
            refine y_wld (X := 0) (o := 0) (d := Int32.ofNat k) dX7_pass_76 (wiD (vk (by omega))) (wb (by decide) (vk (by omega)) (by decide)) ?_
            refine z_iload_n 1 dX7_pass_77 rfl rfl ?_
            refine z_isub dX7_pass_78 ?_
            refine z_bipush 99 dX7_pass_79 (by decide) ?_
            refine z_icmp_le 89 dX7_pass_81 (by decide) (fun c_13 => ?_) (fun c_13 => ?_)
            · refine z_aload_n 0 dX7_pass_89 rfl rfl ?_
              refine y_getR fX7_7 dX7_pass_90 rfl rfl ?_
              refine z_iload_n 2 dX7_pass_93 rfl rfl ?_
              refine y_wld (X := 0) (o := 0) (d := Int32.ofNat k) dX7_pass_94 (wiD (vk (by omega))) (wb (by decide) (vk (by omega)) (by decide)) ?_
              refine z_iload_n 1 dX7_pass_95 rfl rfl ?_
              refine z_isub dX7_pass_96 ?_
              refine y_wst (X := 0) (o := 0) (d := Int32.ofNat k) dX7_pass_97 (wiD (vk (by omega))) (wb (by decide) (vk (by omega)) (by decide)) ?_
              obtain ⟨v_14, e_14⟩ : ∃ y : Int32, y = (Int32.ofNat k) + 1 := ⟨_, rfl⟩
              refine z_iinc (lv' := [(2, .int v_14), (0, .ref 57), (1, .int h)]) 2 v_14 dX7_pass_98 rfl (by rw [e_14]; rfl) (Nat.le_of_ble_eq_true rfl) rfl ?_
              refine z_goto 2 dX7_pass_101 (by decide) ?_
              obtain rfl : v_14 = Int32.ofNat (k + 1) := e_14.trans (nat_succ k)
              refine z_sub [1,2,0] rfl ?_
              exact ih2 (k + 1) _ (by omega) (hr.trans (congrArg (sfold _ n (k + 1)) (by simp [rps1, rcut, c_9, c_10, c_11, c_13]))) (by first | exact hw | exact hw.tr W58.wp)
            · refine z_bipush 99 dX7_pass_84 (by decide) ?_
              refine z_goto 97 dX7_pass_86 (by decide) ?_
              refine y_wst (X := 0) (o := 0) (d := Int32.ofNat k) dX7_pass_97 (wiD (vk (by omega))) (wb (by decide) (vk (by omega)) (by decide)) ?_
              obtain ⟨v_15, e_15⟩ : ∃ y : Int32, y = (Int32.ofNat k) + 1 := ⟨_, rfl⟩
              refine z_iinc (lv' := [(2, .int v_15), (0, .ref 57), (1, .int h)]) 2 v_15 dX7_pass_98 rfl (by rw [e_15]; rfl) (Nat.le_of_ble_eq_true rfl) rfl ?_
              refine z_goto 2 dX7_pass_101 (by decide) ?_
              obtain rfl : v_15 = Int32.ofNat (k + 1) := e_15.trans (nat_succ k)
              refine z_sub [1,2,0] rfl ?_
              exact ih2 (k + 1) _ (by omega) (hr.trans (congrArg (sfold _ n (k + 1)) (by simp [rps1, rcut, c_9, c_10, c_11, c_13]))) (by first | exact hw | exact hw.tr W58.wp)
        · refine z_aload_n 0 dX7_pass_16 rfl rfl ?_
          refine y_getR fX7_7 dX7_pass_17 rfl rfl ?_
          refine z_iload_n 2 dX7_pass_20 rfl rfl ?_
          refine z_aload_n 0 dX7_pass_21 rfl rfl ?_
          refine y_getR fX7_7 dX7_pass_22 rfl rfl ?_
          refine z_iload_n 2 dX7_pass_25 rfl rfl ?_
          refine y_wld (X := 0) (o := 0) (d := Int32.ofNat k) dX7_pass_26 (wiD (vk (by omega))) (wb (by decide) (vk (by omega)) (by decide)) ?_
          refine z_aload_n 0 dX7_pass_27 rfl rfl ?_
          refine z_iload_n 1 dX7_pass_28 rfl rfl ?_
          refine z_iload_n 2 dX7_pass_29 rfl rfl ?_
          refine y_Vi [_, _] _ kX7_201 c7_rate rfl rfl dX7_pass_30 rfl rfl (Nat.le_of_ble_eq_true rfl) (Nat.le_of_ble_eq_true rfl) ⟨Nat.zero_le _, Nat.zero_le _⟩ ?_
          refine z_icmp_le 52 dX7_pass_33 (by decide) (fun c_16 => ?_) (fun c_16 => ?_)
          · refine z_iconst 0 dX7_pass_52 (by decide) ?_
            refine y_wst (X := 0) (o := 0) (d := Int32.ofNat k) dX7_pass_53 (wiD (vk (by omega))) (wb (by decide) (vk (by omega)) (by decide)) ?_
            refine z_goto 98 dX7_pass_54 (by decide) ?_
            obtain ⟨v_17, e_17⟩ : ∃ y : Int32, y = (Int32.ofNat k) + 1 := ⟨_, rfl⟩
            refine z_iinc (lv' := [(2, .int v_17), (0, .ref 57), (1, .int h)]) 2 v_17 dX7_pass_98 rfl (by rw [e_17]; rfl) (Nat.le_of_ble_eq_true rfl) rfl ?_
            refine z_goto 2 dX7_pass_101 (by decide) ?_
            obtain rfl : v_17 = Int32.ofNat (k + 1) := e_17.trans (nat_succ k)
            refine z_sub [1,2,0] rfl ?_
            exact ih2 (k + 1) _ (by omega) (hr.trans (congrArg (sfold _ n (k + 1)) (by simp [rps1, rcut, c_9, c_10, c_16]))) (by first | exact hw | exact hw.tr W58.wp)
          · refine z_aload_n 0 dX7_pass_36 rfl rfl ?_
            refine y_getR fX7_7 dX7_pass_37 rfl rfl ?_
            refine z_iload_n 2 dX7_pass_40 rfl rfl ?_
            refine y_wld (X := 0) (o := 0) (d := Int32.ofNat k) dX7_pass_41 (wiD (vk (by omega))) (wb (by decide) (vk (by omega)) (by decide)) ?_
            refine z_aload_n 0 dX7_pass_42 rfl rfl ?_
            refine z_iload_n 1 dX7_pass_43 rfl rfl ?_
            refine z_iload_n 2 dX7_pass_44 rfl rfl ?_
            refine y_Vi [_, _] _ kX7_201 c7_rate rfl rfl dX7_pass_45 rfl rfl (Nat.le_of_ble_eq_true rfl) (Nat.le_of_ble_eq_true rfl) ⟨Nat.zero_le _, Nat.zero_le _⟩ ?_
            refine z_isub dX7_pass_48 ?_
            refine z_goto 53 dX7_pass_49 (by decide) ?_
            refine y_wst (X := 0) (o := 0) (d := Int32.ofNat k) dX7_pass_53 (wiD (vk (by omega))) (wb (by decide) (vk (by omega)) (by decide)) ?_
            refine z_goto 98 dX7_pass_54 (by decide) ?_
            obtain ⟨v_18, e_18⟩ : ∃ y : Int32, y = (Int32.ofNat k) + 1 := ⟨_, rfl⟩
            refine z_iinc (lv' := [(2, .int v_18), (0, .ref 57), (1, .int h)]) 2 v_18 dX7_pass_98 rfl (by rw [e_18]; rfl) (Nat.le_of_ble_eq_true rfl) rfl ?_
            refine z_goto 2 dX7_pass_101 (by decide) ?_
            obtain rfl : v_18 = Int32.ofNat (k + 1) := e_18.trans (nat_succ k)
            refine z_sub [1,2,0] rfl ?_
            exact ih2 (k + 1) _ (by omega) (hr.trans (congrArg (sfold _ n (k + 1)) (by simp [rps1, rcut, c_9, c_10, c_16]))) (by first | exact hw | exact hw.tr W58.wp)
  refine z_sub [1,2,0] rfl ?_
  exact loop2 (Y) 0 _ (by omega) rfl (W58.rf m)
set_option maxRecDepth 100000 in
set_option maxHeartbeats 4000000 in
theorem c7_soft {m : zmem} {D Y C L W : Nat} (hI : RI m D Y C L W)  : Ei MX7_softYards 1 [.ref 57] m (rsoft m Y) (m) := by
  obtain ⟨hD, hD7, hY, hY8, hC, hC8, hL, hL4, hW, hW20⟩ := id hI
  refine Ei.of (by decide) (Nat.le_of_ble_eq_true rfl) ?_
  show Z _ 0 [(0, .ref 57)] _ _ _ _
  refine z_iconst 0 dX7_softYards_0 (by decide) ?_
  refine z_istore_n (lv' := [(1, .int 0), (0, .ref 57)]) dX7_softYards_1 rfl (Nat.le_of_ble_eq_true rfl) rfl ?_
  refine z_iconst 0 dX7_softYards_2 (by decide) ?_
  refine z_istore_n (lv' := [(2, .int 0), (1, .int 0), (0, .ref 57)]) dX7_softYards_3 rfl (Nat.le_of_ble_eq_true rfl) rfl ?_
  have loop4 : ∀ (n : Nat) (k : Nat) (s : Int32), k + n = Y → rsoft m Y = sfold (fun k s => s ||| ((if ¬ wt m 0 0 (Int32.ofNat k) = 0 then 0 else 1) <<< (Int32.ofNat k &&& 31))) n k s → Z (zMB (Qi (rsoft m Y) (m)) 1 MX7_softYards) 4 [(0, .ref 57), (1, .int s), (2, .int (Int32.ofNat k))] [] (hp m) 0 0 := by
    intro n
    induction n with
    | zero =>
      intro k s hk hr
      refine z_iload_n 2 dX7_softYards_4 rfl rfl ?_
      refine z_aload_n 0 dX7_softYards_5 rfl rfl ?_
      refine y_getR fX7_36 dX7_softYards_6 rfl rfl ?_
      refine z_iconst 0 dX7_softYards_9 (by decide) ?_
      refine y_ald (N := 0) dX7_softYards_10 rfl rfl (by decide) ?_
      refine z_icmp_ge 42 dX7_softYards_11 (by decide) (fun c_1 => ?_) (fun c_1 => ?_)
      · refine z_iload_n 1 dX7_softYards_42 rfl rfl ?_
        exact y_iret dX7_softYards_43 rfl hr.symm rfl
      · exact (dz rfl hY (by omega) (by omega) c_1).elim
    | succ n ih4 =>
      intro k s hk hr
      refine z_iload_n 2 dX7_softYards_4 rfl rfl ?_
      refine z_aload_n 0 dX7_softYards_5 rfl rfl ?_
      refine y_getR fX7_36 dX7_softYards_6 rfl rfl ?_
      refine z_iconst 0 dX7_softYards_9 (by decide) ?_
      refine y_ald (N := 0) dX7_softYards_10 rfl rfl (by decide) ?_
      refine z_icmp_ge 42 dX7_softYards_11 (by decide) (fun c_2 => ?_) (fun c_2 => ?_)
      · exact (ds rfl hY (by omega) (by omega) c_2).elim
      · refine z_iload_n 1 dX7_softYards_14 rfl rfl ?_
        refine z_aload_n 0 dX7_softYards_15 rfl rfl ?_
        refine y_getR fX7_7 dX7_softYards_16 rfl rfl ?_
        refine z_iload_n 2 dX7_softYards_19 rfl rfl ?_
        refine y_wld (X := 0) (o := 0) (d := Int32.ofNat k) dX7_softYards_20 (wiD (vk (by omega))) (wb (by decide) (vk (by omega)) (by decide)) ?_
        refine z_if_ne 28 dX7_softYards_21 (by decide) (fun c_3 => ?_) (fun c_3 => ?_)
        · refine z_iconst 0 dX7_softYards_28 (by decide) ?_
          refine y_Si [_] _ kX7_157 (c7_one (by first | exact rlf01 _ _ _ | exact roff01 _ _ _ _ _ | decide)) dX7_softYards_29 rfl rfl (Nat.le_of_ble_eq_true rfl) (Nat.le_of_ble_eq_true rfl) ⟨Nat.zero_le _, Nat.zero_le _⟩ ?_
          refine z_iload_n 2 dX7_softYards_32 rfl rfl ?_
          refine z_ishl dX7_softYards_33 ?_
          refine z_ior dX7_softYards_34 ?_
          refine z_topi (fun v_4 e_4 => ?_)
          refine z_istore_n (lv' := [(1, .int v_4), (0, .ref 57), (2, .int (Int32.ofNat k))]) dX7_softYards_35 rfl (Nat.le_of_ble_eq_true rfl) rfl ?_
          obtain ⟨v_5, e_5⟩ : ∃ y : Int32, y = (Int32.ofNat k) + 1 := ⟨_, rfl⟩
          refine z_iinc (lv' := [(2, .int v_5), (1, .int v_4), (0, .ref 57)]) 2 v_5 dX7_softYards_36 rfl (by rw [e_5]; rfl) (Nat.le_of_ble_eq_true rfl) rfl ?_
          refine z_goto 4 dX7_softYards_39 (by decide) ?_
          obtain rfl : v_5 = Int32.ofNat (k + 1) := e_5.trans (nat_succ k)
          refine z_sub [2,1,0] rfl ?_
          exact ih4 (k + 1) _ (by omega) (hr.trans (congrArg (sfold _ n (k + 1)) (by simp [c_2, c_3, e_4])))
        · refine z_iconst 1 dX7_softYards_24 (by decide) ?_
          refine z_goto 29 dX7_softYards_25 (by decide) ?_
          refine y_Si [_] _ kX7_157 (c7_one (by first | exact rlf01 _ _ _ | exact roff01 _ _ _ _ _ | decide)) dX7_softYards_29 rfl rfl (Nat.le_of_ble_eq_true rfl) (Nat.le_of_ble_eq_true rfl) ⟨Nat.zero_le _, Nat.zero_le _⟩ ?_
          refine z_iload_n 2 dX7_softYards_32 rfl rfl ?_
          refine z_ishl dX7_softYards_33 ?_
          refine z_ior dX7_softYards_34 ?_
          refine z_topi (fun v_6 e_6 => ?_)
          refine z_istore_n (lv' := [(1, .int v_6), (0, .ref 57), (2, .int (Int32.ofNat k))]) dX7_softYards_35 rfl (Nat.le_of_ble_eq_true rfl) rfl ?_
          obtain ⟨v_7, e_7⟩ : ∃ y : Int32, y = (Int32.ofNat k) + 1 := ⟨_, rfl⟩
          refine z_iinc (lv' := [(2, .int v_7), (1, .int v_6), (0, .ref 57)]) 2 v_7 dX7_softYards_36 rfl (by rw [e_7]; rfl) (Nat.le_of_ble_eq_true rfl) rfl ?_
          refine z_goto 4 dX7_softYards_39 (by decide) ?_
          obtain rfl : v_7 = Int32.ofNat (k + 1) := e_7.trans (nat_succ k)
          refine z_sub [2,1,0] rfl ?_
          exact ih4 (k + 1) _ (by omega) (hr.trans (congrArg (sfold _ n (k + 1)) (by simp [c_2, c_3, e_6])))
  refine z_sub [2,1,0] rfl ?_
  exact loop4 (Y) 0 _ (by omega) rfl
set_option maxRecDepth 100000 in
set_option maxHeartbeats 4000000 in
theorem c7_day {m : zmem} {D Y C L W : Nat} (hI : RI m D Y C L W) {h : Int32} : Ei MX7_day 2 [.ref 57, .int h] m ((rk_day m D Y h).1) ((rk_day m D Y h).2) := by
  obtain ⟨hD, hD7, hY, hY8, hC, hC8, hL, hL4, hW, hW20⟩ := id hI
  refine Ei.of (by decide) (Nat.le_of_ble_eq_true rfl) ?_
  show Z _ 0 [(0, .ref 57), (1, .int h)] _ _ _ _
  refine z_iload_n 1 dX7_day_0 rfl rfl ?_
  refine z_i2l dX7_day_1 ?_
  refine z_ldc2 (-9) dX7_day_2 nX7_204 ?_
  refine z_ldc2 9 dX7_day_5 nX7_206 ?_
  refine y_Si [_, _, _] _ kX7_77 (c7_ini (lo := -9) (hi := 9)) dX7_day_8 rfl rfl (Nat.le_of_ble_eq_true rfl) (Nat.le_of_ble_eq_true rfl) ⟨Nat.zero_le _, Nat.zero_le _⟩ ?_
  refine z_if_ne 17 dX7_day_11 (by decide) (fun c_1 => ?_) (fun c_1 => ?_)
  · refine z_aload_n 0 dX7_day_17 rfl rfl ?_
    refine z_iload_n 1 dX7_day_18 rfl rfl ?_
    refine y_V0 [_] _ kX7_208 (c7_pass hI) rfl rfl dX7_day_19 rfl rfl (Nat.le_of_ble_eq_true rfl) (Nat.le_of_ble_eq_true rfl) ⟨Nat.zero_le _, Nat.zero_le _⟩ ?_
    refine z_aload_n 0 dX7_day_22 rfl rfl ?_
    refine y_Vi [] _ kX7_212 (c7_soft (hI.w (W58.ps m D Y h))) rfl rfl dX7_day_23 rfl rfl (Nat.le_of_ble_eq_true rfl) (Nat.le_of_ble_eq_true rfl) ⟨Nat.zero_le _, Nat.zero_le _⟩ ?_
    exact y_iret dX7_day_26 rfl (by simp [rk_day, c_1]) (by simp [rk_day, c_1])
  · refine z_ldc (-1000000002) dX7_day_14 nX7_81 ?_
    exact y_iret dX7_day_16 rfl (by simp [rk_day, c_1]) (by simp [rk_day, c_1])
set_option maxRecDepth 100000 in
set_option maxHeartbeats 4000000 in
theorem c7_draw {m : zmem} {n : Int32} (hn : ¬ n = 0) : Ei MX7_draw 0 [.ref 57, .int n] m (rdv m n) (rdm m) := by
  refine Ei.of (by decide) (Nat.le_of_ble_eq_true rfl) ?_
  show Z _ 0 [(0, .ref 57), (1, .int n)] _ _ _ _
  refine z_aload_n 0 dX7_draw_0 rfl rfl ?_
  refine y_getR fX7_7 dX7_draw_1 rfl rfl ?_
  refine z_bipush 73 dX7_draw_4 (by decide) ?_
  refine z_aload_n 0 dX7_draw_6 rfl rfl ?_
  refine y_getR fX7_7 dX7_draw_7 rfl rfl ?_
  refine z_bipush 73 dX7_draw_10 (by decide) ?_
  refine y_ald (N := 73) dX7_draw_12 rfl rfl (by decide) ?_
  refine z_i2l dX7_draw_13 ?_
  refine z_ldc2 1103515245 dX7_draw_14 nX7_215 ?_
  refine z_lmul dX7_draw_17 ?_
  refine z_ldc2 12345 dX7_draw_18 nX7_217 ?_
  refine z_ladd dX7_draw_21 ?_
  refine z_ldc2 2147483648 dX7_draw_22 nX7_219 ?_
  refine z_lrem dX7_draw_25 (by decide) ?_
  refine z_l2i dX7_draw_26 ?_
  refine y_ast (N := 73) dX7_draw_27 rfl rfl (by decide) ?_
  refine z_aload_n 0 dX7_draw_28 rfl rfl ?_
  refine y_getR fX7_7 dX7_draw_29 rfl rfl ?_
  refine z_bipush 73 dX7_draw_32 (by decide) ?_
  refine y_ald (N := 73) dX7_draw_34 rfl rfl (by decide) ?_
  refine z_ldc 65536 dX7_draw_35 nX7_221 ?_
  refine z_idiv dX7_draw_37 (by decide) ?_
  refine z_iload_n 1 dX7_draw_38 rfl rfl ?_
  refine z_irem dX7_draw_39 hn ?_
  exact y_iret dX7_draw_40 rfl (by simp [rdv, srem, rch, rch0, mset_eq]) (by simp [rdm, rch, rch0])
set_option maxRecDepth 100000 in
set_option maxHeartbeats 4000000 in
theorem c7_gnaw {m : zmem} {D Y C L W : Nat} (hI : RI m D Y C L W) {r : Int32} : E0 MX7_gnaw 1 [.ref 57, .int r] m (rgnaw m D r) := by
  obtain ⟨hD, hD7, hY, hY8, hC, hC8, hL, hL4, hW, hW20⟩ := id hI
  refine E0.of (by decide) (Nat.le_of_ble_eq_true rfl) ?_
  show Z _ 0 [(0, .ref 57), (1, .int r)] _ _ _ _
  refine z_iconst 0 dX7_gnaw_0 (by decide) ?_
  refine z_istore_n (lv' := [(2, .int 0), (0, .ref 57), (1, .int r)]) dX7_gnaw_1 rfl (Nat.le_of_ble_eq_true rfl) rfl ?_
  have loop2 : ∀ (n : Nat) (k : Nat) (mm : zmem), k + n = D → rgnaw m D r = sfold (rgn r) n k mm → W58 m mm → Z (zMB (Q0 (rgnaw m D r)) 1 MX7_gnaw) 2 [(0, .ref 57), (1, .int r), (2, .int (Int32.ofNat k))] [] (hp mm) 0 0 := by
    intro n
    induction n with
    | zero =>
      intro k mm hk hr hw
      refine z_iload_n 2 dX7_gnaw_2 rfl rfl ?_
      refine z_aload_n 0 dX7_gnaw_3 rfl rfl ?_
      refine y_getR fX7_36 dX7_gnaw_4 rfl rfl ?_
      refine z_iconst 1 dX7_gnaw_7 (by decide) ?_
      refine y_ald (N := 1) dX7_gnaw_8 rfl rfl (by decide) ?_
      refine z_icmp_ge 62 dX7_gnaw_9 (by decide) (fun c_1 => ?_) (fun c_1 => ?_)
      · exact y_vret dX7_gnaw_62 rfl hr.symm
      · exact (dz rfl ((hI.w hw).1) (by omega) (by omega) c_1).elim
    | succ n ih2 =>
      intro k mm hk hr hw
      refine z_iload_n 2 dX7_gnaw_2 rfl rfl ?_
      refine z_aload_n 0 dX7_gnaw_3 rfl rfl ?_
      refine y_getR fX7_36 dX7_gnaw_4 rfl rfl ?_
      refine z_iconst 1 dX7_gnaw_7 (by decide) ?_
      refine y_ald (N := 1) dX7_gnaw_8 rfl rfl (by decide) ?_
      refine z_icmp_ge 62 dX7_gnaw_9 (by decide) (fun c_2 => ?_) (fun c_2 => ?_)
      · exact (ds rfl ((hI.w hw).1) (by omega) (by omega) c_2).elim
      · refine z_aload_n 0 dX7_gnaw_12 rfl rfl ?_
        refine z_iconst 0 dX7_gnaw_13 (by decide) ?_
        refine z_iload_n 2 dX7_gnaw_14 rfl rfl ?_
        refine y_Vi [_, _] _ kX7_154 (c7_lf (by decide) (vk (by omega))) rfl rfl dX7_gnaw_15 rfl rfl (Nat.le_of_ble_eq_true rfl) (Nat.le_of_ble_eq_true rfl) ⟨Nat.zero_le _, Nat.zero_le _⟩ ?_
        refine z_if_eq 56 dX7_gnaw_18 (by decide) (fun c_3 => ?_) (fun c_3 => ?_)
        · obtain ⟨v_4, e_4⟩ : ∃ y : Int32, y = (Int32.ofNat k) + 1 := ⟨_, rfl⟩
          refine z_iinc (lv' := [(2, .int v_4), (0, .ref 57), (1, .int r)]) 2 v_4 dX7_gnaw_56 rfl (by rw [e_4]; rfl) (Nat.le_of_ble_eq_true rfl) rfl ?_
          refine z_goto 2 dX7_gnaw_59 (by decide) ?_
          obtain rfl : v_4 = Int32.ofNat (k + 1) := e_4.trans (nat_succ k)
          refine z_sub [1,2,0] rfl ?_
          exact ih2 (k + 1) _ (by omega) (hr.trans (congrArg (sfold _ n (k + 1)) (by simp [rgn, c_2, c_3]))) (by first | exact hw | exact hw.tr (W58.dm _) | exact (hw.tr (W58.dm _)).tr W58.wp)
        · refine z_aload_n 0 dX7_gnaw_21 rfl rfl ?_
          refine z_bipush 10 dX7_gnaw_22 (by decide) ?_
          refine y_Vi [_] _ kX7_222 (c7_draw (by decide)) rfl rfl dX7_gnaw_24 rfl rfl (Nat.le_of_ble_eq_true rfl) (Nat.le_of_ble_eq_true rfl) ⟨Nat.zero_le _, Nat.zero_le _⟩ ?_
          refine z_iload_n 1 dX7_gnaw_27 rfl rfl ?_
          refine z_icmp_ge 56 dX7_gnaw_28 (by decide) (fun c_5 => ?_) (fun c_5 => ?_)
          · obtain ⟨v_6, e_6⟩ : ∃ y : Int32, y = (Int32.ofNat k) + 1 := ⟨_, rfl⟩
            refine z_iinc (lv' := [(2, .int v_6), (0, .ref 57), (1, .int r)]) 2 v_6 dX7_gnaw_56 rfl (by rw [e_6]; rfl) (Nat.le_of_ble_eq_true rfl) rfl ?_
            refine z_goto 2 dX7_gnaw_59 (by decide) ?_
            obtain rfl : v_6 = Int32.ofNat (k + 1) := e_6.trans (nat_succ k)
            refine z_sub [1,2,0] rfl ?_
            exact ih2 (k + 1) _ (by omega) (hr.trans (congrArg (sfold _ n (k + 1)) (by simp [rgn, c_2, c_3, c_5]))) (by first | exact hw | exact hw.tr (W58.dm _) | exact (hw.tr (W58.dm _)).tr W58.wp)
          · refine z_aload_n 0 dX7_gnaw_31 rfl rfl ?_
            refine y_getR fX7_7 dX7_gnaw_32 rfl rfl ?_
            refine z_bipush 32 dX7_gnaw_35 (by decide) ?_
            refine z_iload_n 2 dX7_gnaw_37 rfl rfl ?_
            refine z_iadd dX7_gnaw_38 ?_
            refine y_wld (X := 0) (o := 32) (d := Int32.ofNat k) dX7_gnaw_39 (wiB (vk (by omega))) (wb (by decide) (vk (by omega)) (by decide)) ?_
            refine z_if_le 56 dX7_gnaw_40 (by decide) (fun c_7 => ?_) (fun c_7 => ?_)
            · obtain ⟨v_8, e_8⟩ : ∃ y : Int32, y = (Int32.ofNat k) + 1 := ⟨_, rfl⟩
              refine z_iinc (lv' := [(2, .int v_8), (0, .ref 57), (1, .int r)]) 2 v_8 dX7_gnaw_56 rfl (by rw [e_8]; rfl) (Nat.le_of_ble_eq_true rfl) rfl ?_
              refine z_goto 2 dX7_gnaw_59 (by decide) ?_
              obtain rfl : v_8 = Int32.ofNat (k + 1) := e_8.trans (nat_succ k)
              refine z_sub [1,2,0] rfl ?_
              exact ih2 (k + 1) _ (by omega) (hr.trans (congrArg (sfold _ n (k + 1)) (by simp [rgn, c_2, c_3, c_5, c_7]))) (by first | exact hw | exact hw.tr (W58.dm _) | exact (hw.tr (W58.dm _)).tr W58.wp)
            · refine z_aload_n 0 dX7_gnaw_43 rfl rfl ?_
              refine y_getR fX7_7 dX7_gnaw_44 rfl rfl ?_
              refine z_bipush 32 dX7_gnaw_47 (by decide) ?_
              refine z_iload_n 2 dX7_gnaw_49 rfl rfl ?_
              refine z_iadd dX7_gnaw_50 ?_
              refine z_dup2 dX7_gnaw_51 rfl rfl ?_
              refine y_wld (X := 0) (o := 32) (d := Int32.ofNat k) dX7_gnaw_52 (wiB (vk (by omega))) (wb (by decide) (vk (by omega)) (by decide)) ?_
              refine z_iconst 1 dX7_gnaw_53 (by decide) ?_
              refine z_isub dX7_gnaw_54 ?_
              refine y_wst (X := 0) (o := 32) (d := Int32.ofNat k) dX7_gnaw_55 (wiB (vk (by omega))) (wb (by decide) (vk (by omega)) (by decide)) ?_
              obtain ⟨v_9, e_9⟩ : ∃ y : Int32, y = (Int32.ofNat k) + 1 := ⟨_, rfl⟩
              refine z_iinc (lv' := [(2, .int v_9), (0, .ref 57), (1, .int r)]) 2 v_9 dX7_gnaw_56 rfl (by rw [e_9]; rfl) (Nat.le_of_ble_eq_true rfl) rfl ?_
              refine z_goto 2 dX7_gnaw_59 (by decide) ?_
              obtain rfl : v_9 = Int32.ofNat (k + 1) := e_9.trans (nat_succ k)
              refine z_sub [1,2,0] rfl ?_
              exact ih2 (k + 1) _ (by omega) (hr.trans (congrArg (sfold _ n (k + 1)) (by simp [rgn, c_2, c_3, c_5, c_7]))) (by first | exact hw | exact hw.tr (W58.dm _) | exact (hw.tr (W58.dm _)).tr W58.wp)
  refine z_sub [1,2,0] rfl ?_
  exact loop2 (D) 0 _ (by omega) rfl (W58.rf m)
set_option maxRecDepth 100000 in
set_option maxHeartbeats 4000000 in
theorem c7_rats {m : zmem} {D Y C L W : Nat} (hI : RI m D Y C L W) {n r : Int32} : Ei MX7_rats 2 [.ref 57, .int n, .int r] m ((rk_rats m D n r).1) ((rk_rats m D n r).2) := by
  obtain ⟨hD, hD7, hY, hY8, hC, hC8, hL, hL4, hW, hW20⟩ := id hI
  refine Ei.of (by decide) (Nat.le_of_ble_eq_true rfl) ?_
  show Z _ 0 [(0, .ref 57), (1, .int n), (2, .int r)] _ _ _ _
  refine z_iload_n 1 dX7_rats_0 rfl rfl ?_
  refine z_i2l dX7_rats_1 ?_
  refine z_lconst 1 dX7_rats_2 (by decide) ?_
  refine z_ldc2 99 dX7_rats_3 nX7_196 ?_
  refine y_Si [_, _, _] _ kX7_77 (c7_ini (lo := 1) (hi := 99)) dX7_rats_6 rfl rfl (Nat.le_of_ble_eq_true rfl) (Nat.le_of_ble_eq_true rfl) ⟨Nat.zero_le _, Nat.zero_le _⟩ ?_
  refine z_if_eq 24 dX7_rats_9 (by decide) (fun c_1 => ?_) (fun c_1 => ?_)
  · refine z_ldc (-1000000002) dX7_rats_24 nX7_81 ?_
    exact y_iret dX7_rats_26 rfl (by first | (simp [rk_rats, c_1]; done) | (rw [rk_rats, if_neg c_1, if_neg c_2]; exact hr2.symm)) (by first | (simp [rk_rats, c_1]; done) | (rw [rk_rats, if_neg c_1, if_neg c_2]))
  · refine z_iload_n 2 dX7_rats_12 rfl rfl ?_
    refine z_i2l dX7_rats_13 ?_
    refine z_lconst 0 dX7_rats_14 (by decide) ?_
    refine z_ldc2 10 dX7_rats_15 nX7_225 ?_
    refine y_Si [_, _, _] _ kX7_77 (c7_ini (lo := 0) (hi := 10)) dX7_rats_18 rfl rfl (Nat.le_of_ble_eq_true rfl) (Nat.le_of_ble_eq_true rfl) ⟨Nat.zero_le _, Nat.zero_le _⟩ ?_
    refine z_if_ne 27 dX7_rats_21 (by decide) (fun c_2 => ?_) (fun c_2 => ?_)
    · refine z_iconst 0 dX7_rats_27 (by decide) ?_
      refine z_istore_n (lv' := [(3, .int 0), (0, .ref 57), (1, .int n), (2, .int r)]) dX7_rats_28 rfl (Nat.le_of_ble_eq_true rfl) rfl ?_
      have loop29 : ∀ (q : Nat) (k : Nat) (mm : zmem), k + q = n.toNatClampNeg → n.toNatClampNeg < 100 → rnights m D n r = sfold (fun _ m => rgnaw m D r) q k mm → W58 m mm → Z (zMB (Qi ((rk_rats m D n r).1) ((rk_rats m D n r).2)) 2 MX7_rats) 29 [(0, .ref 57), (1, .int n), (2, .int r), (3, .int (Int32.ofNat k))] [] (hp mm) 0 0 := by
        intro q
        induction q with
        | zero =>
          intro k mm hk hq hr hw
          refine z_iload_n 3 dX7_rats_29 rfl rfl ?_
          refine z_iload_n 1 dX7_rats_30 rfl rfl ?_
          refine z_icmp_ge 45 dX7_rats_31 (by decide) (fun c_3 => ?_) (fun c_3 => ?_)
          · have hw := W58.nights m D n r
            refine z_iconst 0 dX7_rats_45 (by decide) ?_
            refine z_istore_n (lv' := [(3, .int 0), (0, .ref 57), (1, .int n), (2, .int r)]) dX7_rats_46 rfl (Nat.le_of_ble_eq_true rfl) rfl ?_
            refine z_iconst 0 dX7_rats_47 (by decide) ?_
            refine z_istore (lv' := [(4, .int 0), (3, .int 0), (0, .ref 57), (1, .int n), (2, .int r)]) dX7_rats_48 (Nat.le_of_ble_eq_true rfl) rfl ?_
            refine y_mem (m1 := rnights m D n r) hr.symm ?_
            have loop50 : ∀ (q2 : Nat) (j : Nat) (s : Int32), j + q2 = D → rbl (rnights m D n r) D = sfold (rblf (rnights m D n r)) q2 j s → Z (zMB (Qi ((rk_rats m D n r).1) ((rk_rats m D n r).2)) 2 MX7_rats) 50 [(0, .ref 57), (1, .int n), (2, .int r), (3, .int s), (4, .int (Int32.ofNat j))] [] (hp (rnights m D n r)) 0 0 := by
              intro q2
              induction q2 with
              | zero =>
                intro j s hj hr2
                refine z_iload 4 dX7_rats_50 rfl ?_
                refine z_aload_n 0 dX7_rats_52 rfl rfl ?_
                refine y_getR fX7_36 dX7_rats_53 rfl rfl ?_
                refine z_iconst 1 dX7_rats_56 (by decide) ?_
                refine y_ald (N := 1) dX7_rats_57 rfl rfl (by decide) ?_
                refine z_icmp_ge 104 dX7_rats_58 (by decide) (fun c_4 => ?_) (fun c_4 => ?_)
                · refine z_iload_n 3 dX7_rats_104 rfl rfl ?_
                  exact y_iret dX7_rats_105 rfl (by first | (simp [rk_rats, c_1, c_2, c_3, c_4]; done) | (rw [rk_rats, if_neg c_1, if_neg c_2]; exact hr2.symm)) (by first | (simp [rk_rats, c_1, c_2, c_3, c_4]; done) | (rw [rk_rats, if_neg c_1, if_neg c_2]))
                · exact (dz rfl ((hI.w hw).1) (by omega) (by omega) c_4).elim
              | succ q2 ih50 =>
                intro j s hj hr2
                refine z_iload 4 dX7_rats_50 rfl ?_
                refine z_aload_n 0 dX7_rats_52 rfl rfl ?_
                refine y_getR fX7_36 dX7_rats_53 rfl rfl ?_
                refine z_iconst 1 dX7_rats_56 (by decide) ?_
                refine y_ald (N := 1) dX7_rats_57 rfl rfl (by decide) ?_
                refine z_icmp_ge 104 dX7_rats_58 (by decide) (fun c_5 => ?_) (fun c_5 => ?_)
                · exact (ds rfl ((hI.w hw).1) (by omega) (by omega) c_5).elim
                · refine z_iload_n 3 dX7_rats_61 rfl rfl ?_
                  refine z_aload_n 0 dX7_rats_62 rfl rfl ?_
                  refine z_iconst 0 dX7_rats_63 (by decide) ?_
                  refine z_iload 4 dX7_rats_64 rfl ?_
                  refine y_Vi [_, _] _ kX7_154 (c7_lf (by decide) (vk (by omega))) rfl rfl dX7_rats_66 rfl rfl (Nat.le_of_ble_eq_true rfl) (Nat.le_of_ble_eq_true rfl) ⟨Nat.zero_le _, Nat.zero_le _⟩ ?_
                  refine z_if_eq 89 dX7_rats_69 (by decide) (fun c_6 => ?_) (fun c_6 => ?_)
                  · refine z_iconst 0 dX7_rats_89 (by decide) ?_
                    refine y_Si [_] _ kX7_157 (c7_one (by first | exact rlf01 _ _ _ | exact roff01 _ _ _ _ _ | decide)) dX7_rats_90 rfl rfl (Nat.le_of_ble_eq_true rfl) (Nat.le_of_ble_eq_true rfl) ⟨Nat.zero_le _, Nat.zero_le _⟩ ?_
                    refine z_iload 4 dX7_rats_93 rfl ?_
                    refine z_ishl dX7_rats_95 ?_
                    refine z_ior dX7_rats_96 ?_
                    refine z_topi (fun v_7 e_7 => ?_)
                    refine z_istore_n (lv' := [(3, .int v_7), (0, .ref 57), (1, .int n), (2, .int r), (4, .int (Int32.ofNat j))]) dX7_rats_97 rfl (Nat.le_of_ble_eq_true rfl) rfl ?_
                    obtain ⟨v_8, e_8⟩ : ∃ y : Int32, y = (Int32.ofNat j) + 1 := ⟨_, rfl⟩
                    refine z_iinc (lv' := [(4, .int v_8), (3, .int v_7), (0, .ref 57), (1, .int n), (2, .int r)]) 4 v_8 dX7_rats_98 rfl (by rw [e_8]; rfl) (Nat.le_of_ble_eq_true rfl) rfl ?_
                    refine z_goto 50 dX7_rats_101 (by decide) ?_
                    obtain rfl : v_8 = Int32.ofNat (j + 1) := e_8.trans (nat_succ j)
                    refine z_sub [2,3,4,1,0] rfl ?_
                    exact ih50 (j + 1) _ (by omega) (hr2.trans (congrArg (sfold _ q2 (j + 1)) (by simp [rblf, c_5, c_6, e_7])))
                  · refine z_aload_n 0 dX7_rats_72 rfl rfl ?_
                    refine y_getR fX7_7 dX7_rats_73 rfl rfl ?_
                    refine z_bipush 32 dX7_rats_76 (by decide) ?_
                    refine z_iload 4 dX7_rats_78 rfl ?_
                    refine z_iadd dX7_rats_80 ?_
                    refine y_wld (X := 0) (o := 32) (d := Int32.ofNat j) dX7_rats_81 (wiB (vk (by omega))) (wb (by decide) (vk (by omega)) (by decide)) ?_
                    refine z_if_ne 89 dX7_rats_82 (by decide) (fun c_9 => ?_) (fun c_9 => ?_)
                    · refine z_iconst 0 dX7_rats_89 (by decide) ?_
                      refine y_Si [_] _ kX7_157 (c7_one (by first | exact rlf01 _ _ _ | exact roff01 _ _ _ _ _ | decide)) dX7_rats_90 rfl rfl (Nat.le_of_ble_eq_true rfl) (Nat.le_of_ble_eq_true rfl) ⟨Nat.zero_le _, Nat.zero_le _⟩ ?_
                      refine z_iload 4 dX7_rats_93 rfl ?_
                      refine z_ishl dX7_rats_95 ?_
                      refine z_ior dX7_rats_96 ?_
                      refine z_topi (fun v_10 e_10 => ?_)
                      refine z_istore_n (lv' := [(3, .int v_10), (0, .ref 57), (1, .int n), (2, .int r), (4, .int (Int32.ofNat j))]) dX7_rats_97 rfl (Nat.le_of_ble_eq_true rfl) rfl ?_
                      obtain ⟨v_11, e_11⟩ : ∃ y : Int32, y = (Int32.ofNat j) + 1 := ⟨_, rfl⟩
                      refine z_iinc (lv' := [(4, .int v_11), (3, .int v_10), (0, .ref 57), (1, .int n), (2, .int r)]) 4 v_11 dX7_rats_98 rfl (by rw [e_11]; rfl) (Nat.le_of_ble_eq_true rfl) rfl ?_
                      refine z_goto 50 dX7_rats_101 (by decide) ?_
                      obtain rfl : v_11 = Int32.ofNat (j + 1) := e_11.trans (nat_succ j)
                      refine z_sub [2,3,4,1,0] rfl ?_
                      exact ih50 (j + 1) _ (by omega) (hr2.trans (congrArg (sfold _ q2 (j + 1)) (by simp [rblf, c_5, c_6, c_9, e_10])))
                    · refine z_iconst 1 dX7_rats_85 (by decide) ?_
                      refine z_goto 90 dX7_rats_86 (by decide) ?_
                      refine y_Si [_] _ kX7_157 (c7_one (by first | exact rlf01 _ _ _ | exact roff01 _ _ _ _ _ | decide)) dX7_rats_90 rfl rfl (Nat.le_of_ble_eq_true rfl) (Nat.le_of_ble_eq_true rfl) ⟨Nat.zero_le _, Nat.zero_le _⟩ ?_
                      refine z_iload 4 dX7_rats_93 rfl ?_
                      refine z_ishl dX7_rats_95 ?_
                      refine z_ior dX7_rats_96 ?_
                      refine z_topi (fun v_12 e_12 => ?_)
                      refine z_istore_n (lv' := [(3, .int v_12), (0, .ref 57), (1, .int n), (2, .int r), (4, .int (Int32.ofNat j))]) dX7_rats_97 rfl (Nat.le_of_ble_eq_true rfl) rfl ?_
                      obtain ⟨v_13, e_13⟩ : ∃ y : Int32, y = (Int32.ofNat j) + 1 := ⟨_, rfl⟩
                      refine z_iinc (lv' := [(4, .int v_13), (3, .int v_12), (0, .ref 57), (1, .int n), (2, .int r)]) 4 v_13 dX7_rats_98 rfl (by rw [e_13]; rfl) (Nat.le_of_ble_eq_true rfl) rfl ?_
                      refine z_goto 50 dX7_rats_101 (by decide) ?_
                      obtain rfl : v_13 = Int32.ofNat (j + 1) := e_13.trans (nat_succ j)
                      refine z_sub [2,3,4,1,0] rfl ?_
                      exact ih50 (j + 1) _ (by omega) (hr2.trans (congrArg (sfold _ q2 (j + 1)) (by simp [rblf, c_5, c_6, c_9, e_12])))
            refine z_sub [2,3,4,1,0] rfl ?_
            exact loop50 (D) 0 _ (by omega) rfl
          · exact (dz rfl (vp_nn (rini_vp (n := 100) (lo := 1) (hi := 99) (by decide) (by decide) c_1)) (by omega) (by omega) c_3).elim
        | succ q ih29 =>
          intro k mm hk hq hr hw
          refine z_iload_n 3 dX7_rats_29 rfl rfl ?_
          refine z_iload_n 1 dX7_rats_30 rfl rfl ?_
          refine z_icmp_ge 45 dX7_rats_31 (by decide) (fun c_14 => ?_) (fun c_14 => ?_)
          · exact (ds rfl (vp_nn (rini_vp (n := 100) (lo := 1) (hi := 99) (by decide) (by decide) c_1)) (by omega) (by omega) c_14).elim
          · refine z_aload_n 0 dX7_rats_34 rfl rfl ?_
            refine z_iload_n 2 dX7_rats_35 rfl rfl ?_
            refine y_V0 [_] _ kX7_227 (c7_gnaw (hI.w hw)) rfl rfl dX7_rats_36 rfl rfl (Nat.le_of_ble_eq_true rfl) (Nat.le_of_ble_eq_true rfl) ⟨Nat.zero_le _, Nat.zero_le _⟩ ?_
            obtain ⟨v_15, e_15⟩ : ∃ y : Int32, y = (Int32.ofNat k) + 1 := ⟨_, rfl⟩
            refine z_iinc (lv' := [(3, .int v_15), (0, .ref 57), (1, .int n), (2, .int r)]) 3 v_15 dX7_rats_39 rfl (by rw [e_15]; rfl) (Nat.le_of_ble_eq_true rfl) rfl ?_
            refine z_goto 29 dX7_rats_42 (by decide) ?_
            obtain rfl : v_15 = Int32.ofNat (k + 1) := e_15.trans (nat_succ k)
            refine z_sub [1,2,3,0] rfl ?_
            exact ih29 (k + 1) _ (by omega) hq hr (hw.tr (W58.gn _ _ _))
      refine z_sub [1,2,3,0] rfl ?_
      exact loop29 (n.toNatClampNeg) 0 _ (by omega) (vl (rini_vp (n := 100) (lo := 1) (hi := 99) (by decide) (by decide) c_1)) rfl (W58.rf m)
    · refine z_ldc (-1000000002) dX7_rats_24 nX7_81 ?_
      exact y_iret dX7_rats_26 rfl (by first | (simp [rk_rats, c_1, c_2]; done) | (rw [rk_rats, if_neg c_1, if_neg c_2]; exact hr2.symm)) (by first | (simp [rk_rats, c_1, c_2]; done) | (rw [rk_rats, if_neg c_1, if_neg c_2]))
set_option maxRecDepth 100000 in
set_option maxHeartbeats 4000000 in
theorem c7_layIn {m : zmem} {X : Nat} (hX : X ≤ 300) {d i : Int32} (hvd : vp_in d 8) (hvi : vp_in i 8) : Ei MX7_layIn 0 [.ref 57, .int (Int32.ofNat X), .int d, .int i] m (wt m X 0 i + 4) (rlaym m X d i) := by
  refine Ei.of (by decide) (Nat.le_of_ble_eq_true rfl) ?_
  show Z _ 0 [(0, .ref 57), (1, .int (Int32.ofNat X)), (2, .int d), (3, .int i)] _ _ _ _
  refine z_aload_n 0 dX7_layIn_0 rfl rfl ?_
  refine y_getR fX7_7 dX7_layIn_1 rfl rfl ?_
  refine z_iload_n 1 dX7_layIn_4 rfl rfl ?_
  refine z_iload_n 3 dX7_layIn_5 rfl rfl ?_
  refine z_iadd dX7_layIn_6 ?_
  refine y_wld (X := X) (o := 0) (d := i) dX7_layIn_7 (wiC hvi) (wb hX hvi (by decide)) ?_
  refine z_iconst 4 dX7_layIn_8 (by decide) ?_
  refine z_iadd dX7_layIn_9 ?_
  refine z_topi (fun v_1 e_1 => ?_)
  refine z_istore (lv' := [(4, .int v_1), (0, .ref 57), (1, .int (Int32.ofNat X)), (2, .int d), (3, .int i)]) dX7_layIn_10 (Nat.le_of_ble_eq_true rfl) rfl ?_
  refine z_aload_n 1 dX7_layIn_12 rfl rfl ?_
  refine y_getR fX7_7 dX7_layIn_13 rfl rfl ?_
  refine z_iload_n 2 dX7_layIn_16 rfl rfl ?_
  refine z_iload_n 4 dX7_layIn_17 rfl rfl ?_
  refine z_iadd dX7_layIn_18 ?_
  refine z_iconst 0 dX7_layIn_19 (by decide) ?_
  refine y_wst (X := X) (o := 0) (d := i) dX7_layIn_20 (wiC hvi) (wb hX hvi (by decide)) ?_
  refine z_aload_n 1 dX7_layIn_21 rfl rfl ?_
  refine y_getR fX7_7 dX7_layIn_22 rfl rfl ?_
  refine z_iload_n 2 dX7_layIn_25 rfl rfl ?_
  refine z_bipush 40 dX7_layIn_26 (by decide) ?_
  refine z_iadd dX7_layIn_28 ?_
  refine z_iload_n 3 dX7_layIn_29 rfl rfl ?_
  refine z_iadd dX7_layIn_30 ?_
  refine z_iload_n 4 dX7_layIn_31 rfl rfl ?_
  refine y_wst (X := X) (o := 40) (d := d) dX7_layIn_32 (wiA hvd) (wb hX hvd (by decide)) ?_
  refine z_aload_n 1 dX7_layIn_33 rfl rfl ?_
  refine y_getR fX7_7 dX7_layIn_34 rfl rfl ?_
  refine z_iload_n 2 dX7_layIn_37 rfl rfl ?_
  refine z_bipush 72 dX7_layIn_38 (by decide) ?_
  refine z_iadd dX7_layIn_40 ?_
  refine z_dup2 dX7_layIn_41 rfl rfl ?_
  refine y_wld (X := X) (o := 72) (d := 0) dX7_layIn_42 (wiH) (wb hX (vk (k := 0) (by decide)) (by decide)) ?_
  refine z_iload 0 dX7_layIn_43 rfl ?_
  refine z_iadd dX7_layIn_45 ?_
  refine y_wst (X := X) (o := 72) (d := 0) dX7_layIn_46 (wiH) (wb hX (vk (k := 0) (by decide)) (by decide)) ?_
  refine z_iload 0 dX7_layIn_47 rfl ?_
  exact y_iret dX7_layIn_49 rfl (by simp [e_1]) (by simp [rlaym, rlay2, e_1])
set_option maxRecDepth 100000 in
set_option maxHeartbeats 4000000 in
theorem c7_lay {m : zmem} {D Y C L W : Nat} (hI : RI m D Y C L W) {d i : Int32} : Ei MX7_lay 2 [.ref 57, .int d, .int i] m ((rk_lay m D d i).1) ((rk_lay m D d i).2) := by
  obtain ⟨hD, hD7, hY, hY8, hC, hC8, hL, hL4, hW, hW20⟩ := id hI
  refine Ei.of (by decide) (Nat.le_of_ble_eq_true rfl) ?_
  show Z _ 0 [(0, .ref 57), (1, .int d), (2, .int i)] _ _ _ _
  refine z_aload_n 0 dX7_lay_0 rfl rfl ?_
  refine z_iload_n 1 dX7_lay_1 rfl rfl ?_
  refine y_Vi [_] _ kX7_190 (c7_isDead hI) rfl rfl dX7_lay_2 rfl rfl (Nat.le_of_ble_eq_true rfl) (Nat.le_of_ble_eq_true rfl) ⟨Nat.zero_le _, Nat.zero_le _⟩ ?_
  refine z_if_eq 16 dX7_lay_5 (by decide) (fun c_1 => ?_) (fun c_1 => ?_)
  · refine z_ldc (-1000000001) dX7_lay_16 nX7_186 ?_
    exact y_iret dX7_lay_18 rfl (by simp [rk_lay, c_1]) (by simp [rk_lay, c_1])
  · refine z_aload_n 0 dX7_lay_8 rfl rfl ?_
    refine z_iload_n 2 dX7_lay_9 rfl rfl ?_
    refine y_Vi [_] _ kX7_182 (c7_isYard hI) rfl rfl dX7_lay_10 rfl rfl (Nat.le_of_ble_eq_true rfl) (Nat.le_of_ble_eq_true rfl) ⟨Nat.zero_le _, Nat.zero_le _⟩ ?_
    refine z_if_ne 19 dX7_lay_13 (by decide) (fun c_2 => ?_) (fun c_2 => ?_)
    · refine z_aload_n 0 dX7_lay_19 rfl rfl ?_
      refine z_iconst 0 dX7_lay_20 (by decide) ?_
      refine z_iload_n 1 dX7_lay_21 rfl rfl ?_
      refine y_Vi [_, _] _ kX7_154 (c7_lf (X := 0) (by decide) (sin_vp hD (by omega) c_1)) rfl rfl dX7_lay_22 rfl rfl (Nat.le_of_ble_eq_true rfl) (Nat.le_of_ble_eq_true rfl) ⟨Nat.zero_le _, Nat.zero_le _⟩ ?_
      refine z_if_eq 47 dX7_lay_25 (by decide) (fun c_3 => ?_) (fun c_3 => ?_)
      · refine z_ldc (-1000000003) dX7_lay_47 nX7_200 ?_
        exact y_iret dX7_lay_49 rfl (by simp [rk_lay, c_1, c_2, c_3]) (by simp [rk_lay, c_1, c_2, c_3])
      · refine z_aload_n 0 dX7_lay_28 rfl rfl ?_
        refine z_iconst 0 dX7_lay_29 (by decide) ?_
        refine z_iload_n 2 dX7_lay_30 rfl rfl ?_
        refine y_Vi [_, _] _ kX7_187 (c7_who (X := 0) hI (by decide)) rfl rfl dX7_lay_31 rfl rfl (Nat.le_of_ble_eq_true rfl) (Nat.le_of_ble_eq_true rfl) ⟨Nat.zero_le _, Nat.zero_le _⟩ ?_
        refine z_if_ge 47 dX7_lay_34 (by decide) (fun c_4 => ?_) (fun c_4 => ?_)
        · refine z_ldc (-1000000003) dX7_lay_47 nX7_200 ?_
          exact y_iret dX7_lay_49 rfl (by simp [rk_lay, c_1, c_2, c_3, c_4]) (by simp [rk_lay, c_1, c_2, c_3, c_4])
        · refine z_aload_n 0 dX7_lay_37 rfl rfl ?_
          refine z_iconst 0 dX7_lay_38 (by decide) ?_
          refine z_iload_n 1 dX7_lay_39 rfl rfl ?_
          refine z_iload_n 2 dX7_lay_40 rfl rfl ?_
          refine y_Vi [_, _, _] _ kX7_230 (c7_layIn (X := 0) (by decide) (sin_vp hD (by omega) c_1) (sin_vp hY hY8 c_2)) rfl rfl dX7_lay_41 rfl rfl (Nat.le_of_ble_eq_true rfl) (Nat.le_of_ble_eq_true rfl) ⟨Nat.zero_le _, Nat.zero_le _⟩ ?_
          refine z_goto 49 dX7_lay_44 (by decide) ?_
          exact y_iret dX7_lay_49 rfl (by simp [rk_lay, c_1, c_2, c_3, c_4]) (by simp [rk_lay, c_1, c_2, c_3, c_4])
    · refine z_ldc (-1000000001) dX7_lay_16 nX7_186 ?_
      exact y_iret dX7_lay_18 rfl (by simp [rk_lay, c_1, c_2]) (by simp [rk_lay, c_1, c_2])
set_option maxRecDepth 100000 in
set_option maxHeartbeats 4000000 in
theorem c7_least {m : zmem} {D Y C L W : Nat} (hI : RI m D Y C L W)  : Ei MX7_leastSoft 1 [.ref 57] m (rleast m D Y) (m) := by
  obtain ⟨hD, hD7, hY, hY8, hC, hC8, hL, hL4, hW, hW20⟩ := id hI
  refine Ei.of (by decide) (Nat.le_of_ble_eq_true rfl) ?_
  show Z _ 0 [(0, .ref 57)] _ _ _ _
  refine z_iconst 0 dX7_leastSoft_0 (by decide) ?_
  refine z_istore_n (lv' := [(1, .int 0), (0, .ref 57)]) dX7_leastSoft_1 rfl (Nat.le_of_ble_eq_true rfl) rfl ?_
  have loop2 : ∀ (n : Nat) (k : Nat), k + n = Y → rleast m D Y = sfind (fun k => decide (wt m 0 0 (Int32.ofNat k) = 0 ∧ ¬ 0 ≤ rwho m 0 D (Int32.ofNat k))) n k → Z (zMB (Qi (rleast m D Y) (m)) 1 MX7_leastSoft) 2 [(0, .ref 57), (1, .int (Int32.ofNat k))] [] (hp m) 0 0 := by
    intro n
    induction n with
    | zero =>
      intro k hk hr
      refine z_iload_n 1 dX7_leastSoft_2 rfl rfl ?_
      refine z_aload_n 0 dX7_leastSoft_3 rfl rfl ?_
      refine y_getR fX7_36 dX7_leastSoft_4 rfl rfl ?_
      refine z_iconst 0 dX7_leastSoft_7 (by decide) ?_
      refine y_ald (N := 0) dX7_leastSoft_8 rfl rfl (by decide) ?_
      refine z_icmp_ge 38 dX7_leastSoft_9 (by decide) (fun c_1 => ?_) (fun c_1 => ?_)
      · refine z_iconst (-1) dX7_leastSoft_38 (by decide) ?_
        exact y_iret dX7_leastSoft_39 rfl (by first | exact hr.symm | (rw [hr]; simp [sfind, c_1])) rfl
      · exact (dz rfl hY (by omega) (by omega) c_1).elim
    | succ n ih2 =>
      intro k hk hr
      refine z_iload_n 1 dX7_leastSoft_2 rfl rfl ?_
      refine z_aload_n 0 dX7_leastSoft_3 rfl rfl ?_
      refine y_getR fX7_36 dX7_leastSoft_4 rfl rfl ?_
      refine z_iconst 0 dX7_leastSoft_7 (by decide) ?_
      refine y_ald (N := 0) dX7_leastSoft_8 rfl rfl (by decide) ?_
      refine z_icmp_ge 38 dX7_leastSoft_9 (by decide) (fun c_2 => ?_) (fun c_2 => ?_)
      · exact (ds rfl hY (by omega) (by omega) c_2).elim
      · refine z_aload_n 0 dX7_leastSoft_12 rfl rfl ?_
        refine y_getR fX7_7 dX7_leastSoft_13 rfl rfl ?_
        refine z_iload_n 1 dX7_leastSoft_16 rfl rfl ?_
        refine y_wld (X := 0) (o := 0) (d := Int32.ofNat k) dX7_leastSoft_17 (wiD (vk (by omega))) (wb (by decide) (vk (by omega)) (by decide)) ?_
        refine z_if_ne 32 dX7_leastSoft_18 (by decide) (fun c_3 => ?_) (fun c_3 => ?_)
        · obtain ⟨v_4, e_4⟩ : ∃ y : Int32, y = (Int32.ofNat k) + 1 := ⟨_, rfl⟩
          refine z_iinc (lv' := [(1, .int v_4), (0, .ref 57)]) 1 v_4 dX7_leastSoft_32 rfl (by rw [e_4]; rfl) (Nat.le_of_ble_eq_true rfl) rfl ?_
          refine z_goto 2 dX7_leastSoft_35 (by decide) ?_
          obtain rfl : v_4 = Int32.ofNat (k + 1) := e_4.trans (nat_succ k)
          refine z_sub [1,0] rfl ?_
          exact ih2 (k + 1)  (by omega) (hr.trans (by simp [sfind, c_2, c_3]))
        · refine z_aload_n 0 dX7_leastSoft_21 rfl rfl ?_
          refine z_iconst 0 dX7_leastSoft_22 (by decide) ?_
          refine z_iload_n 1 dX7_leastSoft_23 rfl rfl ?_
          refine y_Vi [_, _] _ kX7_187 (c7_who (X := 0) hI (by decide)) rfl rfl dX7_leastSoft_24 rfl rfl (Nat.le_of_ble_eq_true rfl) (Nat.le_of_ble_eq_true rfl) ⟨Nat.zero_le _, Nat.zero_le _⟩ ?_
          refine z_if_ge 32 dX7_leastSoft_27 (by decide) (fun c_5 => ?_) (fun c_5 => ?_)
          · obtain ⟨v_6, e_6⟩ : ∃ y : Int32, y = (Int32.ofNat k) + 1 := ⟨_, rfl⟩
            refine z_iinc (lv' := [(1, .int v_6), (0, .ref 57)]) 1 v_6 dX7_leastSoft_32 rfl (by rw [e_6]; rfl) (Nat.le_of_ble_eq_true rfl) rfl ?_
            refine z_goto 2 dX7_leastSoft_35 (by decide) ?_
            obtain rfl : v_6 = Int32.ofNat (k + 1) := e_6.trans (nat_succ k)
            refine z_sub [1,0] rfl ?_
            exact ih2 (k + 1)  (by omega) (hr.trans (by simp [sfind, c_2, c_3, c_5]))
          · refine z_iload_n 1 dX7_leastSoft_30 rfl rfl ?_
            exact y_iret dX7_leastSoft_31 rfl (by first | exact hr.symm | (rw [hr]; simp [sfind, c_2, c_3, c_5])) rfl
  refine z_sub [1,0] rfl ?_
  exact loop2 (Y) 0  (by omega) rfl
set_option maxRecDepth 100000 in
set_option maxHeartbeats 4000000 in
theorem c7_spring {m : zmem} {D Y C L W : Nat} (hI : RI m D Y C L W) {n k : Int32} : Ei MX7_spring 6 [.ref 57, .int n, .int k] m ((rk_spring m D Y C n k).1) ((rk_spring m D Y C n k).2) := by
  obtain ⟨hD, hD7, hY, hY8, hC, hC8, hL, hL4, hW, hW20⟩ := id hI
  refine Ei.of (by decide) (Nat.le_of_ble_eq_true rfl) ?_
  show Z _ 0 [(0, .ref 57), (1, .int n), (2, .int k)] _ _ _ _
  refine z_iload_n 1 dX7_spring_0 rfl rfl ?_
  refine z_i2l dX7_spring_1 ?_
  refine z_lconst 1 dX7_spring_2 (by decide) ?_
  refine z_ldc2 99 dX7_spring_3 nX7_196 ?_
  refine y_Si [_, _, _] _ kX7_77 (c7_ini (lo := 1) (hi := 99)) dX7_spring_6 rfl rfl (Nat.le_of_ble_eq_true rfl) (Nat.le_of_ble_eq_true rfl) ⟨Nat.zero_le _, Nat.zero_le _⟩ ?_
  refine z_if_eq 24 dX7_spring_9 (by decide) (fun c_1 => ?_) (fun c_1 => ?_)
  · refine z_ldc (-1000000002) dX7_spring_24 nX7_81 ?_
    exact y_iret dX7_spring_26 rfl (by first | (simp [rk_spring, c_1]; done) | (rw [rk_spring, if_neg c_1, if_neg c_2, hr]; rfl)) (by first | (simp [rk_spring, c_1]; done) | (rw [rk_spring, if_neg c_1, if_neg c_2]; exact hr.symm))
  · refine z_iload_n 2 dX7_spring_12 rfl rfl ?_
    refine z_i2l dX7_spring_13 ?_
    refine z_lconst 0 dX7_spring_14 (by decide) ?_
    refine z_ldc2 9 dX7_spring_15 nX7_206 ?_
    refine y_Si [_, _, _] _ kX7_77 (c7_ini (lo := 0) (hi := 9)) dX7_spring_18 rfl rfl (Nat.le_of_ble_eq_true rfl) (Nat.le_of_ble_eq_true rfl) ⟨Nat.zero_le _, Nat.zero_le _⟩ ?_
    refine z_if_ne 27 dX7_spring_21 (by decide) (fun c_2 => ?_) (fun c_2 => ?_)
    · refine z_iconst 0 dX7_spring_27 (by decide) ?_
      refine z_istore_n (lv' := [(3, .int 0), (0, .ref 57), (1, .int n), (2, .int k)]) dX7_spring_28 rfl (Nat.le_of_ble_eq_true rfl) rfl ?_
      have loop29 : ∀ (q : Nat) (j : Nat) (mm : zmem), j + q = n.toNatClampNeg → n.toNatClampNeg < 100 → rsprm m D Y C n k = sfold (rspr D Y C k) q j mm → W58 m mm → Z (zMB (Qi ((rk_spring m D Y C n k).1) ((rk_spring m D Y C n k).2)) 6 MX7_spring) 29 [(0, .ref 57), (1, .int n), (2, .int k), (3, .int (Int32.ofNat j))] [] (hp mm) 0 0 := by
        intro q
        induction q with
        | zero =>
          intro j mm hj hq hr hw
          refine z_iload_n 3 dX7_spring_29 rfl rfl ?_
          refine z_iload_n 1 dX7_spring_30 rfl rfl ?_
          refine z_icmp_ge 115 dX7_spring_31 (by decide) (fun c_3 => ?_) (fun c_3 => ?_)
          · refine z_aload_n 0 dX7_spring_115 rfl rfl ?_
            refine z_iconst 0 dX7_spring_116 (by decide) ?_
            refine y_Vi [_] _ kX7_179 (c7_laid (X := 0) (hI.w hw) (by decide)) rfl rfl dX7_spring_117 rfl rfl (Nat.le_of_ble_eq_true rfl) (Nat.le_of_ble_eq_true rfl) ⟨Nat.zero_le _, Nat.zero_le _⟩ ?_
            refine y_Si [_] _ kX7_236 c7_ones dX7_spring_120 rfl rfl (Nat.le_of_ble_eq_true rfl) (Nat.le_of_ble_eq_true rfl) ⟨Nat.zero_le _, Nat.zero_le _⟩ ?_
            exact y_iret dX7_spring_123 rfl (by first | (simp [rk_spring, c_1, c_2, c_3]; done) | (rw [rk_spring, if_neg c_1, if_neg c_2, hr]; rfl)) (by first | (simp [rk_spring, c_1, c_2, c_3]; done) | (rw [rk_spring, if_neg c_1, if_neg c_2]; exact hr.symm))
          · exact (dz rfl (vp_nn (rini_vp (n := 100) (lo := 1) (hi := 99) (by decide) (by decide) c_1)) (by omega) (by omega) c_3).elim
        | succ q ih29 =>
          intro j mm hj hq hr hw
          refine z_iload_n 3 dX7_spring_29 rfl rfl ?_
          refine z_iload_n 1 dX7_spring_30 rfl rfl ?_
          refine z_icmp_ge 115 dX7_spring_31 (by decide) (fun c_4 => ?_) (fun c_4 => ?_)
          · exact (ds rfl (vp_nn (rini_vp (n := 100) (lo := 1) (hi := 99) (by decide) (by decide) c_1)) (by omega) (by omega) c_4).elim
          · refine z_aload_n 0 dX7_spring_34 rfl rfl ?_
            refine z_bipush 12 dX7_spring_35 (by decide) ?_
            refine y_Vi [_] _ kX7_222 (c7_draw (by decide)) rfl rfl dX7_spring_37 rfl rfl (Nat.le_of_ble_eq_true rfl) (Nat.le_of_ble_eq_true rfl) ⟨Nat.zero_le _, Nat.zero_le _⟩ ?_
            refine z_iconst 3 dX7_spring_40 (by decide) ?_
            refine z_isub dX7_spring_41 ?_
            refine z_itop (y := (rdv mm 12 - 3)) rfl ?_
            refine z_istore (lv' := [(4, .int (rdv mm 12 - 3)), (0, .ref 57), (1, .int n), (2, .int k), (3, .int (Int32.ofNat j))]) dX7_spring_42 (Nat.le_of_ble_eq_true rfl) rfl ?_
            refine z_aload_n 1 dX7_spring_44 rfl rfl ?_
            refine z_iload 0 dX7_spring_45 rfl ?_
            refine y_V0 [_] _ kX7_208 (c7_pass ((hI.w hw).w (W58.dm _))) rfl rfl dX7_spring_47 rfl rfl (Nat.le_of_ble_eq_true rfl) (Nat.le_of_ble_eq_true rfl) ⟨Nat.zero_le _, Nat.zero_le _⟩ ?_
            refine z_aload_n 1 dX7_spring_50 rfl rfl ?_
            refine z_iconst 2 dX7_spring_51 (by decide) ?_
            refine y_V0 [_] _ kX7_227 (c7_gnaw (((hI.w hw).w (W58.dm _)).w (W58.ps _ _ _ _))) rfl rfl dX7_spring_52 rfl rfl (Nat.le_of_ble_eq_true rfl) (Nat.le_of_ble_eq_true rfl) ⟨Nat.zero_le _, Nat.zero_le _⟩ ?_
            refine y_mem (m1 := rspr1 mm D Y) (by simp [rspr1, *]) ?_
            refine z_iconst 0 dX7_spring_55 (by decide) ?_
            refine z_istore (lv' := [(5, .int 0), (4, .int (rdv mm 12 - 3)), (0, .ref 57), (1, .int n), (2, .int k), (3, .int (Int32.ofNat j))]) dX7_spring_56 (Nat.le_of_ble_eq_true rfl) rfl ?_
            have loop58 : ∀ (q2 : Nat) (j2 : Nat) (mm2 : zmem) (hh : Int32), j2 + q2 = k.toNatClampNeg → k.toNatClampNeg < 10 → rspr D Y C k j mm = sfold (rspd D Y C) q2 j2 mm2 → W58 m mm2 → Z (zMB (Qi ((rk_spring m D Y C n k).1) ((rk_spring m D Y C n k).2)) 6 MX7_spring) 58 [(0, .ref 57), (1, .int n), (2, .int k), (3, .int (Int32.ofNat j)), (4, .int hh), (5, .int (Int32.ofNat j2))] [] (hp mm2) 0 0 := by
              intro q2
              induction q2 with
              | zero =>
                intro j2 mm2 hh hj2 hq2 hr2 hw2
                refine z_iload 5 dX7_spring_58 rfl ?_
                refine z_iload_n 2 dX7_spring_60 rfl rfl ?_
                refine z_icmp_ge 109 dX7_spring_61 (by decide) (fun c_5 => ?_) (fun c_5 => ?_)
                · obtain ⟨v_6, e_6⟩ : ∃ y : Int32, y = (Int32.ofNat j) + 1 := ⟨_, rfl⟩
                  refine z_iinc (lv' := [(3, .int v_6), (0, .ref 57), (1, .int n), (2, .int k), (4, .int hh), (5, .int (Int32.ofNat j2))]) 3 v_6 dX7_spring_109 rfl (by rw [e_6]; rfl) (Nat.le_of_ble_eq_true rfl) rfl ?_
                  refine z_goto 29 dX7_spring_112 (by decide) ?_
                  obtain rfl : v_6 = Int32.ofNat (j + 1) := e_6.trans (nat_succ j)
                  refine z_sub [1,2,3,0] rfl ?_
                  exact ih29 (j + 1) _ (by omega) hq (hr.trans (congrArg (sfold _ q (j + 1)) (hr2.trans rfl))) (hw2)
                · exact (dz rfl (vp_nn (rini_vp (n := 10) (lo := 0) (hi := 9) (by decide) (by decide) c_2)) (by omega) (by omega) c_5).elim
              | succ q2 ih58 =>
                intro j2 mm2 hh hj2 hq2 hr2 hw2
                refine z_iload 5 dX7_spring_58 rfl ?_
                refine z_iload_n 2 dX7_spring_60 rfl rfl ?_
                refine z_icmp_ge 109 dX7_spring_61 (by decide) (fun c_7 => ?_) (fun c_7 => ?_)
                · exact (ds rfl (vp_nn (rini_vp (n := 10) (lo := 0) (hi := 9) (by decide) (by decide) c_2)) (by omega) (by omega) c_7).elim
                · refine z_aload_n 0 dX7_spring_64 rfl rfl ?_
                  refine z_iconst 0 dX7_spring_65 (by decide) ?_
                  refine z_iconst 0 dX7_spring_66 (by decide) ?_
                  refine y_Vi [_, _] _ kX7_193 (c7_order (X := 0) (hI.w hw2) (by decide)) rfl rfl dX7_spring_67 rfl rfl (Nat.le_of_ble_eq_true rfl) (Nat.le_of_ble_eq_true rfl) ⟨Nat.zero_le _, Nat.zero_le _⟩ ?_
                  refine z_topi (fun v_8 e_8 => ?_)
                  refine z_istore (lv' := [(6, .int v_8), (0, .ref 57), (1, .int n), (2, .int k), (3, .int (Int32.ofNat j)), (4, .int hh), (5, .int (Int32.ofNat j2))]) dX7_spring_70 (Nat.le_of_ble_eq_true rfl) rfl ?_
                  refine z_aload_n 1 dX7_spring_72 rfl rfl ?_
                  refine y_Vi [] _ kX7_233 (c7_least (hI.w hw2)) rfl rfl dX7_spring_73 rfl rfl (Nat.le_of_ble_eq_true rfl) (Nat.le_of_ble_eq_true rfl) ⟨Nat.zero_le _, Nat.zero_le _⟩ ?_
                  refine z_topi (fun v_9 e_9 => ?_)
                  refine z_istore (lv' := [(7, .int v_9), (6, .int v_8), (0, .ref 57), (1, .int n), (2, .int k), (3, .int (Int32.ofNat j)), (4, .int hh), (5, .int (Int32.ofNat j2))]) dX7_spring_76 (Nat.le_of_ble_eq_true rfl) rfl ?_
                  refine z_iload 1 dX7_spring_78 rfl ?_
                  refine z_if_lt 88 dX7_spring_80 (by decide) (fun c_10 => ?_) (fun c_10 => ?_)
                  · refine z_iconst 0 dX7_spring_88 (by decide) ?_
                    refine z_goto 101 dX7_spring_89 (by decide) ?_
                    refine z_istore (lv' := [(8, .int 0), (7, .int v_9), (6, .int v_8), (0, .ref 57), (1, .int n), (2, .int k), (3, .int (Int32.ofNat j)), (4, .int hh), (5, .int (Int32.ofNat j2))]) dX7_spring_101 (Nat.le_of_ble_eq_true rfl) rfl ?_
                    obtain ⟨v_11, e_11⟩ : ∃ y : Int32, y = (Int32.ofNat j2) + 1 := ⟨_, rfl⟩
                    refine z_iinc (lv' := [(5, .int v_11), (8, .int 0), (7, .int v_9), (6, .int v_8), (0, .ref 57), (1, .int n), (2, .int k), (3, .int (Int32.ofNat j)), (4, .int hh)]) 8 v_11 dX7_spring_103 rfl (by rw [e_11]; rfl) (Nat.le_of_ble_eq_true rfl) rfl ?_
                    refine z_goto 58 dX7_spring_106 (by decide) ?_
                    obtain rfl : v_11 = Int32.ofNat (j2 + 1) := e_11.trans (nat_succ j2)
                    refine z_sub [4,5,6,7,8,0] rfl ?_
                    exact ih58 (j2 + 1) _ _ (by omega) hq2 (hr2.trans (congrArg (sfold _ q2 (j2 + 1)) (by simp only [rspd, ← e_8, ← e_9]; simp [c_7, c_10]))) (by first | exact hw2 | exact hw2.tr (W58.lay _ _ _ _))
                  · refine z_iload 0 dX7_spring_83 rfl ?_
                    refine z_if_ge 92 dX7_spring_85 (by decide) (fun c_12 => ?_) (fun c_12 => ?_)
                    · refine z_aload_n 2 dX7_spring_92 rfl rfl ?_
                      refine z_iconst 0 dX7_spring_93 (by decide) ?_
                      refine z_iload 1 dX7_spring_94 rfl ?_
                      refine z_iload 0 dX7_spring_96 rfl ?_
                      refine y_Vi [_, _, _] _ kX7_230 (c7_layIn (X := 0) (by decide) (by have h := c_10; rw [e_8] at h ⊢; exact sfind_vp (by decide) _ _ (by omega) h) (by have h := Int32.not_lt.mpr c_12; rw [e_9] at h ⊢; exact sfind_vp (by decide) _ _ (by omega) h)) rfl rfl dX7_spring_98 rfl rfl (Nat.le_of_ble_eq_true rfl) (Nat.le_of_ble_eq_true rfl) ⟨Nat.zero_le _, Nat.zero_le _⟩ ?_
                      refine z_topi (fun v_13 e_13 => ?_)
                      refine z_istore (lv' := [(8, .int v_13), (7, .int v_9), (6, .int v_8), (0, .ref 57), (1, .int n), (2, .int k), (3, .int (Int32.ofNat j)), (4, .int hh), (5, .int (Int32.ofNat j2))]) dX7_spring_101 (Nat.le_of_ble_eq_true rfl) rfl ?_
                      obtain ⟨v_14, e_14⟩ : ∃ y : Int32, y = (Int32.ofNat j2) + 1 := ⟨_, rfl⟩
                      refine z_iinc (lv' := [(5, .int v_14), (8, .int v_13), (7, .int v_9), (6, .int v_8), (0, .ref 57), (1, .int n), (2, .int k), (3, .int (Int32.ofNat j)), (4, .int hh)]) 8 v_14 dX7_spring_103 rfl (by rw [e_14]; rfl) (Nat.le_of_ble_eq_true rfl) rfl ?_
                      refine z_goto 58 dX7_spring_106 (by decide) ?_
                      obtain rfl : v_14 = Int32.ofNat (j2 + 1) := e_14.trans (nat_succ j2)
                      refine z_sub [4,5,6,7,8,0] rfl ?_
                      exact ih58 (j2 + 1) _ _ (by omega) hq2 (hr2.trans (congrArg (sfold _ q2 (j2 + 1)) (by simp only [rspd, ← e_8, ← e_9, ← e_13]; simp [c_7, c_10, c_12]))) (by first | exact hw2 | exact hw2.tr (W58.lay _ _ _ _))
                    · refine z_iconst 0 dX7_spring_88 (by decide) ?_
                      refine z_goto 101 dX7_spring_89 (by decide) ?_
                      refine z_istore (lv' := [(8, .int 0), (7, .int v_9), (6, .int v_8), (0, .ref 57), (1, .int n), (2, .int k), (3, .int (Int32.ofNat j)), (4, .int hh), (5, .int (Int32.ofNat j2))]) dX7_spring_101 (Nat.le_of_ble_eq_true rfl) rfl ?_
                      obtain ⟨v_15, e_15⟩ : ∃ y : Int32, y = (Int32.ofNat j2) + 1 := ⟨_, rfl⟩
                      refine z_iinc (lv' := [(5, .int v_15), (8, .int 0), (7, .int v_9), (6, .int v_8), (0, .ref 57), (1, .int n), (2, .int k), (3, .int (Int32.ofNat j)), (4, .int hh)]) 8 v_15 dX7_spring_103 rfl (by rw [e_15]; rfl) (Nat.le_of_ble_eq_true rfl) rfl ?_
                      refine z_goto 58 dX7_spring_106 (by decide) ?_
                      obtain rfl : v_15 = Int32.ofNat (j2 + 1) := e_15.trans (nat_succ j2)
                      refine z_sub [4,5,6,7,8,0] rfl ?_
                      exact ih58 (j2 + 1) _ _ (by omega) hq2 (hr2.trans (congrArg (sfold _ q2 (j2 + 1)) (by simp only [rspd, ← e_8, ← e_9]; simp [c_7, c_10, c_12]))) (by first | exact hw2 | exact hw2.tr (W58.lay _ _ _ _))
            refine z_sub [2,3,4,5,1,0] rfl ?_
            exact loop58 (k.toNatClampNeg) 0 _ _ (by omega) (vl (rini_vp (n := 10) (lo := 0) (hi := 9) (by decide) (by decide) c_2)) rfl (hw.tr (W58.spr1 _ _ _))
      refine z_sub [1,2,3,0] rfl ?_
      exact loop29 (n.toNatClampNeg) 0 _ (by omega) (vl (rini_vp (n := 100) (lo := 1) (hi := 99) (by decide) (by decide) c_1)) rfl (W58.rf m)
    · refine z_ldc (-1000000002) dX7_spring_24 nX7_81 ?_
      exact y_iret dX7_spring_26 rfl (by first | (simp [rk_spring, c_1, c_2]; done) | (rw [rk_spring, if_neg c_1, if_neg c_2, hr]; rfl)) (by first | (simp [rk_spring, c_1, c_2]; done) | (rw [rk_spring, if_neg c_1, if_neg c_2]; exact hr.symm))
set_option maxRecDepth 100000 in
set_option maxHeartbeats 4000000 in
theorem c7_off {m : zmem} {D Y C L W : Nat} (hI : RI m D Y C L W) {X : Nat} (hX : X ≤ 300) {a b : Int32} (hva : vp_in a 8) (hvb : vp_in b 8) : Ei MX7_offends 2 [.ref 57, .int (Int32.ofNat X), .int b, .int a] m (roff m X C b a) (m) := by
  obtain ⟨hD, hD7, hY, hY8, hC, hC8, hL, hL4, hW, hW20⟩ := id hI
  refine Ei.of (by decide) (Nat.le_of_ble_eq_true rfl) ?_
  show Z _ 0 [(0, .ref 57), (1, .int (Int32.ofNat X)), (2, .int b), (3, .int a)] _ _ _ _
  refine z_iload_n 3 dX7_offends_0 rfl rfl ?_
  refine z_iload_n 2 dX7_offends_1 rfl rfl ?_
  refine z_icmp_eq 72 dX7_offends_2 (by decide) (fun c_1 => ?_) (fun c_1 => ?_)
  · refine z_iconst 0 dX7_offends_72 (by decide) ?_
    exact y_zret dX7_offends_73 rfl (by simp) (by simp [roff, c_1]) rfl
  · refine z_aload_n 0 dX7_offends_5 rfl rfl ?_
    refine y_getR fX7_7 dX7_offends_6 rfl rfl ?_
    refine z_iload_n 1 dX7_offends_9 rfl rfl ?_
    refine z_bipush 40 dX7_offends_10 (by decide) ?_
    refine z_iadd dX7_offends_12 ?_
    refine z_iload_n 3 dX7_offends_13 rfl rfl ?_
    refine z_iadd dX7_offends_14 ?_
    refine y_wld (X := X) (o := 40) (d := a) dX7_offends_15 (wiA hva) (wb hX hva (by decide)) ?_
    refine z_if_lt 72 dX7_offends_16 (by decide) (fun c_2 => ?_) (fun c_2 => ?_)
    · refine z_iconst 0 dX7_offends_72 (by decide) ?_
      exact y_zret dX7_offends_73 rfl (by simp) (by simp [roff, c_1, c_2]) rfl
    · refine z_aload_n 0 dX7_offends_19 rfl rfl ?_
      refine y_getR fX7_7 dX7_offends_20 rfl rfl ?_
      refine z_iload_n 1 dX7_offends_23 rfl rfl ?_
      refine z_bipush 40 dX7_offends_24 (by decide) ?_
      refine z_iadd dX7_offends_26 ?_
      refine z_iload_n 2 dX7_offends_27 rfl rfl ?_
      refine z_iadd dX7_offends_28 ?_
      refine y_wld (X := X) (o := 40) (d := b) dX7_offends_29 (wiA hvb) (wb hX hvb (by decide)) ?_
      refine z_if_lt 72 dX7_offends_30 (by decide) (fun c_3 => ?_) (fun c_3 => ?_)
      · refine z_iconst 0 dX7_offends_72 (by decide) ?_
        exact y_zret dX7_offends_73 rfl (by simp) (by simp [roff, c_1, c_2, c_3]) rfl
      · refine z_aload_n 0 dX7_offends_33 rfl rfl ?_
        refine z_iload_n 1 dX7_offends_34 rfl rfl ?_
        refine z_iload_n 3 dX7_offends_35 rfl rfl ?_
        refine z_iload_n 2 dX7_offends_36 rfl rfl ?_
        refine y_Vi [_, _, _] _ kX7_165 (c7_abc hI hX hva hvb) rfl rfl dX7_offends_37 rfl rfl (Nat.le_of_ble_eq_true rfl) (Nat.le_of_ble_eq_true rfl) ⟨Nat.zero_le _, Nat.zero_le _⟩ ?_
        refine z_if_eq 72 dX7_offends_40 (by decide) (fun c_4 => ?_) (fun c_4 => ?_)
        · refine z_iconst 0 dX7_offends_72 (by decide) ?_
          exact y_zret dX7_offends_73 rfl (by simp) (by simp [roff, c_1, c_2, c_3, c_4]) rfl
        · refine z_aload_n 0 dX7_offends_43 rfl rfl ?_
          refine y_getR fX7_7 dX7_offends_44 rfl rfl ?_
          refine z_iload_n 1 dX7_offends_47 rfl rfl ?_
          refine z_bipush 40 dX7_offends_48 (by decide) ?_
          refine z_iadd dX7_offends_50 ?_
          refine z_iload_n 2 dX7_offends_51 rfl rfl ?_
          refine z_iadd dX7_offends_52 ?_
          refine y_wld (X := X) (o := 40) (d := b) dX7_offends_53 (wiA hvb) (wb hX hvb (by decide)) ?_
          refine z_aload_n 0 dX7_offends_54 rfl rfl ?_
          refine y_getR fX7_7 dX7_offends_55 rfl rfl ?_
          refine z_iload_n 1 dX7_offends_58 rfl rfl ?_
          refine z_bipush 40 dX7_offends_59 (by decide) ?_
          refine z_iadd dX7_offends_61 ?_
          refine z_iload_n 3 dX7_offends_62 rfl rfl ?_
          refine z_iadd dX7_offends_63 ?_
          refine y_wld (X := X) (o := 40) (d := a) dX7_offends_64 (wiA hva) (wb hX hva (by decide)) ?_
          refine z_icmp_ge 72 dX7_offends_65 (by decide) (fun c_5 => ?_) (fun c_5 => ?_)
          · refine z_iconst 0 dX7_offends_72 (by decide) ?_
            exact y_zret dX7_offends_73 rfl (by simp) (by simp [roff, c_1, c_2, c_3, c_4, c_5]) rfl
          · refine z_iconst 1 dX7_offends_68 (by decide) ?_
            refine z_goto 73 dX7_offends_69 (by decide) ?_
            exact y_zret dX7_offends_73 rfl (by simp) (by simp [roff, c_1, c_2, c_3, c_4, c_5]) rfl
set_option maxRecDepth 100000 in
set_option maxHeartbeats 4000000 in
theorem c7_offended {m : zmem} {D Y C L W : Nat} (hI : RI m D Y C L W) {d : Int32} : Ei MX7_offended 3 [.ref 57, .int d] m (rk_offended m D C d) (m) := by
  obtain ⟨hD, hD7, hY, hY8, hC, hC8, hL, hL4, hW, hW20⟩ := id hI
  refine Ei.of (by decide) (Nat.le_of_ble_eq_true rfl) ?_
  show Z _ 0 [(0, .ref 57), (1, .int d)] _ _ _ _
  refine z_aload_n 0 dX7_offended_0 rfl rfl ?_
  refine z_iload_n 1 dX7_offended_1 rfl rfl ?_
  refine y_Vi [_] _ kX7_190 (c7_isDead hI) rfl rfl dX7_offended_2 rfl rfl (Nat.le_of_ble_eq_true rfl) (Nat.le_of_ble_eq_true rfl) ⟨Nat.zero_le _, Nat.zero_le _⟩ ?_
  refine z_if_ne 11 dX7_offended_5 (by decide) (fun c_1 => ?_) (fun c_1 => ?_)
  · refine z_aload_n 0 dX7_offended_11 rfl rfl ?_
    refine y_getR fX7_7 dX7_offended_12 rfl rfl ?_
    refine z_bipush 40 dX7_offended_15 (by decide) ?_
    refine z_iload_n 1 dX7_offended_17 rfl rfl ?_
    refine z_iadd dX7_offended_18 ?_
    refine y_wld (X := 0) (o := 40) (d := d) dX7_offended_19 (wiB (sin_vp hD (by omega) c_1)) (wb (by decide) (sin_vp hD (by omega) c_1) (by decide)) ?_
    refine z_if_ge 26 dX7_offended_20 (by decide) (fun c_2 => ?_) (fun c_2 => ?_)
    · refine z_iconst 0 dX7_offended_26 (by decide) ?_
      refine z_istore_n (lv' := [(2, .int 0), (0, .ref 57), (1, .int d)]) dX7_offended_27 rfl (Nat.le_of_ble_eq_true rfl) rfl ?_
      refine z_iconst 0 dX7_offended_28 (by decide) ?_
      refine z_istore_n (lv' := [(3, .int 0), (2, .int 0), (0, .ref 57), (1, .int d)]) dX7_offended_29 rfl (Nat.le_of_ble_eq_true rfl) rfl ?_
      have loop30 : ∀ (n : Nat) (k : Nat) (s : Int32), k + n = D → roffs m D C d = sfold (fun k s => s ||| (roff m 0 C (Int32.ofNat k) d <<< (Int32.ofNat k &&& 31))) n k s → Z (zMB (Qi (rk_offended m D C d) (m)) 3 MX7_offended) 30 [(0, .ref 57), (1, .int d), (2, .int s), (3, .int (Int32.ofNat k))] [] (hp m) 0 0 := by
        intro n
        induction n with
        | zero =>
          intro k s hk hr
          refine z_iload_n 3 dX7_offended_30 rfl rfl ?_
          refine z_aload_n 0 dX7_offended_31 rfl rfl ?_
          refine y_getR fX7_36 dX7_offended_32 rfl rfl ?_
          refine z_iconst 1 dX7_offended_35 (by decide) ?_
          refine y_ald (N := 1) dX7_offended_36 rfl rfl (by decide) ?_
          refine z_icmp_ge 61 dX7_offended_37 (by decide) (fun c_3 => ?_) (fun c_3 => ?_)
          · refine z_iload_n 2 dX7_offended_61 rfl rfl ?_
            exact y_iret dX7_offended_62 rfl (by first | (simp [rk_offended, c_1, c_2, c_3]; done) | (rw [rk_offended, if_neg c_1, if_neg (Int32.not_lt.mpr c_2)]; exact hr.symm)) rfl
          · exact (dz rfl hD (by omega) (by omega) c_3).elim
        | succ n ih30 =>
          intro k s hk hr
          refine z_iload_n 3 dX7_offended_30 rfl rfl ?_
          refine z_aload_n 0 dX7_offended_31 rfl rfl ?_
          refine y_getR fX7_36 dX7_offended_32 rfl rfl ?_
          refine z_iconst 1 dX7_offended_35 (by decide) ?_
          refine y_ald (N := 1) dX7_offended_36 rfl rfl (by decide) ?_
          refine z_icmp_ge 61 dX7_offended_37 (by decide) (fun c_4 => ?_) (fun c_4 => ?_)
          · exact (ds rfl hD (by omega) (by omega) c_4).elim
          · refine z_iload_n 2 dX7_offended_40 rfl rfl ?_
            refine z_aload_n 0 dX7_offended_41 rfl rfl ?_
            refine z_iconst 0 dX7_offended_42 (by decide) ?_
            refine z_iload_n 3 dX7_offended_43 rfl rfl ?_
            refine z_iload_n 1 dX7_offended_44 rfl rfl ?_
            refine y_Vi [_, _, _] _ kX7_239 (c7_off (X := 0) hI (by decide) (sin_vp hD (by omega) c_1) (vk (by omega))) rfl rfl dX7_offended_45 rfl rfl (Nat.le_of_ble_eq_true rfl) (Nat.le_of_ble_eq_true rfl) ⟨Nat.zero_le _, Nat.zero_le _⟩ ?_
            refine y_Si [_] _ kX7_157 (c7_one (by first | exact rlf01 _ _ _ | exact roff01 _ _ _ _ _ | decide)) dX7_offended_48 rfl rfl (Nat.le_of_ble_eq_true rfl) (Nat.le_of_ble_eq_true rfl) ⟨Nat.zero_le _, Nat.zero_le _⟩ ?_
            refine z_iload_n 3 dX7_offended_51 rfl rfl ?_
            refine z_ishl dX7_offended_52 ?_
            refine z_ior dX7_offended_53 ?_
            refine z_topi (fun v_5 e_5 => ?_)
            refine z_istore_n (lv' := [(2, .int v_5), (0, .ref 57), (1, .int d), (3, .int (Int32.ofNat k))]) dX7_offended_54 rfl (Nat.le_of_ble_eq_true rfl) rfl ?_
            obtain ⟨v_6, e_6⟩ : ∃ y : Int32, y = (Int32.ofNat k) + 1 := ⟨_, rfl⟩
            refine z_iinc (lv' := [(3, .int v_6), (2, .int v_5), (0, .ref 57), (1, .int d)]) 3 v_6 dX7_offended_55 rfl (by rw [e_6]; rfl) (Nat.le_of_ble_eq_true rfl) rfl ?_
            refine z_goto 30 dX7_offended_58 (by decide) ?_
            obtain rfl : v_6 = Int32.ofNat (k + 1) := e_6.trans (nat_succ k)
            refine z_sub [2,3,1,0] rfl ?_
            exact ih30 (k + 1) _ (by omega) (hr.trans (congrArg (sfold _ n (k + 1)) (by simp [c_4, e_5])))
      refine z_sub [2,3,1,0] rfl ?_
      exact loop30 (D) 0 _ (by omega) rfl
    · refine z_ldc (-1000000003) dX7_offended_23 nX7_200 ?_
      exact y_iret dX7_offended_25 rfl (by first | (simp [rk_offended, c_1, c_2]; done) | (rw [rk_offended, if_neg c_1, if_neg (Int32.not_lt.mpr c_2)]; exact hr.symm)) rfl
  · refine z_ldc (-1000000001) dX7_offended_8 nX7_186 ?_
    exact y_iret dX7_offended_10 rfl (by first | (simp [rk_offended, c_1]; done) | (rw [rk_offended, if_neg c_1, if_neg (Int32.not_lt.mpr c_2)]; exact hr.symm)) rfl
set_option maxRecDepth 100000 in
set_option maxHeartbeats 4000000 in
theorem c7_quar {m : zmem} {D Y C L W : Nat} (hI : RI m D Y C L W) {X : Nat} (hX : X ≤ 300) : Ei MX7_quarrelsIn 3 [.ref 57, .int (Int32.ofNat X)] m (rquar m X C D) (m) := by
  obtain ⟨hD, hD7, hY, hY8, hC, hC8, hL, hL4, hW, hW20⟩ := id hI
  refine Ei.of (by decide) (Nat.le_of_ble_eq_true rfl) ?_
  show Z _ 0 [(0, .ref 57), (1, .int (Int32.ofNat X))] _ _ _ _
  refine z_iconst 0 dX7_quarrelsIn_0 (by decide) ?_
  refine z_istore_n (lv' := [(2, .int 0), (0, .ref 57), (1, .int (Int32.ofNat X))]) dX7_quarrelsIn_1 rfl (Nat.le_of_ble_eq_true rfl) rfl ?_
  refine z_iconst 0 dX7_quarrelsIn_2 (by decide) ?_
  refine z_istore_n (lv' := [(3, .int 0), (2, .int 0), (0, .ref 57), (1, .int (Int32.ofNat X))]) dX7_quarrelsIn_3 rfl (Nat.le_of_ble_eq_true rfl) rfl ?_
  have loop4 : ∀ (n : Nat) (k : Nat) (s : Int32), k + n = D → rquar m X C D = sfold (rqa m X C D) n k s → Z (zMB (Qi (rquar m X C D) (m)) 3 MX7_quarrelsIn) 4 [(0, .ref 57), (1, .int (Int32.ofNat X)), (2, .int s), (3, .int (Int32.ofNat k))] [] (hp m) 0 0 := by
    intro n
    induction n with
    | zero =>
      intro k s hk hr
      refine z_iload_n 3 dX7_quarrelsIn_4 rfl rfl ?_
      refine z_aload_n 0 dX7_quarrelsIn_5 rfl rfl ?_
      refine y_getR fX7_36 dX7_quarrelsIn_6 rfl rfl ?_
      refine z_iconst 1 dX7_quarrelsIn_9 (by decide) ?_
      refine y_ald (N := 1) dX7_quarrelsIn_10 rfl rfl (by decide) ?_
      refine z_icmp_ge 157 dX7_quarrelsIn_11 (by decide) (fun c_1 => ?_) (fun c_1 => ?_)
      · refine z_iload_n 2 dX7_quarrelsIn_157 rfl rfl ?_
        exact y_iret dX7_quarrelsIn_158 rfl hr.symm rfl
      · exact (dz rfl hD (by omega) (by omega) c_1).elim
    | succ n ih4 =>
      intro k s hk hr
      refine z_iload_n 3 dX7_quarrelsIn_4 rfl rfl ?_
      refine z_aload_n 0 dX7_quarrelsIn_5 rfl rfl ?_
      refine y_getR fX7_36 dX7_quarrelsIn_6 rfl rfl ?_
      refine z_iconst 1 dX7_quarrelsIn_9 (by decide) ?_
      refine y_ald (N := 1) dX7_quarrelsIn_10 rfl rfl (by decide) ?_
      refine z_icmp_ge 157 dX7_quarrelsIn_11 (by decide) (fun c_2 => ?_) (fun c_2 => ?_)
      · exact (ds rfl hD (by omega) (by omega) c_2).elim
      · refine z_iconst 0 dX7_quarrelsIn_14 (by decide) ?_
        refine z_istore (lv' := [(4, .int 0), (0, .ref 57), (1, .int (Int32.ofNat X)), (2, .int s), (3, .int (Int32.ofNat k))]) dX7_quarrelsIn_15 (Nat.le_of_ble_eq_true rfl) rfl ?_
        have loop17 : ∀ (q : Nat) (j : Nat) (t : Int32), j + q = D → rqa m X C D k s = sfold (rqab m X C k) q j t → Z (zMB (Qi (rquar m X C D) (m)) 3 MX7_quarrelsIn) 17 [(0, .ref 57), (1, .int (Int32.ofNat X)), (2, .int t), (3, .int (Int32.ofNat k)), (4, .int (Int32.ofNat j))] [] (hp m) 0 0 := by
          intro q
          induction q with
          | zero =>
            intro j t hj hr2
            refine z_iload 4 dX7_quarrelsIn_17 rfl ?_
            refine z_aload_n 0 dX7_quarrelsIn_19 rfl rfl ?_
            refine y_getR fX7_36 dX7_quarrelsIn_20 rfl rfl ?_
            refine z_iconst 1 dX7_quarrelsIn_23 (by decide) ?_
            refine y_ald (N := 1) dX7_quarrelsIn_24 rfl rfl (by decide) ?_
            refine z_icmp_ge 151 dX7_quarrelsIn_25 (by decide) (fun c_3 => ?_) (fun c_3 => ?_)
            · obtain ⟨v_4, e_4⟩ : ∃ y : Int32, y = (Int32.ofNat k) + 1 := ⟨_, rfl⟩
              refine z_iinc (lv' := [(3, .int v_4), (0, .ref 57), (1, .int (Int32.ofNat X)), (2, .int t), (4, .int (Int32.ofNat j))]) 3 v_4 dX7_quarrelsIn_151 rfl (by rw [e_4]; rfl) (Nat.le_of_ble_eq_true rfl) rfl ?_
              refine z_goto 4 dX7_quarrelsIn_154 (by decide) ?_
              obtain rfl : v_4 = Int32.ofNat (k + 1) := e_4.trans (nat_succ k)
              refine z_sub [1,2,3,0] rfl ?_
              exact ih4 (k + 1) _ (by omega) (hr.trans (congrArg (sfold _ n (k + 1)) hr2))
            · exact (dz rfl hD (by omega) (by omega) c_3).elim
          | succ q ih17 =>
            intro j t hj hr2
            refine z_iload 4 dX7_quarrelsIn_17 rfl ?_
            refine z_aload_n 0 dX7_quarrelsIn_19 rfl rfl ?_
            refine y_getR fX7_36 dX7_quarrelsIn_20 rfl rfl ?_
            refine z_iconst 1 dX7_quarrelsIn_23 (by decide) ?_
            refine y_ald (N := 1) dX7_quarrelsIn_24 rfl rfl (by decide) ?_
            refine z_icmp_ge 151 dX7_quarrelsIn_25 (by decide) (fun c_5 => ?_) (fun c_5 => ?_)
            · exact (ds rfl hD (by omega) (by omega) c_5).elim
            · have join101 : ∀ (ap : Int32), ap = rap m X k j → Z (zMB (Qi (rquar m X C D) (m)) 3 MX7_quarrelsIn) 101 [(0, .ref 57), (1, .int (Int32.ofNat X)), (2, .int t), (3, .int (Int32.ofNat k)), (4, .int (Int32.ofNat j)), (5, .int ap)] [] (hp m) 0 0 := by
                intro ap hap
                refine z_iload_n 2 dX7_quarrelsIn_101 rfl rfl ?_
                refine z_aload_n 0 dX7_quarrelsIn_102 rfl rfl ?_
                refine z_iload_n 1 dX7_quarrelsIn_103 rfl rfl ?_
                refine z_iload 4 dX7_quarrelsIn_104 rfl ?_
                refine z_iload_n 3 dX7_quarrelsIn_106 rfl rfl ?_
                refine y_Vi [_, _, _] _ kX7_239 (c7_off hI hX (vk (by omega)) (vk (by omega))) rfl rfl dX7_quarrelsIn_107 rfl rfl (Nat.le_of_ble_eq_true rfl) (Nat.le_of_ble_eq_true rfl) ⟨Nat.zero_le _, Nat.zero_le _⟩ ?_
                refine y_Si [_] _ kX7_157 (c7_one (by first | exact rlf01 _ _ _ | exact roff01 _ _ _ _ _ | decide)) dX7_quarrelsIn_110 rfl rfl (Nat.le_of_ble_eq_true rfl) (Nat.le_of_ble_eq_true rfl) ⟨Nat.zero_le _, Nat.zero_le _⟩ ?_
                refine z_iload 5 dX7_quarrelsIn_113 rfl ?_
                refine z_if_eq 138 dX7_quarrelsIn_115 (by decide) (fun c_6 => ?_) (fun c_6 => ?_)
                · refine z_iconst 0 dX7_quarrelsIn_138 (by decide) ?_
                  refine y_Si [_] _ kX7_157 (c7_one (by first | exact rlf01 _ _ _ | exact roff01 _ _ _ _ _ | decide)) dX7_quarrelsIn_139 rfl rfl (Nat.le_of_ble_eq_true rfl) (Nat.le_of_ble_eq_true rfl) ⟨Nat.zero_le _, Nat.zero_le _⟩ ?_
                  refine z_iadd dX7_quarrelsIn_142 ?_
                  refine z_iadd dX7_quarrelsIn_143 ?_
                  refine z_topi (fun v_7 e_7 => ?_)
                  refine z_istore_n (lv' := [(2, .int v_7), (0, .ref 57), (1, .int (Int32.ofNat X)), (3, .int (Int32.ofNat k)), (4, .int (Int32.ofNat j)), (5, .int ap)]) dX7_quarrelsIn_144 rfl (Nat.le_of_ble_eq_true rfl) rfl ?_
                  obtain ⟨v_8, e_8⟩ : ∃ y : Int32, y = (Int32.ofNat j) + 1 := ⟨_, rfl⟩
                  refine z_iinc (lv' := [(4, .int v_8), (2, .int v_7), (0, .ref 57), (1, .int (Int32.ofNat X)), (3, .int (Int32.ofNat k)), (5, .int ap)]) 4 v_8 dX7_quarrelsIn_145 rfl (by rw [e_8]; rfl) (Nat.le_of_ble_eq_true rfl) rfl ?_
                  refine z_goto 17 dX7_quarrelsIn_148 (by decide) ?_
                  obtain rfl : v_8 = Int32.ofNat (j + 1) := e_8.trans (nat_succ j)
                  refine z_sub [2,3,1,4,0] rfl ?_
                  exact ih17 (j + 1) _ (by omega) (hr2.trans (congrArg (sfold _ q (j + 1)) (by simp [rqab, ← hap, c_5, c_6, e_7])))
                · refine z_aload_n 0 dX7_quarrelsIn_118 rfl rfl ?_
                  refine y_getR fX7_33 dX7_quarrelsIn_119 rfl rfl ?_
                  refine z_iload_n 3 dX7_quarrelsIn_122 rfl rfl ?_
                  refine y_ald (N := k) dX7_quarrelsIn_123 rfl rfl (by omega) ?_
                  refine z_aload_n 0 dX7_quarrelsIn_124 rfl rfl ?_
                  refine y_getR fX7_33 dX7_quarrelsIn_125 rfl rfl ?_
                  refine z_iload 4 dX7_quarrelsIn_128 rfl ?_
                  refine y_ald (N := j) dX7_quarrelsIn_130 rfl rfl (by omega) ?_
                  refine z_icmp_ne 138 dX7_quarrelsIn_131 (by decide) (fun c_9 => ?_) (fun c_9 => ?_)
                  · refine z_iconst 0 dX7_quarrelsIn_138 (by decide) ?_
                    refine y_Si [_] _ kX7_157 (c7_one (by first | exact rlf01 _ _ _ | exact roff01 _ _ _ _ _ | decide)) dX7_quarrelsIn_139 rfl rfl (Nat.le_of_ble_eq_true rfl) (Nat.le_of_ble_eq_true rfl) ⟨Nat.zero_le _, Nat.zero_le _⟩ ?_
                    refine z_iadd dX7_quarrelsIn_142 ?_
                    refine z_iadd dX7_quarrelsIn_143 ?_
                    refine z_topi (fun v_10 e_10 => ?_)
                    refine z_istore_n (lv' := [(2, .int v_10), (0, .ref 57), (1, .int (Int32.ofNat X)), (3, .int (Int32.ofNat k)), (4, .int (Int32.ofNat j)), (5, .int ap)]) dX7_quarrelsIn_144 rfl (Nat.le_of_ble_eq_true rfl) rfl ?_
                    obtain ⟨v_11, e_11⟩ : ∃ y : Int32, y = (Int32.ofNat j) + 1 := ⟨_, rfl⟩
                    refine z_iinc (lv' := [(4, .int v_11), (2, .int v_10), (0, .ref 57), (1, .int (Int32.ofNat X)), (3, .int (Int32.ofNat k)), (5, .int ap)]) 4 v_11 dX7_quarrelsIn_145 rfl (by rw [e_11]; rfl) (Nat.le_of_ble_eq_true rfl) rfl ?_
                    refine z_goto 17 dX7_quarrelsIn_148 (by decide) ?_
                    obtain rfl : v_11 = Int32.ofNat (j + 1) := e_11.trans (nat_succ j)
                    refine z_sub [2,3,1,4,0] rfl ?_
                    exact ih17 (j + 1) _ (by omega) (hr2.trans (congrArg (sfold _ q (j + 1)) (by simp [rqab, ← hap, c_5, c_6, c_9, e_10])))
                  · refine z_iconst 1 dX7_quarrelsIn_134 (by decide) ?_
                    refine z_goto 139 dX7_quarrelsIn_135 (by decide) ?_
                    refine y_Si [_] _ kX7_157 (c7_one (by first | exact rlf01 _ _ _ | exact roff01 _ _ _ _ _ | decide)) dX7_quarrelsIn_139 rfl rfl (Nat.le_of_ble_eq_true rfl) (Nat.le_of_ble_eq_true rfl) ⟨Nat.zero_le _, Nat.zero_le _⟩ ?_
                    refine z_iadd dX7_quarrelsIn_142 ?_
                    refine z_iadd dX7_quarrelsIn_143 ?_
                    refine z_topi (fun v_12 e_12 => ?_)
                    refine z_istore_n (lv' := [(2, .int v_12), (0, .ref 57), (1, .int (Int32.ofNat X)), (3, .int (Int32.ofNat k)), (4, .int (Int32.ofNat j)), (5, .int ap)]) dX7_quarrelsIn_144 rfl (Nat.le_of_ble_eq_true rfl) rfl ?_
                    obtain ⟨v_13, e_13⟩ : ∃ y : Int32, y = (Int32.ofNat j) + 1 := ⟨_, rfl⟩
                    refine z_iinc (lv' := [(4, .int v_13), (2, .int v_12), (0, .ref 57), (1, .int (Int32.ofNat X)), (3, .int (Int32.ofNat k)), (5, .int ap)]) 4 v_13 dX7_quarrelsIn_145 rfl (by rw [e_13]; rfl) (Nat.le_of_ble_eq_true rfl) rfl ?_
                    refine z_goto 17 dX7_quarrelsIn_148 (by decide) ?_
                    obtain rfl : v_13 = Int32.ofNat (j + 1) := e_13.trans (nat_succ j)
                    refine z_sub [2,3,1,4,0] rfl ?_
                    exact ih17 (j + 1) _ (by omega) (hr2.trans (congrArg (sfold _ q (j + 1)) (by simp [rqab, ← hap, c_5, c_6, c_9, e_12])))
              refine z_iload_n 3 dX7_quarrelsIn_28 rfl rfl ?_
              refine z_iload 4 dX7_quarrelsIn_29 rfl ?_
              refine z_icmp_ge 98 dX7_quarrelsIn_31 (by decide) (fun c_14 => ?_) (fun c_14 => ?_)
              · refine z_iconst 0 dX7_quarrelsIn_98 (by decide) ?_
                refine z_istore (lv' := [(5, .int 0), (0, .ref 57), (1, .int (Int32.ofNat X)), (2, .int t), (3, .int (Int32.ofNat k)), (4, .int (Int32.ofNat j))]) dX7_quarrelsIn_99 (Nat.le_of_ble_eq_true rfl) rfl ?_
                refine z_sub [1,2,3,4,5,0] rfl ?_
                exact join101 _ (by simp [rap, c_2, c_5, c_14])
              · refine z_aload_n 0 dX7_quarrelsIn_34 rfl rfl ?_
                refine y_getR fX7_7 dX7_quarrelsIn_35 rfl rfl ?_
                refine z_iload_n 1 dX7_quarrelsIn_38 rfl rfl ?_
                refine z_bipush 40 dX7_quarrelsIn_39 (by decide) ?_
                refine z_iadd dX7_quarrelsIn_41 ?_
                refine z_iload_n 3 dX7_quarrelsIn_42 rfl rfl ?_
                refine z_iadd dX7_quarrelsIn_43 ?_
                refine y_wld (X := X) (o := 40) (d := Int32.ofNat k) dX7_quarrelsIn_44 (wiA (vk (by omega))) (wb hX (vk (by omega)) (by decide)) ?_
                refine z_if_lt 98 dX7_quarrelsIn_45 (by decide) (fun c_15 => ?_) (fun c_15 => ?_)
                · refine z_iconst 0 dX7_quarrelsIn_98 (by decide) ?_
                  refine z_istore (lv' := [(5, .int 0), (0, .ref 57), (1, .int (Int32.ofNat X)), (2, .int t), (3, .int (Int32.ofNat k)), (4, .int (Int32.ofNat j))]) dX7_quarrelsIn_99 (Nat.le_of_ble_eq_true rfl) rfl ?_
                  refine z_sub [1,2,3,4,5,0] rfl ?_
                  exact join101 _ (by simp [rap, c_2, c_5, c_14, c_15])
                · refine z_aload_n 0 dX7_quarrelsIn_48 rfl rfl ?_
                  refine y_getR fX7_7 dX7_quarrelsIn_49 rfl rfl ?_
                  refine z_iload_n 1 dX7_quarrelsIn_52 rfl rfl ?_
                  refine z_bipush 40 dX7_quarrelsIn_53 (by decide) ?_
                  refine z_iadd dX7_quarrelsIn_55 ?_
                  refine z_iload 4 dX7_quarrelsIn_56 rfl ?_
                  refine z_iadd dX7_quarrelsIn_58 ?_
                  refine y_wld (X := X) (o := 40) (d := Int32.ofNat j) dX7_quarrelsIn_59 (wiA (vk (by omega))) (wb hX (vk (by omega)) (by decide)) ?_
                  refine z_if_lt 98 dX7_quarrelsIn_60 (by decide) (fun c_16 => ?_) (fun c_16 => ?_)
                  · refine z_iconst 0 dX7_quarrelsIn_98 (by decide) ?_
                    refine z_istore (lv' := [(5, .int 0), (0, .ref 57), (1, .int (Int32.ofNat X)), (2, .int t), (3, .int (Int32.ofNat k)), (4, .int (Int32.ofNat j))]) dX7_quarrelsIn_99 (Nat.le_of_ble_eq_true rfl) rfl ?_
                    refine z_sub [1,2,3,4,5,0] rfl ?_
                    exact join101 _ (by simp [rap, c_2, c_5, c_14, c_15, c_16])
                  · refine z_aload_n 0 dX7_quarrelsIn_63 rfl rfl ?_
                    refine y_getR fX7_7 dX7_quarrelsIn_64 rfl rfl ?_
                    refine z_iload_n 1 dX7_quarrelsIn_67 rfl rfl ?_
                    refine z_bipush 40 dX7_quarrelsIn_68 (by decide) ?_
                    refine z_iadd dX7_quarrelsIn_70 ?_
                    refine z_iload_n 3 dX7_quarrelsIn_71 rfl rfl ?_
                    refine z_iadd dX7_quarrelsIn_72 ?_
                    refine y_wld (X := X) (o := 40) (d := Int32.ofNat k) dX7_quarrelsIn_73 (wiA (vk (by omega))) (wb hX (vk (by omega)) (by decide)) ?_
                    refine z_aload_n 0 dX7_quarrelsIn_74 rfl rfl ?_
                    refine y_getR fX7_7 dX7_quarrelsIn_75 rfl rfl ?_
                    refine z_iload_n 1 dX7_quarrelsIn_78 rfl rfl ?_
                    refine z_bipush 40 dX7_quarrelsIn_79 (by decide) ?_
                    refine z_iadd dX7_quarrelsIn_81 ?_
                    refine z_iload 4 dX7_quarrelsIn_82 rfl ?_
                    refine z_iadd dX7_quarrelsIn_84 ?_
                    refine y_wld (X := X) (o := 40) (d := Int32.ofNat j) dX7_quarrelsIn_85 (wiA (vk (by omega))) (wb hX (vk (by omega)) (by decide)) ?_
                    refine z_isub dX7_quarrelsIn_86 ?_
                    refine y_Si [_] _ kX7_242 c7_size dX7_quarrelsIn_87 rfl rfl (Nat.le_of_ble_eq_true rfl) (Nat.le_of_ble_eq_true rfl) ⟨Nat.zero_le _, Nat.zero_le _⟩ ?_
                    refine z_iconst 1 dX7_quarrelsIn_90 (by decide) ?_
                    refine z_icmp_eq 98 dX7_quarrelsIn_91 (by decide) (fun c_17 => ?_) (fun c_17 => ?_)
                    · refine z_iconst 0 dX7_quarrelsIn_98 (by decide) ?_
                      refine z_istore (lv' := [(5, .int 0), (0, .ref 57), (1, .int (Int32.ofNat X)), (2, .int t), (3, .int (Int32.ofNat k)), (4, .int (Int32.ofNat j))]) dX7_quarrelsIn_99 (Nat.le_of_ble_eq_true rfl) rfl ?_
                      refine z_sub [1,2,3,4,5,0] rfl ?_
                      exact join101 _ (by simp [rap, c_2, c_5, c_14, c_15, c_16, c_17])
                    · refine z_iconst 1 dX7_quarrelsIn_94 (by decide) ?_
                      refine z_goto 99 dX7_quarrelsIn_95 (by decide) ?_
                      refine z_istore (lv' := [(5, .int 1), (0, .ref 57), (1, .int (Int32.ofNat X)), (2, .int t), (3, .int (Int32.ofNat k)), (4, .int (Int32.ofNat j))]) dX7_quarrelsIn_99 (Nat.le_of_ble_eq_true rfl) rfl ?_
                      refine z_sub [1,2,3,4,5,0] rfl ?_
                      exact join101 _ (by simp [rap, c_2, c_5, c_14, c_15, c_16, c_17])
        refine z_sub [1,2,3,4,0] rfl ?_
        exact loop17 (D) 0 _ (by omega) rfl
  refine z_sub [2,3,1,0] rfl ?_
  exact loop4 (D) 0 _ (by omega) rfl
set_option maxRecDepth 100000 in
set_option maxHeartbeats 4000000 in
theorem c7_quarrels {m : zmem} {D Y C L W : Nat} (hI : RI m D Y C L W)  : Ei MX7_quarrels 4 [.ref 57] m (rquar m 0 C D) (m) := by
  obtain ⟨hD, hD7, hY, hY8, hC, hC8, hL, hL4, hW, hW20⟩ := id hI
  refine Ei.of (by decide) (Nat.le_of_ble_eq_true rfl) ?_
  show Z _ 0 [(0, .ref 57)] _ _ _ _
  refine z_aload_n 0 dX7_quarrels_0 rfl rfl ?_
  refine z_iconst 0 dX7_quarrels_1 (by decide) ?_
  refine y_Vi [_] _ kX7_245 (c7_quar (X := 0) hI (by decide)) rfl rfl dX7_quarrels_2 rfl rfl (Nat.le_of_ble_eq_true rfl) (Nat.le_of_ble_eq_true rfl) ⟨Nat.zero_le _, Nat.zero_le _⟩ ?_
  exact y_iret dX7_quarrels_5 rfl rfl rfl
set_option maxRecDepth 100000 in
set_option maxHeartbeats 4000000 in
theorem c7_copy {m : zmem} {X Y : Nat} (hX : X ≤ 300) (hY : Y ≤ 300) : E0 MX7_copy 0 [.ref 57, .int (Int32.ofNat X), .int (Int32.ofNat Y)] m (rcopy m X Y) := by
  refine E0.of (by decide) (Nat.le_of_ble_eq_true rfl) ?_
  show Z _ 0 [(0, .ref 57), (1, .int (Int32.ofNat X)), (2, .int (Int32.ofNat Y))] _ _ _ _
  refine z_iconst 0 dX7_copy_0 (by decide) ?_
  refine z_istore_n (lv' := [(3, .int 0), (0, .ref 57), (1, .int (Int32.ofNat X)), (2, .int (Int32.ofNat Y))]) dX7_copy_1 rfl (Nat.le_of_ble_eq_true rfl) rfl ?_
  have loop2 : ∀ (n : Nat) (k : Nat) (mm : zmem), k + n = 100 → rcopy m X Y = sfold (rcp X Y) n k mm → Z (zMB (Q0 (rcopy m X Y)) 0 MX7_copy) 2 [(0, .ref 57), (1, .int (Int32.ofNat X)), (2, .int (Int32.ofNat Y)), (3, .int (Int32.ofNat k))] [] (hp mm) 0 0 := by
    intro n
    induction n with
    | zero =>
      intro k mm hk hr
      refine z_iload_n 3 dX7_copy_2 rfl rfl ?_
      refine z_bipush 100 dX7_copy_3 (by decide) ?_
      refine z_icmp_ge 30 dX7_copy_5 (by decide) (fun c_1 => ?_) (fun c_1 => ?_)
      · exact y_vret dX7_copy_30 rfl hr.symm
      · exact (dz rfl (b := 100) (N := 100) rfl (by omega) (by omega) c_1).elim
    | succ n ih2 =>
      intro k mm hk hr
      refine z_iload_n 3 dX7_copy_2 rfl rfl ?_
      refine z_bipush 100 dX7_copy_3 (by decide) ?_
      refine z_icmp_ge 30 dX7_copy_5 (by decide) (fun c_2 => ?_) (fun c_2 => ?_)
      · exact (ds rfl (b := 100) (N := 100) rfl (by omega) (by omega) c_2).elim
      · refine z_aload_n 0 dX7_copy_8 rfl rfl ?_
        refine y_getR fX7_7 dX7_copy_9 rfl rfl ?_
        refine z_iload_n 2 dX7_copy_12 rfl rfl ?_
        refine z_iload_n 3 dX7_copy_13 rfl rfl ?_
        refine z_iadd dX7_copy_14 ?_
        refine z_aload_n 0 dX7_copy_15 rfl rfl ?_
        refine y_getR fX7_7 dX7_copy_16 rfl rfl ?_
        refine z_iload_n 1 dX7_copy_19 rfl rfl ?_
        refine z_iload_n 3 dX7_copy_20 rfl rfl ?_
        refine z_iadd dX7_copy_21 ?_
        refine y_ald (N := X + k) dX7_copy_22 rfl (Int32.ofNat_add X k).symm (by omega) ?_
        refine y_ast (N := Y + k) dX7_copy_23 rfl (Int32.ofNat_add Y k).symm (by omega) ?_
        obtain ⟨v_3, e_3⟩ : ∃ y : Int32, y = (Int32.ofNat k) + 1 := ⟨_, rfl⟩
        refine z_iinc (lv' := [(3, .int v_3), (0, .ref 57), (1, .int (Int32.ofNat X)), (2, .int (Int32.ofNat Y))]) 3 v_3 dX7_copy_24 rfl (by rw [e_3]; rfl) (Nat.le_of_ble_eq_true rfl) rfl ?_
        refine z_goto 2 dX7_copy_27 (by decide) ?_
        obtain rfl : v_3 = Int32.ofNat (k + 1) := e_3.trans (nat_succ k)
        refine z_sub [1,2,3,0] rfl ?_
        exact ih2 (k + 1) _ (by omega) hr
  refine z_sub [1,2,3,0] rfl ?_
  exact loop2 (100) 0 _ (by omega) rfl
set_option maxRecDepth 100000 in
set_option maxHeartbeats 4000000 in
theorem c7_free {m : zmem} {D Y C L W : Nat} (hI : RI m D Y C L W) {i : Int32} (hvi : vp_in i 8) : Ei MX7_isFree 1 [.ref 57, .int i] m (rfree m D i) (m) := by
  obtain ⟨hD, hD7, hY, hY8, hC, hC8, hL, hL4, hW, hW20⟩ := id hI
  refine Ei.of (by decide) (Nat.le_of_ble_eq_true rfl) ?_
  show Z _ 0 [(0, .ref 57), (1, .int i)] _ _ _ _
  refine z_aload_n 0 dX7_isFree_0 rfl rfl ?_
  refine y_getR fX7_7 dX7_isFree_1 rfl rfl ?_
  refine z_iload_n 1 dX7_isFree_4 rfl rfl ?_
  refine y_wld (X := 0) (o := 0) (d := i) dX7_isFree_5 (wiD hvi) (wb (by decide) hvi (by decide)) ?_
  refine z_if_ne 22 dX7_isFree_6 (by decide) (fun c_1 => ?_) (fun c_1 => ?_)
  · refine z_iconst 0 dX7_isFree_22 (by decide) ?_
    exact y_zret dX7_isFree_23 rfl (by simp) (by simp [rfree, c_1]) rfl
  · refine z_aload_n 0 dX7_isFree_9 rfl rfl ?_
    refine z_iconst 0 dX7_isFree_10 (by decide) ?_
    refine z_iload_n 1 dX7_isFree_11 rfl rfl ?_
    refine y_Vi [_, _] _ kX7_187 (c7_who (X := 0) hI (by decide)) rfl rfl dX7_isFree_12 rfl rfl (Nat.le_of_ble_eq_true rfl) (Nat.le_of_ble_eq_true rfl) ⟨Nat.zero_le _, Nat.zero_le _⟩ ?_
    refine z_if_ge 22 dX7_isFree_15 (by decide) (fun c_2 => ?_) (fun c_2 => ?_)
    · refine z_iconst 0 dX7_isFree_22 (by decide) ?_
      exact y_zret dX7_isFree_23 rfl (by simp) (by simp [rfree, c_1, c_2]) rfl
    · refine z_iconst 1 dX7_isFree_18 (by decide) ?_
      refine z_goto 23 dX7_isFree_19 (by decide) ?_
      exact y_zret dX7_isFree_23 rfl (by simp) (by simp [rfree, c_1, c_2]) rfl
