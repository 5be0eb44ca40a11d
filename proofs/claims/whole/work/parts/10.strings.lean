/-! String constants: what length and charAt say -/
section ZS
variable {B : zB} {pc : Nat} {lv : zL} {st : List Value} {h : zH} {ce sl : Nat}
theorem wS_value : Cond.fieldLink RJ0 9 "java/lang/String" "value" "[B" ∈ zT := zt5 (i := 203) (by decide +kernel) rfl
theorem wS_coder : Cond.fieldLink RJ0 15 "java/lang/String" "coder" "B" ∈ zT := zt5 (i := 204) (by decide +kernel) rfl
theorem wS_compact : Cond.fieldLink RJ0 38 "java/lang/String" "COMPACT_STRINGS" "Z" ∈ zT := zt2 (i := 67) (by decide +kernel) rfl
theorem wS_sioobe : Cond.fieldLink RJ0 1053 "jdk/internal/util/Preconditions" "SIOOBE_FORMATTER" "Ljava/util/function/BiFunction;" ∈ zT := zt2 (i := 83) (by decide +kernel) rfl
theorem z_strV {i : Nat} (hi : i < 7) (ho : (zy (zbM B)).cls = RJ0) (hd : decode (zbc B) pc = .ok (.getfield 9, 3)) (kk : Z B (pc + 3) lv (.ref (zE0 + 10 + i) :: st) h ce sl) : Z B pc lv (.ref (zE0 + i) :: st) h ce sl := by
  intro p e R s m args below meth c g Qf hF hO H locs ls hH hS hl0
  obtain ⟨hx, hcd, hml, hown, hts, -, -, -, -, -, -, -, hK, -⟩ := id hO
  exact vk_getf (own := (zy (zbM B)).cls) hx hcd (hK.2.2.2.2.2.1.1 i hi).2.2.1 hS hown (by rw [ho]; exact hts _ wS_value) (fun _ q => q) hd (kk p e R s m args below meth c g Qf hF hO H locs ls hH hS hl0)
theorem z_strC {i : Nat} (hi : i < 7) (ho : (zy (zbM B)).cls = RJ0) (hd : decode (zbc B) pc = .ok (.getfield 15, 3)) (kk : Z B (pc + 3) lv (.int 0 :: st) h ce sl) : Z B pc lv (.ref (zE0 + i) :: st) h ce sl := by
  intro p e R s m args below meth c g Qf hF hO H locs ls hH hS hl0
  obtain ⟨hx, hcd, hml, hown, hts, -, -, -, -, -, -, -, hK, -⟩ := id hO
  exact vk_getf (own := (zy (zbM B)).cls) hx hcd (hK.2.2.2.2.2.1.1 i hi).2.1 hS hown (by rw [ho]; exact hts _ wS_coder) (fun _ q => q) hd (kk p e R s m args below meth c g Qf hF hO H locs ls hH hS hl0)
theorem z_strL {i : Nat} (hi : i < 7) (v : Int32) (hv : Int32.ofNat (zlen.getD i 0) = v) (hd : decode (zbc B) pc = .ok (.arraylength, 1)) (kk : Z B (pc + 1) lv (.int v :: st) h ce sl) : Z B pc lv (.ref (zE0 + 10 + i) :: st) h ce sl := by
  intro p e R s m args below meth c g Qf hF hO H locs ls hH hS hl0
  obtain ⟨hx, hcd, hml, hown, hts, -, -, -, -, -, -, -, hK, -⟩ := id hO
  exact va_tlen hx hcd (hK.2.2.2.2.2.1.1 i hi).2.2.2 hS hv hd (kk p e R s m args below meth c g Qf hF hO H locs ls hH hS hl0)
theorem z_strB {i : Nat} (hi : i < 7) {j : Int32} (hin : vp_in j (zlen.getD i 0)) (hd : decode (zbc B) pc = .ok (.baload, 1)) (kk : Z B (pc + 1) lv (.int ((zbyt.getD i []).getD j.toNatClampNeg 0) :: st) h ce sl) : Z B pc lv (.int j :: .ref (zE0 + 10 + i) :: st) h ce sl := by
  intro p e R s m args below meth c g Qf hF hO H locs ls hH hS hl0
  obtain ⟨hx, hcd, hml, hown, hts, -, -, -, -, -, -, -, hK, -⟩ := id hO
  exact va_tb hx hcd (hK.2.2.2.2.2.1.1 i hi).2.2.2 hS hin rfl hd (kk p e R s m args below meth c g Qf hF hO H locs ls hH hS hl0)
theorem z_compact (ho : (zy (zbM B)).cls = RJ0) (hd : decode (zbc B) pc = .ok (.getstatic 38, 3)) (kk : Z B (pc + 3) lv (.int 1 :: st) h ce sl) : Z B pc lv st h ce sl := by
  intro p e R s m args below meth c g Qf hF hO H locs ls hH hS hl0
  obtain ⟨hx, hcd, hml, hown, hts, -, -, -, -, -, -, -, hK, -⟩ := id hO
  exact va_gets (own := (zy (zbM B)).cls) hx hcd hK.2.2.2.1 hS hown (by rw [ho]; exact hts _ wS_compact) (fun _ q => q) hd (kk p e R s m args below meth c g Qf hF hO H locs ls hH hS hl0)
theorem z_sioobe (ho : (zy (zbM B)).cls = RJ0) (hd : decode (zbc B) pc = .ok (.getstatic 1053, 3)) (k1 : Z B (pc + 3) lv (.null :: st) h ce sl) (k2 : Z B (pc + 3) lv (.ref (zE0 + 20) :: st) h ce sl) : Z B pc lv st h ce sl := by
  intro p e R s m args below meth c g Qf hF hO H locs ls hH hS hl0
  obtain ⟨hx, hcd, hml, hown, hts, -, -, -, -, -, -, -, hK, -⟩ := id hO
  rcases hK.2.2.2.2.1 with hz | hz
  · exact va_gets (own := (zy (zbM B)).cls) hx hcd hz hS hown (by rw [ho]; exact hts _ wS_sioobe) (fun _ q => q) hd (k1 p e R s m args below meth c g Qf hF hO H locs ls hH hS hl0)
  · exact va_gets (own := (zy (zbM B)).cls) hx hcd hz hS hown (by rw [ho]; exact hts _ wS_sioobe) (fun _ q => q) hd (k2 p e R s m args below meth c g Qf hF hO H locs ls hH hS hl0)
/-- a String constant -/
theorem z_ldcS {i idx : Nat} {tx : String} {by_ : List Int32} (hz : zstrs[i]? = some ((zy (zbM B)).cls, idx, tx, by_)) (hd : decode (zbc B) pc = .ok (.ldc idx, 2)) (kk : Z B (pc + 2) lv (.ref (zE0 + i) :: st) h ce sl) : Z B pc lv st h ce sl := by
  intro p e R s m args below meth c g Qf hF hO H locs ls hH hS hl0
  obtain ⟨hx, hcd, hml, hown, hts, -, -, -, -, -, -, -, hK, -⟩ := id hO
  exact va_ldcS hx hcd hown (hK.2.2.2.2.2.2 i _ hz) hd (kk p e R s m args below meth c g Qf hF hO H locs ls hH hS hl0)
/-- a call on a String constant -/
theorem z_callVS {Mj : zM} {d mc ms idx n i : Nat} {Q : Option Value → zH → Prop} (av : List Value) (hi : i < 7) (hw : zCallV (zy (zbM B)).cls idx Mj n) (hcl : (zy Mj).cls = "java/lang/String") (hE : Ev Mj d mc ms (.ref (zE0 + i) :: av) h Q) (hd : decode (zbc B) pc = .ok (.invokevirtual idx, 3)) (hn : av.length = n) (hst : (st.map fun v => v.category).sum ≤ 8) (hD : d + 1 ≤ zbD B) (hc : ce + mc ≤ B.2.2.1) (hs : sl + ms ≤ B.2.2.2.1)
    (k : ∀ (r : Option Value) (h1 : zH), Q r h1 → Z B (pc + 3) lv (r.toList ++ st) h1 (ce + mc) (sl + ms)) : Z B pc lv (av.reverse ++ .ref (zE0 + i) :: st) h ce sl := by
  intro p e R s m args below meth c g Qf hF hO H locs ls hH hS hl0
  obtain ⟨hx, hcd, hml, hown, hts, -, -, -, hf1, hf2, hf3, hf4, hK, -⟩ := id hO
  obtain ⟨⟨w1, w2, hyd, hm, hl⟩, w3, w4⟩ := hw
  have hr : ∃ cell : Cell, H[za g (zE0 + i)]? = some cell ∧ cell.vm.isStatics = false ∧ s.vm.findClass (zy Mj).cls = some cell.cls := by
    rw [hcl]
    exact vk_recv (adK := fun i => za g (zE0 + i)) (i := i) hK.2.2.2.2.2.1 hi hS
  rcases hl with hl | ⟨host, hl⟩
  · have hG : GoodIn zT (wsV (zy (zbM B)).cls idx (zy Mj).cls (zy Mj) (zws Mj)) := fun w hw => by
      rcases List.mem_append.mp hw with hw | hw
      · rcases List.mem_cons.mp hw with rfl | hw
        · exact zG1 hl
        · rcases List.mem_cons.mp hw with rfl | hw
          · exact zG1 w3
          · rcases List.mem_cons.mp hw with rfl | hw
            · exact zG1 w4
            · rw [List.mem_singleton.mp hw]; exact zG1 w2
      · exact zGi w1 w hw
    refine z_run (va_runV (C := (zy Mj).cls) (b := za g (zE0 + i)) (As := av.map (zv g)) (rest := st.map (zv g)) ⟨hx, hcd, hml, hown, hts⟩ (hE g) (cwV n hts hG rfl rfl rfl ⟨rfl, hyd⟩ (z_fit hf1 hf2 hD hm)) ⟨zPz_blind g _ h, hr, zPz_pre (.ref (zE0 + i) :: av) hK hH hS⟩ rfl (by rw [List.length_map]; exact hn) hl0.1 (by simp [zv_ref]) (lv_room (by rw [z_cat]; exact hst)) hd ⟨Nat.le_trans hc hf3, Nat.le_trans hs hf4⟩) hS fun r h1 H1 locs1 hq hO1 hS1 => ?_
    rw [z_ret_list]
    exact k r h1 hq p e R s m args below meth c g Qf hF hO H1 locs1 ls hO1 hS1 hl0
  · refine z_run (va_runVN (C := (zy Mj).cls) (b := za g (zE0 + i)) (As := av.map (zv g)) (rest := st.map (zv g)) ⟨hx, hcd, hml, hown, hts⟩ (hE g) ⟨va_cnB n hts (zGi w1) rfl rfl rfl (hK.2.2.1 _ hl) (hts _ w2) hyd (z_fit hf1 hf2 hD hm), hts _ w3, hts _ w4⟩ ⟨zPz_blind g _ h, hr, zPz_pre (.ref (zE0 + i) :: av) hK hH hS⟩ rfl (by rw [List.length_map]; exact hn) hl0.1 (by simp [zv_ref]) (lv_room (by rw [z_cat]; exact hst)) hd ⟨Nat.le_trans hc hf3, Nat.le_trans hs hf4⟩) hS fun r h1 H1 locs1 hq hO1 hS1 => ?_
    rw [z_ret_list]
    exact k r h1 hq p e R s m args below meth c g Qf hF hO H1 locs1 ls hO1 hS1 hl0
theorem y_VSi {Mj : zM} {d idx n i : Nat} {st0 : List Value} {r : Int32} {m m1 : zmem} (av : List Value) (st : List Value) (hi : i < 7) (hw : zCallV (zy (zbM B)).cls idx Mj n) (hcl : (zy Mj).cls = "java/lang/String") (hE : Ei Mj d (.ref (zE0 + i) :: av) m r m1) (hd : decode (zbc B) pc = .ok (.invokevirtual idx, 3)) (hs0 : st0 = av.reverse ++ .ref (zE0 + i) :: st) (hn : av.length = n) (hst : (st.map fun v => v.category).sum ≤ 8) (hD : d + 1 ≤ zbD B) (hc : ce ≤ B.2.2.1 ∧ sl ≤ B.2.2.2.1) (k : Z B (pc + 3) lv (.int r :: st) (hp m1) ce sl) : Z B pc lv st0 (hp m) ce sl := by
  subst hs0
  exact z_callVS av hi hw hcl hE hd hn hst hD hc.1 hc.2 (fun o h1 hq => yki hq k)
end ZS
section ZYT
variable {M : zM} {D pc : Nat} {lv : zL} {m m1 : zmem}
theorem y_tret {v r : Int32} {ty : FieldType} (hd : decode (zcc M) pc = .ok (.ireturn, 1)) (hr : zrt M = some ty) (hn : narrow ty (.int v) = .int v) (hv : v = r) (hm : m = m1) : Z (zMB (Qi r m1) D M) pc lv [.int v] (hp m) 0 0 := by
  subst hv; subst hm
  intro p e R s mm args below meth c g Qf hF hO H locs ls hH hS hl0
  rw [show Qf = _ from hF]
  have hlocks := hO.2.2.2.2.2.1
  exact W.zret hO.1 hO.2.1 (hO.2.2.2.2.2.2.1.trans hr) hn (fun t ht hW => zQz_of (r := some (.int v)) rfl ⟨rfl, rfl⟩ hH hS ht hW) hS.2.2 hd
end ZYT
theorem c_coder {m : zmem} {i : Nat} (hi : i < 7) : Ei MJ0_coder_7d493 0 [.ref (zE0 + i)] m 0 m := by
  refine Ei.of (by decide) (Nat.le_of_ble_eq_true rfl) ?_
  show Z _ 0 [(0, .ref (zE0 + i))] _ _ _ _
  refine z_compact rfl dJ0_coder_7d493_0 ?_
  refine z_if_eq 13 dJ0_coder_7d493_3 (by decide) (fun c => absurd c (by decide)) (fun _ => ?_)
  refine z_aload_n 0 dJ0_coder_7d493_6 rfl rfl ?_
  refine z_strC hi rfl dJ0_coder_7d493_7 ?_
  refine z_goto 14 dJ0_coder_7d493_10 (by decide) ?_
  exact y_tret dJ0_coder_7d493_14 rfl rfl rfl rfl
theorem c_latin {m : zmem} {i : Nat} (hi : i < 7) : Ei MJ0_isLatin1_aae02 0 [.ref (zE0 + i)] m 1 m := by
  refine Ei.of (by decide) (Nat.le_of_ble_eq_true rfl) ?_
  show Z _ 0 [(0, .ref (zE0 + i))] _ _ _ _
  refine z_compact rfl dJ0_isLatin1_aae02_0 ?_
  refine z_if_eq 17 dJ0_isLatin1_aae02_3 (by decide) (fun c => absurd c (by decide)) (fun _ => ?_)
  refine z_aload_n 0 dJ0_isLatin1_aae02_6 rfl rfl ?_
  refine z_strC hi rfl dJ0_isLatin1_aae02_7 ?_
  refine z_if_ne 17 dJ0_isLatin1_aae02_10 (by decide) (fun c => absurd rfl c) (fun _ => ?_)
  refine z_iconst 1 dJ0_isLatin1_aae02_13 (by decide) ?_
  refine z_goto 18 dJ0_isLatin1_aae02_14 (by decide) ?_
  exact y_tret dJ0_isLatin1_aae02_18 rfl rfl rfl rfl
theorem c_slen {m : zmem} {i : Nat} (hi : i < 7) : Ei MJ0_length_8abf5 1 [.ref (zE0 + i)] m (Int32.ofNat (zlen.getD i 0) >>> (0 &&& 31)) m := by
  refine Ei.of (by decide) (Nat.le_of_ble_eq_true rfl) ?_
  show Z _ 0 [(0, .ref (zE0 + i))] _ _ _ _
  refine z_aload_n 0 dJ0_length_8abf5_0 rfl rfl ?_
  refine z_strV hi rfl dJ0_length_8abf5_1 ?_
  refine z_strL hi _ rfl dJ0_length_8abf5_4 ?_
  refine z_aload_n 0 dJ0_length_8abf5_5 rfl rfl ?_
  refine y_VSi [] _ hi kJ0_335 rfl (c_coder hi) dJ0_length_8abf5_6 rfl rfl (Nat.le_of_ble_eq_true rfl) (Nat.le_of_ble_eq_true rfl) ⟨Nat.zero_le _, Nat.zero_le _⟩ ?_
  refine z_ishr dJ0_length_8abf5_9 ?_
  exact y_iret dJ0_length_8abf5_10 rfl rfl rfl
theorem c_pcheck {m : zmem} {i n : Int32} (v : Value) (hv : v.category = 1) (h1 : ¬ i < 0) (h2 : i < n) : Ei MJ3_checkIndex_8e157 0 [.int i, .int n, v] m i m := by
  refine Ei.of (by decide) (by have e1 : (Value.int i).category = 1 := rfl; have e2 : (Value.int n).category = 1 := rfl; simp only [lg_sl, List.flatMap_cons, List.flatMap_nil, e1, e2, hv]; exact Nat.le_of_ble_eq_true rfl) ?_
  show Z _ 0 [(0, .int i), (1, .int n), (2, v)] _ _ _ _
  refine z_iload_n 0 dJ3_checkIndex_8e157_0 rfl rfl ?_
  refine z_if_lt 9 dJ3_checkIndex_8e157_1 (by decide) (fun c => absurd c h1) (fun _ => ?_)
  refine z_iload_n 0 dJ3_checkIndex_8e157_4 rfl rfl ?_
  refine z_iload_n 1 dJ3_checkIndex_8e157_5 rfl rfl ?_
  refine z_icmp_lt 16 dJ3_checkIndex_8e157_6 (by decide) (fun _ => ?_) (fun c => absurd h2 c)
  refine z_iload_n 0 dJ3_checkIndex_8e157_16 rfl rfl ?_
  exact y_iret dJ3_checkIndex_8e157_17 rfl rfl rfl
theorem c_scheck {m : zmem} {i n : Int32} (h1 : ¬ i < 0) (h2 : i < n) : E0 MJ0_checkIndex_df160 1 [.int i, .int n] m m := by
  refine E0.of (by decide) (Nat.le_of_ble_eq_true rfl) ?_
  show Z _ 0 [(0, .int i), (1, .int n)] _ _ _ _
  refine z_iload_n 0 dJ0_checkIndex_df160_0 rfl rfl ?_
  refine z_iload_n 1 dJ0_checkIndex_df160_1 rfl rfl ?_
  refine z_sioobe rfl dJ0_checkIndex_df160_2 ?_ ?_
  · refine y_Si [.int i, .int n, .null] [] kJ0_1059 (c_pcheck .null rfl h1 h2) dJ0_checkIndex_df160_5 rfl rfl (Nat.le_of_ble_eq_true rfl) (Nat.le_of_ble_eq_true rfl) ⟨Nat.zero_le _, Nat.zero_le _⟩ ?_
    refine z_pop dJ0_checkIndex_df160_8 rfl ?_
    exact y_vret dJ0_checkIndex_df160_9 rfl rfl
  · refine y_Si [.int i, .int n, .ref (zE0 + 20)] [] kJ0_1059 (c_pcheck _ rfl h1 h2) dJ0_checkIndex_df160_5 rfl rfl (Nat.le_of_ble_eq_true rfl) (Nat.le_of_ble_eq_true rfl) ⟨Nat.zero_le _, Nat.zero_le _⟩ ?_
    refine z_pop dJ0_checkIndex_df160_8 rfl ?_
    exact y_vret dJ0_checkIndex_df160_9 rfl rfl
/-- a letter of a String constant -/
def zchr (i : Nat) (j : Int32) : Int32 := ((((zbyt.getD i []).getD j.toNatClampNeg 0) &&& 255).toUInt32 % 65536).toInt32
theorem zchr_char (i : Nat) (j : Int32) : narrow .char (.int (zchr i j)) = .int (zchr i j) := by
  show Value.int _ = Value.int _
  congr 1
  unfold zchr
  generalize (((zbyt.getD i []).getD j.toNatClampNeg 0) &&& 255).toUInt32 = y
  rw [UInt32.toUInt32_toInt32]
  congr 1
  apply UInt32.toNat_inj.mp
  simp
section ZI2
variable {B : zB} {pc : Nat} {lv : zL} {st : List Value} {h : zH} {ce sl : Nat}
theorem z_i2c {x : Int32} (hd : decode (zbc B) pc = .ok (.i2c, 1)) (k : Z B (pc + 1) lv (.int (x.toUInt32 % 65536).toInt32 :: st) h ce sl) : Z B pc lv (.int x :: st) h ce sl := by
  intro p e R s m args below meth c g Qf hF hO H locs ls hH hS hl0
  exact lv_i2c hO.1 hO.2.1 hd rfl (k p e R s m args below meth c g Qf hF hO H locs ls hH hS hl0)
end ZI2
theorem c_sat {m : zmem} {i : Nat} {j : Int32} (hi : i < 7) (h1 : ¬ j < 0) (h2 : j < Int32.ofNat (zlen.getD i 0)) (h3 : vp_in j (zlen.getD i 0)) : Ei MJ0_charAt_5068e 3 [.ref (zE0 + i), .int j] m (zchr i j) m := by
  have c1 : Ei MJ1_charAt_3b067 2 [.ref (zE0 + 10 + i), .int j] m (zchr i j) m := by
    refine Ei.of (by decide) (Nat.le_of_ble_eq_true rfl) ?_
    show Z _ 0 [(0, .ref (zE0 + 10 + i)), (1, .int j)] _ _ _ _
    refine z_iload_n 1 dJ1_charAt_3b067_0 rfl rfl ?_
    refine z_aload_n 0 dJ1_charAt_3b067_1 rfl rfl ?_
    refine z_strL hi _ rfl dJ1_charAt_3b067_2 ?_
    refine y_S0 [_, _] [] kJ1_9 (c_scheck h1 h2) dJ1_charAt_3b067_3 rfl rfl (Nat.le_of_ble_eq_true rfl) (Nat.le_of_ble_eq_true rfl) ⟨Nat.zero_le _, Nat.zero_le _⟩ ?_
    refine z_aload_n 0 dJ1_charAt_3b067_6 rfl rfl ?_
    refine z_iload_n 1 dJ1_charAt_3b067_7 rfl rfl ?_
    refine z_strB hi h3 dJ1_charAt_3b067_8 ?_
    refine z_sipush 255 dJ1_charAt_3b067_9 (by decide) ?_
    refine z_iand dJ1_charAt_3b067_12 ?_
    refine z_i2c dJ1_charAt_3b067_13 ?_
    exact y_tret dJ1_charAt_3b067_14 rfl (zchr_char i j) rfl rfl
  refine Ei.of (by decide) (Nat.le_of_ble_eq_true rfl) ?_
  show Z _ 0 [(0, .ref (zE0 + i)), (1, .int j)] _ _ _ _
  refine z_aload_n 0 dJ0_charAt_5068e_0 rfl rfl ?_
  refine y_VSi [] _ hi kJ0_492 rfl (c_latin hi) dJ0_charAt_5068e_1 rfl rfl (Nat.le_of_ble_eq_true rfl) (Nat.le_of_ble_eq_true rfl) ⟨Nat.zero_le _, Nat.zero_le _⟩ ?_
  refine z_if_eq 16 dJ0_charAt_5068e_4 (by decide) (fun c => absurd c (by decide)) (fun _ => ?_)
  refine z_aload_n 0 dJ0_charAt_5068e_7 rfl rfl ?_
  refine z_strV hi rfl dJ0_charAt_5068e_8 ?_
  refine z_iload_n 1 dJ0_charAt_5068e_11 rfl rfl ?_
  refine y_Si [.ref (zE0 + 10 + i), .int j] [] kJ0_495 c1 dJ0_charAt_5068e_12 rfl rfl (Nat.le_of_ble_eq_true rfl) (Nat.le_of_ble_eq_true rfl) ⟨Nat.zero_le _, Nat.zero_le _⟩ ?_
  exact y_tret dJ0_charAt_5068e_15 rfl (zchr_char i j) rfl rfl
