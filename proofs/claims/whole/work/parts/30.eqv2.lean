/-! names mixed: the calls -/
section MC
variable {V s t : zmem} {M Lb U71 U72 : Nat → Int32} {D A Y C L W : Nat}
theorem names_eq2 (h : RP s t D Y C L W) : (∀ q, q ≠ 56 → swg s D (2 ^ D - 1) q = s q) ∧ EQ2 (swg s D (2 ^ D - 1)) (rnames t D 71) (rnames t D 72) (fun q => t 58 (64 + q)) (fun q => t 58 (56 + q)) D (2 ^ D - 1) ∧ (∀ q, q < D → swg s D (2 ^ D - 1) 16 q = t 58 (64 + q)) ∧ ∀ q, q < D → swg s D (2 ^ D - 1) 15 q = t 58 (56 + q) := by
  have hD := h.hD
  have h2 := two_D hD
  have hp := Nat.two_pow_pos D
  have e0 : aput s 56 128 (Int32.ofNat (2 ^ D - 1)) 0 = mset s 56 (2 ^ D - 1) 0 := aput_k (by omega) (by decide)
  obtain ⟨k1, k2, k3⟩ := swg_key (s := s) hD (2 ^ D - 1) (aput s 56 128 (Int32.ofNat (2 ^ D - 1)) 0) (Nat.le_refl _) (fun q hq => aput_ne hq)
  obtain ⟨r1, r2, r3, r4⟩ := names_at t hD
  refine ⟨k1, ⟨?_, fun i hi => k3 i hi, r2, r3, fun i h1 h2 => r4 i h1 (by omega)⟩, fun q hq => ?_, fun q hq => ?_⟩
  · show sdown (swgo D) (2 ^ D - 1) (aput s 56 128 (Int32.ofNat (2 ^ D - 1)) 0) 56 (2 ^ D - 1) = 0
    rw [k2 _ (Nat.le_refl _), e0, mset_eq]
  · rw [show swg s D (2 ^ D - 1) 16 = s 16 from k1 16 (by decide)]
    have := (h.p.1 9 (Or.inr (Or.inr (Or.inr (Or.inr (Or.inr (Or.inr (Or.inr rfl))))))) q (show q < D from hq)).1
    rw [show (0 + colO 9 + q) = 64 + q by simp [colO]] at this
    exact this
  · rw [show swg s D (2 ^ D - 1) 15 = s 15 from k1 15 (by decide)]
    have := (h.p.1 8 (Or.inr (Or.inr (Or.inr (Or.inr (Or.inr (Or.inr (Or.inl rfl))))))) q (show q < D from hq)).1
    rw [show (0 + colO 8 + q) = 56 + q by simp [colO]] at this
    exact this
/-- the walk of the names, both sides -/
theorem walk_eq {U : zmem} (hD : D ≤ 7) (hA : A = 2 ^ D - 1) (hm : ∀ q, q < D → V 16 q = M q) (hl : ∀ q, q < D → V 15 q = Lb q) (E : EQ2 V (U 71) (U 72) M Lb D A) (u64 : ∀ q, q < D → wt U 0 64 (Int32.ofNat q) = M q) (u56 : ∀ q, q < D → wt U 0 56 (Int32.ofNat q) = Lb q) : ∀ n k i x nm, k + n ≤ D → i ≤ A → pcn i + k = D → ¬ U 71 i = 0 → x = (Int32.ofNat (A - i), nm) → (sfold (fun _ st => (st.1 ||| sbit (snmof V D st.1), snmof V D st.1)) n k x).2 = rmx U D n k (Int32.ofNat i) nm ∧ rmxE U D n k (Int32.ofNat i) := by
  have h2 := two_D hD
  have hp := Nat.two_pow_pos D
  intro n
  induction n with
  | zero => intro k i x nm _ _ _ _ hx; subst hx; exact ⟨rfl, trivial⟩
  | succ n ih =>
    intro k i x nm hk hi hpk hf hx
    subst hx
    have i0 : 0 < i := Nat.pos_of_ne_zero (fun z => by
      have := (pcn_tab 0 (by decide)).2.2.mpr rfl
      rw [z] at hpk
      omega)
    have ne := (nr_all hD hA hm hl E (i + 1) i (by omega) hi)
    obtain ⟨v, c, n1, n2, n3, n4, n5, n6⟩ : ∃ v c, v ≤ pcn i ∧ 1 ≤ c ∧ c ≤ 7 ^ pcn i ∧ V 56 (A - i) = Int32.ofNat v ∧ U 72 i = Int32.ofNat v ∧ U 71 i = Int32.ofNat c := by
      rcases ne.1 with ⟨-, -, z⟩ | z
      · exact absurd z hf
      · exact z
    have ek : D - pcn i = k := by omega
    have pt := pcn_tab i (by omega)
    -- the two tests are one
    have cnd : ∀ j, j < D → snmc V (Int32.ofNat (A - i)) j = rmxc U (Int32.ofNat i) k j := fun j hj => by
      unfold snmc rmxc
      rw [schg_at hD hA hm hl i0 hi hj, aat_k (by omega) (by decide), n4, rhas_bt _ (by omega), rhas_bt _ (by omega), u64 k (by omega), u56 k (by omega), natc (show i < 2147483648 by omega), n5, ek]
      have b99 : ∀ w, w < 9 → ∀ v, v < 8 → ¬ (99 : Int32) = Int32.ofNat v := by decide +kernel
      by_cases m1 : mem i j = true
      · obtain ⟨x1, x2, x3, x4⟩ := (mem_tab i (by omega) j (by omega)).1 m1
        have hpj := Nat.two_pow_pos j
        rw [x2, natc (by omega)]
        have m1' : bt (Int32.ofNat i) j = true := m1
        by_cases m2 : bt (M k) j = true
        · rw [if_pos (show (mem i j && bt (M k) j) = true by rw [m1, m2]; rfl), m1', m2]
          rcases (nr_all hD hA hm hl E (i - 2 ^ j + 1) (i - 2 ^ j) (by omega) (by omega)).1 with ⟨s1, s2, s3⟩ | ⟨v', c', s1, s2, s3, s4, s5, s6⟩
          · rw [s1, s3]
            have : ¬ cst Lb k j + 99 = Int32.ofNat v := by
              have tab : ∀ v, v < 8 → ¬ (0 : Int32) + 99 = Int32.ofNat v ∧ ¬ (1 : Int32) + 99 = Int32.ofNat v := by decide +kernel
              rcases cst01 (Lb := Lb) k j with q | q <;> rw [q]
              · exact (tab v (by omega)).1
              · exact (tab v (by omega)).2
            simp [this]
          · have nz : ¬ U 71 (i - 2 ^ j) = 0 := by
              rw [s6]
              intro q
              have p7 : 7 ^ pcn (i - 2 ^ j) ≤ 7 ^ 7 := Nat.pow_le_pow_right (by decide) (pcn_tab (i - 2 ^ j) (by omega)).2.1
              have e7 : 7 ^ 7 = 823543 := by decide
              have := (n_eq (b := 0) (by omega) (by decide)).mp q
              omega
            rw [s4, s5]
            have cc : (if Lb k = Int32.ofNat j then (0 : Int32) else 1) = cst Lb k j := rfl
            rw [cc, Int32.add_comm (Int32.ofNat v') (cst Lb k j)]
            simp [nz]
        · rw [if_neg (by rw [m1]; simp [m2])]
          have := b99 0 (by decide) v (by omega)
          simp [this, m2]
      · have m1' : ¬ bt (Int32.ofNat i) j = true := m1
        rw [if_neg (by simp [m1])]
        have := b99 0 (by decide) v (by omega)
        simp [this, m1']
    have nme : snmof V D (Int32.ofNat (A - i)) = rmxn U D (Int32.ofNat i) k := by
      unfold snmof rmxn
      exact sfind_congr D 0 (fun j _ hj => cnd j (by omega))
    obtain ⟨j0, hj0, a1, a2, a3⟩ := ne.2 i0 hf
    have hit : ∃ j, j < D ∧ rmxc U (Int32.ofNat i) k j = true := by
      refine ⟨j0, hj0, ?_⟩
      have mm := (Bool.and_eq_true _ _).mp a1
      obtain ⟨x1, x2, -, -⟩ := (mem_tab i (by omega) j0 (by omega)).1 mm.1
      have hpj0 := Nat.two_pow_pos j0
      unfold rmxc
      rw [rhas_bt _ (by omega), rhas_bt _ (by omega), u64 k (by omega), u56 k (by omega), x2, natc (by omega), natc (by omega)]
      have m1' : bt (Int32.ofNat i) j0 = true := mm.1
      have m2 : bt (M k) j0 = true := by rw [← ek]; exact mm.2
      have e3 : U 72 (i - 2 ^ j0) + (if Lb k = Int32.ofNat j0 then (0 : Int32) else 1) = U 72 i := by rw [← ek]; exact a3
      rw [m1', m2, e3]
      simp [a2]
    obtain ⟨j, hj, cj, ej⟩ : ∃ j, j < D ∧ rmxc U (Int32.ofNat i) k j = true ∧ rmxn U D (Int32.ofNat i) k = Int32.ofNat j := by
      have find : ∀ n b, b + n ≤ D → (∃ j, b ≤ j ∧ j < b + n ∧ rmxc U (Int32.ofNat i) k j = true) → ∃ j, j < D ∧ rmxc U (Int32.ofNat i) k j = true ∧ sfind (rmxc U (Int32.ofNat i) k) n b = Int32.ofNat j := by
        intro n
        induction n with
        | zero => intro b _ ⟨j, h1, h2, _⟩; omega
        | succ n ih2 =>
          intro b hb ⟨j, h1, h2, h3⟩
          by_cases z : rmxc U (Int32.ofNat i) k b = true
          · exact ⟨b, by omega, z, if_pos z⟩
          · obtain ⟨j', q1, q2, q3⟩ := ih2 (b + 1) (by omega) ⟨j, by by_cases y : j = b; subst y; exact absurd h3 z; omega, by omega, h3⟩
            exact ⟨j', q1, q2, (if_neg z).trans q3⟩
      obtain ⟨j, hj, cj⟩ := hit
      exact find D 0 (by omega) ⟨j, Nat.zero_le _, by omega, cj⟩
    have cj2 := of_decide_eq_true cj
    rw [rhas_bt _ (show j < 32 by omega)] at cj2
    have mj : mem i j = true := by
      by_cases z : mem i j = true
      · exact z
      · exact absurd (if_neg (show ¬ bt (Int32.ofNat i) j = true from z)) cj2.1
    obtain ⟨x1, x2, x3, x4⟩ := (mem_tab i (by omega) j (by omega)).1 mj
    have hpj := Nat.two_pow_pos j
    have c71 := cj2.2.2.1
    rw [x2, natc (by omega)] at c71
    have es : rmxs (Int32.ofNat i) (Int32.ofNat j) = Int32.ofNat (i - 2 ^ j) := x2
    have mk : mem (A - i) j = false := by
      have f2 := full_t2 D (by omega) i (by omega) j hj
      rw [← hA] at f2
      rw [f2, mj]; rfl
    obtain ⟨-, -, y3⟩ := (mem_tab (A - i) (by omega) j (by omega)).2 mk
    have g := ih (k + 1) (i - 2 ^ j) (Int32.ofNat (A - (i - 2 ^ j)), Int32.ofNat j) (Int32.ofNat j) (by omega) (by omega) (by omega) c71 rfl
    constructor
    · show (sfold _ n (k + 1) (Int32.ofNat (A - i) ||| sbit (snmof V D (Int32.ofNat (A - i))), snmof V D (Int32.ofNat (A - i)))).2 = rmx U D n (k + 1) (rmxs (Int32.ofNat i) (rmxn U D (Int32.ofNat i) k)) (rmxn U D (Int32.ofNat i) k)
      rw [nme, ej, es, y3, show A - i + 2 ^ j = A - (i - 2 ^ j) by omega]
      exact g.1
    · show ¬ rmxn U D (Int32.ofNat i) k = -1 ∧ rmxE U D n (k + 1) (rmxs (Int32.ofNat i) (rmxn U D (Int32.ofNat i) k))
      rw [ej, es]
      refine ⟨?_, g.2⟩
      have tab : ∀ j, j < 7 → ¬ Int32.ofNat j = -1 := by decide +kernel
      exact tab j (by omega)
theorem mixed_E (h : RP s t D Y C L W) {k : Nat} (hk : k < D) (hf : ¬ rnames t D 71 (2 ^ D - 1) = 0) : (snof (swg s D (2 ^ D - 1)) D k).2 = rmx (rnames t D) D (k + 1) 0 (Int32.ofNat (2 ^ D - 1)) 0 ∧ rmxE (rnames t D) D (k + 1) 0 (Int32.ofNat (2 ^ D - 1)) := by
  have hD := h.hD
  have h2 := two_D hD
  have hp := Nat.two_pow_pos D
  obtain ⟨k1, E, hm, hl⟩ := names_eq2 h
  obtain ⟨r1, r2, r3, r4⟩ := names_at t hD
  have u58 : rnames t D 58 = t 58 := r1 58 (by decide) (by decide)
  have pf : pcn (2 ^ D - 1) = D := by
    have f := full_t1 D (by omega) 0 (by omega)
    have := (pcn_tab 0 (by decide)).2.2.mpr rfl
    rw [Nat.sub_zero] at f
    omega
  have rm0 : ∀ n a b, rmx (rnames t D) D (n + 1) 0 (Int32.ofNat (2 ^ D - 1)) a = rmx (rnames t D) D (n + 1) 0 (Int32.ofNat (2 ^ D - 1)) b := fun n a b => rfl
  have w := walk_eq (U := rnames t D) hD rfl hm hl E (fun q hq => by rw [wt_k (by omega), u58, Nat.zero_add]) (fun q hq => by rw [wt_k (by omega), u58, Nat.zero_add]) (k + 1) 0 (2 ^ D - 1) (0, -1) (-1) (by omega) (Nat.le_refl _) (by omega) hf (by rw [Nat.sub_self]; rfl)
  exact ⟨w.1.trans (rm0 k (-1) 0), w.2⟩
theorem S_mixed (h : RP s t D Y C L W) (c : Int32) : SIM s t D Y (sk_mixed s D c) (rk_mixed t D c) := by
  have hD := h.hD
  have hY := h.hY
  have h2 := two_D hD
  have hp := Nat.two_pow_pos D
  obtain ⟨k1, E, hm, hl⟩ := names_eq2 h
  obtain ⟨r1, r2, r3, r4⟩ := names_at t hD
  unfold sk_mixed rk_mixed
  rw [h.sin1]
  by_cases h1 : ¬ c = -1 ∧ sin (s 7 1) c = 0
  · rw [if_pos h1, if_pos h1]; exact SIM.st h rfl
  · rw [if_neg h1, if_neg h1]
    refine ⟨?_, ⟨fun q hq => k1 q (by rintro rfl; cases hq), fun j _ => congrFun (k1 7 (by decide)) j⟩, ⟨fun q hq => r1 q (by rintro rfl; cases hq) (by rintro rfl; cases hq), fun j _ => congrFun (r1 58 (by decide) (by decide)) j, fun j _ => congrFun (r1 57 (by decide) (by decide)) j⟩, h.p.congr (fun c hc => k1 _ (by omega)) (fun j _ => congrFun (r1 58 (by decide) (by decide)) _) (r1 63 (by decide) (by decide)) hD hY⟩
    show (if aat 128 (swg s D (2 ^ D - 1) 56) (Int32.ofNat 0) < 99 then (if ¬ c = -1 then (snof (swg s D (2 ^ D - 1)) D c.toNatClampNeg).2 else aat 128 (swg s D (2 ^ D - 1) 56) (Int32.ofNat 0)) else -1) = (if rnames t D 71 (2 ^ D - 1) = 0 then -1 else if 0 ≤ c then rmx (rnames t D) D (c.toNatClampNeg + 1) 0 (Int32.ofNat (2 ^ D - 1)) 0 else rnames t D 72 (2 ^ D - 1))
    rw [aat_k (k := 0) (by decide) (by decide)]
    have nr := (nr_all hD rfl hm hl E (2 ^ D) (2 ^ D - 1) (by omega) (Nat.le_refl _)).1
    unfold NR at nr
    rw [Nat.sub_self] at nr
    rcases nr with ⟨s1, s2, s3⟩ | ⟨v, c', s1, s2, s3, s4, s5, s6⟩
    · rw [s1, s3, if_neg (by decide), if_pos rfl]
    · have pt := pcn_tab (2 ^ D - 1) (by omega)
      have nz : ¬ rnames t D 71 (2 ^ D - 1) = 0 := by
        rw [s6]
        intro q
        have p7 : 7 ^ pcn (2 ^ D - 1) ≤ 7 ^ 7 := Nat.pow_le_pow_right (by decide) pt.2.1
        have e7 : 7 ^ 7 = 823543 := by decide
        have := (n_eq (b := 0) (by omega) (by decide)).mp q
        omega
      have lt99 : ∀ v, v < 8 → Int32.ofNat v < 99 := by decide +kernel
      rw [s4, if_pos (lt99 v (by omega)), if_neg nz, s5]
      by_cases z : c = -1
      · rw [if_neg (fun q => q z), if_neg (by rw [z]; decide)]
      · rw [if_pos z]
        obtain ⟨k, hk, rfl⟩ := h.dex (fun q => h1 ⟨z, q⟩)
        rw [if_pos (Int32.not_lt.mp (n_lt0 (by omega))), natc (by omega)]
        exact (mixed_E h hk nz).1
end MC
/-! the laying with the fewest quarrels -/
def smN (h : Nat → Nat) : Nat → Nat
  | 0 => 0
  | n + 1 => smN h n + h n
theorem sm_nat {g : Nat → Int32} {h : Nat → Nat} : ∀ n, (∀ i, i < n → g i = Int32.ofNat (h i)) → sm g n = Int32.ofNat (smN h n) := by
  intro n
  induction n with
  | zero => intro _; rfl
  | succ n ih => intro q; rw [sm_s, ih (fun i hi => q i (by omega)), q n (by omega), ← Int32.ofNat_add]; rfl
theorem smN_le {h : Nat → Nat} {B : Nat} : ∀ n, (∀ i, i < n → h i ≤ B) → smN h n ≤ n * B := by
  intro n
  induction n with
  | zero => intro _; exact Nat.zero_le _
  | succ n ih =>
    intro q
    have h1 := ih (fun i hi => q i (by omega))
    have h2 := q n (by omega)
    show smN h n + h n ≤ (n + 1) * B
    rw [Nat.add_mul, Nat.one_mul]
    omega
def sm2 (q : Nat → Nat → Nat) : Nat := smN (fun a => smN (q a) a) 7
theorem inc7 {q q2 : Nat → Nat → Nat} {r : Nat → Nat} {d : Nat} (hd : d < 7) (h1 : ∀ a b, b < a → a < 7 → a ≠ d → b ≠ d → q2 a b = q a b) (h2 : ∀ a b, b < a → a < 7 → (a = d ∨ b = d) → q a b = 0) (h3 : ∀ b, b < d → q2 d b = r b) (h4 : ∀ a, d < a → a < 7 → q2 a d = r a) (h5 : r d = 0) : sm2 q2 = sm2 q + smN r 7 := by
  match d, hd with
  | 0, _ =>
    have e0 := h2 1 0 (by decide) (by decide) (by decide)
    have e1 := h4 1 (by decide) (by decide)
    have e2 := h2 2 0 (by decide) (by decide) (by decide)
    have e3 := h4 2 (by decide) (by decide)
    have e4 := h1 2 1 (by decide) (by decide) (by decide) (by decide)
    have e5 := h2 3 0 (by decide) (by decide) (by decide)
    have e6 := h4 3 (by decide) (by decide)
    have e7 := h1 3 1 (by decide) (by decide) (by decide) (by decide)
    have e8 := h1 3 2 (by decide) (by decide) (by decide) (by decide)
    have e9 := h2 4 0 (by decide) (by decide) (by decide)
    have e10 := h4 4 (by decide) (by decide)
    have e11 := h1 4 1 (by decide) (by decide) (by decide) (by decide)
    have e12 := h1 4 2 (by decide) (by decide) (by decide) (by decide)
    have e13 := h1 4 3 (by decide) (by decide) (by decide) (by decide)
    have e14 := h2 5 0 (by decide) (by decide) (by decide)
    have e15 := h4 5 (by decide) (by decide)
    have e16 := h1 5 1 (by decide) (by decide) (by decide) (by decide)
    have e17 := h1 5 2 (by decide) (by decide) (by decide) (by decide)
    have e18 := h1 5 3 (by decide) (by decide) (by decide) (by decide)
    have e19 := h1 5 4 (by decide) (by decide) (by decide) (by decide)
    have e20 := h2 6 0 (by decide) (by decide) (by decide)
    have e21 := h4 6 (by decide) (by decide)
    have e22 := h1 6 1 (by decide) (by decide) (by decide) (by decide)
    have e23 := h1 6 2 (by decide) (by decide) (by decide) (by decide)
    have e24 := h1 6 3 (by decide) (by decide) (by decide) (by decide)
    have e25 := h1 6 4 (by decide) (by decide) (by decide) (by decide)
    have e26 := h1 6 5 (by decide) (by decide) (by decide) (by decide)
    simp only [sm2, smN, Nat.zero_add, Nat.add_zero]
    omega
  | 1, _ =>
    have e0 := h2 1 0 (by decide) (by decide) (by decide)
    have e1 := h3 0 (by decide)
    have e2 := h1 2 0 (by decide) (by decide) (by decide) (by decide)
    have e3 := h2 2 1 (by decide) (by decide) (by decide)
    have e4 := h4 2 (by decide) (by decide)
    have e5 := h1 3 0 (by decide) (by decide) (by decide) (by decide)
    have e6 := h2 3 1 (by decide) (by decide) (by decide)
    have e7 := h4 3 (by decide) (by decide)
    have e8 := h1 3 2 (by decide) (by decide) (by decide) (by decide)
    have e9 := h1 4 0 (by decide) (by decide) (by decide) (by decide)
    have e10 := h2 4 1 (by decide) (by decide) (by decide)
    have e11 := h4 4 (by decide) (by decide)
    have e12 := h1 4 2 (by decide) (by decide) (by decide) (by decide)
    have e13 := h1 4 3 (by decide) (by decide) (by decide) (by decide)
    have e14 := h1 5 0 (by decide) (by decide) (by decide) (by decide)
    have e15 := h2 5 1 (by decide) (by decide) (by decide)
    have e16 := h4 5 (by decide) (by decide)
    have e17 := h1 5 2 (by decide) (by decide) (by decide) (by decide)
    have e18 := h1 5 3 (by decide) (by decide) (by decide) (by decide)
    have e19 := h1 5 4 (by decide) (by decide) (by decide) (by decide)
    have e20 := h1 6 0 (by decide) (by decide) (by decide) (by decide)
    have e21 := h2 6 1 (by decide) (by decide) (by decide)
    have e22 := h4 6 (by decide) (by decide)
    have e23 := h1 6 2 (by decide) (by decide) (by decide) (by decide)
    have e24 := h1 6 3 (by decide) (by decide) (by decide) (by decide)
    have e25 := h1 6 4 (by decide) (by decide) (by decide) (by decide)
    have e26 := h1 6 5 (by decide) (by decide) (by decide) (by decide)
    simp only [sm2, smN, Nat.zero_add, Nat.add_zero]
    omega
  | 2, _ =>
    have e0 := h1 1 0 (by decide) (by decide) (by decide) (by decide)
    have e1 := h2 2 0 (by decide) (by decide) (by decide)
    have e2 := h3 0 (by decide)
    have e3 := h2 2 1 (by decide) (by decide) (by decide)
    have e4 := h3 1 (by decide)
    have e5 := h1 3 0 (by decide) (by decide) (by decide) (by decide)
    have e6 := h1 3 1 (by decide) (by decide) (by decide) (by decide)
    have e7 := h2 3 2 (by decide) (by decide) (by decide)
    have e8 := h4 3 (by decide) (by decide)
    have e9 := h1 4 0 (by decide) (by decide) (by decide) (by decide)
    have e10 := h1 4 1 (by decide) (by decide) (by decide) (by decide)
    have e11 := h2 4 2 (by decide) (by decide) (by decide)
    have e12 := h4 4 (by decide) (by decide)
    have e13 := h1 4 3 (by decide) (by decide) (by decide) (by decide)
    have e14 := h1 5 0 (by decide) (by decide) (by decide) (by decide)
    have e15 := h1 5 1 (by decide) (by decide) (by decide) (by decide)
    have e16 := h2 5 2 (by decide) (by decide) (by decide)
    have e17 := h4 5 (by decide) (by decide)
    have e18 := h1 5 3 (by decide) (by decide) (by decide) (by decide)
    have e19 := h1 5 4 (by decide) (by decide) (by decide) (by decide)
    have e20 := h1 6 0 (by decide) (by decide) (by decide) (by decide)
    have e21 := h1 6 1 (by decide) (by decide) (by decide) (by decide)
    have e22 := h2 6 2 (by decide) (by decide) (by decide)
    have e23 := h4 6 (by decide) (by decide)
    have e24 := h1 6 3 (by decide) (by decide) (by decide) (by decide)
    have e25 := h1 6 4 (by decide) (by decide) (by decide) (by decide)
    have e26 := h1 6 5 (by decide) (by decide) (by decide) (by decide)
    simp only [sm2, smN, Nat.zero_add, Nat.add_zero]
    omega
  | 3, _ =>
    have e0 := h1 1 0 (by decide) (by decide) (by decide) (by decide)
    have e1 := h1 2 0 (by decide) (by decide) (by decide) (by decide)
    have e2 := h1 2 1 (by decide) (by decide) (by decide) (by decide)
    have e3 := h2 3 0 (by decide) (by decide) (by decide)
    have e4 := h3 0 (by decide)
    have e5 := h2 3 1 (by decide) (by decide) (by decide)
    have e6 := h3 1 (by decide)
    have e7 := h2 3 2 (by decide) (by decide) (by decide)
    have e8 := h3 2 (by decide)
    have e9 := h1 4 0 (by decide) (by decide) (by decide) (by decide)
    have e10 := h1 4 1 (by decide) (by decide) (by decide) (by decide)
    have e11 := h1 4 2 (by decide) (by decide) (by decide) (by decide)
    have e12 := h2 4 3 (by decide) (by decide) (by decide)
    have e13 := h4 4 (by decide) (by decide)
    have e14 := h1 5 0 (by decide) (by decide) (by decide) (by decide)
    have e15 := h1 5 1 (by decide) (by decide) (by decide) (by decide)
    have e16 := h1 5 2 (by decide) (by decide) (by decide) (by decide)
    have e17 := h2 5 3 (by decide) (by decide) (by decide)
    have e18 := h4 5 (by decide) (by decide)
    have e19 := h1 5 4 (by decide) (by decide) (by decide) (by decide)
    have e20 := h1 6 0 (by decide) (by decide) (by decide) (by decide)
    have e21 := h1 6 1 (by decide) (by decide) (by decide) (by decide)
    have e22 := h1 6 2 (by decide) (by decide) (by decide) (by decide)
    have e23 := h2 6 3 (by decide) (by decide) (by decide)
    have e24 := h4 6 (by decide) (by decide)
    have e25 := h1 6 4 (by decide) (by decide) (by decide) (by decide)
    have e26 := h1 6 5 (by decide) (by decide) (by decide) (by decide)
    simp only [sm2, smN, Nat.zero_add, Nat.add_zero]
    omega
  | 4, _ =>
    have e0 := h1 1 0 (by decide) (by decide) (by decide) (by decide)
    have e1 := h1 2 0 (by decide) (by decide) (by decide) (by decide)
    have e2 := h1 2 1 (by decide) (by decide) (by decide) (by decide)
    have e3 := h1 3 0 (by decide) (by decide) (by decide) (by decide)
    have e4 := h1 3 1 (by decide) (by decide) (by decide) (by decide)
    have e5 := h1 3 2 (by decide) (by decide) (by decide) (by decide)
    have e6 := h2 4 0 (by decide) (by decide) (by decide)
    have e7 := h3 0 (by decide)
    have e8 := h2 4 1 (by decide) (by decide) (by decide)
    have e9 := h3 1 (by decide)
    have e10 := h2 4 2 (by decide) (by decide) (by decide)
    have e11 := h3 2 (by decide)
    have e12 := h2 4 3 (by decide) (by decide) (by decide)
    have e13 := h3 3 (by decide)
    have e14 := h1 5 0 (by decide) (by decide) (by decide) (by decide)
    have e15 := h1 5 1 (by decide) (by decide) (by decide) (by decide)
    have e16 := h1 5 2 (by decide) (by decide) (by decide) (by decide)
    have e17 := h1 5 3 (by decide) (by decide) (by decide) (by decide)
    have e18 := h2 5 4 (by decide) (by decide) (by decide)
    have e19 := h4 5 (by decide) (by decide)
    have e20 := h1 6 0 (by decide) (by decide) (by decide) (by decide)
    have e21 := h1 6 1 (by decide) (by decide) (by decide) (by decide)
    have e22 := h1 6 2 (by decide) (by decide) (by decide) (by decide)
    have e23 := h1 6 3 (by decide) (by decide) (by decide) (by decide)
    have e24 := h2 6 4 (by decide) (by decide) (by decide)
    have e25 := h4 6 (by decide) (by decide)
    have e26 := h1 6 5 (by decide) (by decide) (by decide) (by decide)
    simp only [sm2, smN, Nat.zero_add, Nat.add_zero]
    omega
  | 5, _ =>
    have e0 := h1 1 0 (by decide) (by decide) (by decide) (by decide)
    have e1 := h1 2 0 (by decide) (by decide) (by decide) (by decide)
    have e2 := h1 2 1 (by decide) (by decide) (by decide) (by decide)
    have e3 := h1 3 0 (by decide) (by decide) (by decide) (by decide)
    have e4 := h1 3 1 (by decide) (by decide) (by decide) (by decide)
    have e5 := h1 3 2 (by decide) (by decide) (by decide) (by decide)
    have e6 := h1 4 0 (by decide) (by decide) (by decide) (by decide)
    have e7 := h1 4 1 (by decide) (by decide) (by decide) (by decide)
    have e8 := h1 4 2 (by decide) (by decide) (by decide) (by decide)
    have e9 := h1 4 3 (by decide) (by decide) (by decide) (by decide)
    have e10 := h2 5 0 (by decide) (by decide) (by decide)
    have e11 := h3 0 (by decide)
    have e12 := h2 5 1 (by decide) (by decide) (by decide)
    have e13 := h3 1 (by decide)
    have e14 := h2 5 2 (by decide) (by decide) (by decide)
    have e15 := h3 2 (by decide)
    have e16 := h2 5 3 (by decide) (by decide) (by decide)
    have e17 := h3 3 (by decide)
    have e18 := h2 5 4 (by decide) (by decide) (by decide)
    have e19 := h3 4 (by decide)
    have e20 := h1 6 0 (by decide) (by decide) (by decide) (by decide)
    have e21 := h1 6 1 (by decide) (by decide) (by decide) (by decide)
    have e22 := h1 6 2 (by decide) (by decide) (by decide) (by decide)
    have e23 := h1 6 3 (by decide) (by decide) (by decide) (by decide)
    have e24 := h1 6 4 (by decide) (by decide) (by decide) (by decide)
    have e25 := h2 6 5 (by decide) (by decide) (by decide)
    have e26 := h4 6 (by decide) (by decide)
    simp only [sm2, smN, Nat.zero_add, Nat.add_zero]
    omega
  | 6, _ =>
    have e0 := h1 1 0 (by decide) (by decide) (by decide) (by decide)
    have e1 := h1 2 0 (by decide) (by decide) (by decide) (by decide)
    have e2 := h1 2 1 (by decide) (by decide) (by decide) (by decide)
    have e3 := h1 3 0 (by decide) (by decide) (by decide) (by decide)
    have e4 := h1 3 1 (by decide) (by decide) (by decide) (by decide)
    have e5 := h1 3 2 (by decide) (by decide) (by decide) (by decide)
    have e6 := h1 4 0 (by decide) (by decide) (by decide) (by decide)
    have e7 := h1 4 1 (by decide) (by decide) (by decide) (by decide)
    have e8 := h1 4 2 (by decide) (by decide) (by decide) (by decide)
    have e9 := h1 4 3 (by decide) (by decide) (by decide) (by decide)
    have e10 := h1 5 0 (by decide) (by decide) (by decide) (by decide)
    have e11 := h1 5 1 (by decide) (by decide) (by decide) (by decide)
    have e12 := h1 5 2 (by decide) (by decide) (by decide) (by decide)
    have e13 := h1 5 3 (by decide) (by decide) (by decide) (by decide)
    have e14 := h1 5 4 (by decide) (by decide) (by decide) (by decide)
    have e15 := h2 6 0 (by decide) (by decide) (by decide)
    have e16 := h3 0 (by decide)
    have e17 := h2 6 1 (by decide) (by decide) (by decide)
    have e18 := h3 1 (by decide)
    have e19 := h2 6 2 (by decide) (by decide) (by decide)
    have e20 := h3 2 (by decide)
    have e21 := h2 6 3 (by decide) (by decide) (by decide)
    have e22 := h3 3 (by decide)
    have e23 := h2 6 4 (by decide) (by decide) (by decide)
    have e24 := h3 4 (by decide)
    have e25 := h2 6 5 (by decide) (by decide) (by decide)
    have e26 := h3 5 (by decide)
    simp only [sm2, smN, Nat.zero_add, Nat.add_zero]
    omega
  | n + 7, h => omega
/-! the class's search -/
def p53 (u : zmem) (τ : Nat → Int32) : zmem := fun a b => if a = 53 then τ b else u a b
theorem p53_53 (u : zmem) (τ : Nat → Int32) : p53 u τ 53 = τ := by funext b; unfold p53; rw [if_pos rfl]
theorem p53_ne (u : zmem) (τ : Nat → Int32) {q : Nat} (h : q ≠ 53) : p53 u τ q = u q := by funext b; unfold p53; rw [if_neg h]
def Qf (u : zmem) (τ : Nat → Int32) : Int32 := sqnow (p53 u τ)
def soff_c {u v : zmem} (h1 : u 51 = v 51) (h3 : u 53 = v 53) (o d : Int32) : soff u o d = soff v o d := by unfold soff; rw [h1, h3]
theorem sqof_c {u v : zmem} (h1 : u 51 = v 51) (h2 : u 52 = v 52) (h3 : u 53 = v 53) (d o : Int32) : sqof u d o = sqof v d o := by
  unfold sqof sqof1 sside
  rw [soff_c h1 h3, soff_c h1 h3, h2, h3]
theorem sqam_c {u v : zmem} (h1 : u 51 = v 51) (h2 : u 52 = v 52) (h3 : u 53 = v 53) (d : Int32) (A : Nat) : sqam u d A = sqam v d A := by
  unfold sqam
  rw [h3]
  refine sfold_congr A 0 _ (fun k st _ _ => ?_)
  rw [sqof_c h1 h2 h3]
theorem sqnow_c {u v : zmem} (h1 : u 51 = v 51) (h2 : u 52 = v 52) (h3 : u 53 = v 53) : sqnow u = sqnow v := by
  unfold sqnow
  rw [h3]
  refine sfold_congr 7 0 _ (fun k st _ _ => ?_)
  rw [sqam_c h1 h2 h3]
/-- one pair's quarrels, as a number -/
def qN (u : zmem) (τ : Nat → Int32) (a b : Nat) : Nat := (qp (p53 u τ) a b).toNatClampNeg
theorem sqof_012 (u : zmem) (d o : Int32) : sqof u d o = 0 ∨ sqof u d o = 1 ∨ sqof u d o = 2 := by
  have h1 : sqof1 u d o = 0 ∨ sqof1 u d o = 1 := by
    unfold sqof1
    by_cases e : soff u o d = 0
    · rw [if_neg (fun q => q e)]
      by_cases e2 : soff u d o = 0
      · rw [if_pos e2]; exact Or.inl rfl
      · rw [if_neg e2]; exact Or.inr rfl
    · rw [if_pos e]; exact Or.inr rfl
  unfold sqof
  rcases h1 with e | e <;> rw [e] <;> by_cases z1 : shas (aat 7 (u 52) d) o = 0 <;> by_cases z2 : sside u d o = 0 <;> simp [z1, z2]
theorem qp_nat (u : zmem) (τ : Nat → Int32) (a b : Nat) : qp (p53 u τ) a b = Int32.ofNat (qN u τ a b) ∧ qN u τ a b ≤ 2 := by
  unfold qN
  have h : qp (p53 u τ) a b = 0 ∨ qp (p53 u τ) a b = 1 ∨ qp (p53 u τ) a b = 2 := by
    unfold qp
    by_cases e : p53 u τ 53 a = -1
    · rw [if_pos e]; exact Or.inl rfl
    · rw [if_neg e]
      by_cases e2 : p53 u τ 53 b = -1
      · rw [if_pos e2]; exact Or.inl rfl
      · rw [if_neg e2]; exact sqof_012 _ _ _
  rcases h with e | e | e <;> rw [e] <;> decide
theorem Qf_nat (u : zmem) (τ : Nat → Int32) : Qf u τ = Int32.ofNat (sm2 (qN u τ)) ∧ sm2 (qN u τ) ≤ 98 := by
  have h1 : ∀ a, a < 7 → sm (fun b => qp (p53 u τ) a b) a = Int32.ofNat (smN (qN u τ a) a) := fun a _ => sm_nat a (fun b _ => (qp_nat u τ a b).1)
  refine ⟨?_, ?_⟩
  · unfold Qf sm2
    rw [qnow_sm]
    exact sm_nat 7 h1
  · unfold sm2
    have := smN_le (h := fun a => smN (qN u τ a) a) (B := 14) 7 (fun a ha => by
      have := smN_le (h := qN u τ a) (B := 2) a (fun b _ => (qp_nat u τ a b).2)
      show smN (qN u τ a) a ≤ 14
      omega)
    omega
/-- the marks of the plan are symmetric -/
def SY (u : zmem) : Prop := ∀ a b, a < 7 → b < 7 → bt (u 52 a) b = bt (u 52 b) a
theorem sqof_sym {u : zmem} (h : SY u) {a b : Nat} (ha : a < 7) (hb : b < 7) : sqof u (Int32.ofNat a) (Int32.ofNat b) = sqof u (Int32.ofNat b) (Int32.ofNat a) := by
  have h1 : sqof1 u (Int32.ofNat a) (Int32.ofNat b) = sqof1 u (Int32.ofNat b) (Int32.ofNat a) := by
    unfold sqof1
    by_cases e1 : soff u (Int32.ofNat b) (Int32.ofNat a) = 0 <;> by_cases e2 : soff u (Int32.ofNat a) (Int32.ofNat b) = 0 <;> simp [e1, e2]
  have h2 : sside u (Int32.ofNat a) (Int32.ofNat b) = sside u (Int32.ofNat b) (Int32.ofNat a) := by
    unfold sside
    have e : sabs (aat 7 (u 53) (Int32.ofNat a) - aat 7 (u 53) (Int32.ofNat b)) = 1 ↔ sabs (aat 7 (u 53) (Int32.ofNat b) - aat 7 (u 53) (Int32.ofNat a)) = 1 := by
      generalize aat 7 (u 53) (Int32.ofNat a) = x
      generalize aat 7 (u 53) (Int32.ofNat b) = y
      have key : ∀ z : Int32, sabs z = 1 ↔ (z = 1 ∨ z = -1) := fun z => by
        unfold sabs
        by_cases q : 0 ≤ z
        · rw [if_pos q]
          constructor
          · exact Or.inl
          · intro r
            rcases r with r | r
            · exact r
            · rw [r] at q; exact absurd q (by decide)
        · rw [if_neg q]
          constructor
          · intro r; right; rw [show z = 0 - (0 - z) by grind, r]; decide
          · intro r
            rcases r with r | r
            · rw [r] at q; exact absurd (by decide) q
            · rw [r]; decide
      rw [key, key]
      constructor
      · intro q; rcases q with q | q
        · right; rw [show y - x = 0 - (x - y) by grind, q]; decide
        · left; rw [show y - x = 0 - (x - y) by grind, q]; decide
      · intro q; rcases q with q | q
        · right; rw [show x - y = 0 - (y - x) by grind, q]; decide
        · left; rw [show x - y = 0 - (y - x) by grind, q]; decide
    by_cases q : sabs (aat 7 (u 53) (Int32.ofNat a) - aat 7 (u 53) (Int32.ofNat b)) = 1
    · rw [if_neg (fun z => z q), if_neg (fun z => z (e.mp q))]
    · rw [if_pos q, if_pos (fun z => q (e.mpr z))]
  unfold sqof
  rw [aat_k ha (by decide), aat_k hb (by decide), shas_bt _ (by omega), shas_bt _ (by omega), h a b ha hb, h1, h2]
/-- one more lies -/
theorem Qf_inc {u : zmem} (hs : SY u) {τ : Nat → Int32} {d i : Nat} (hd : d < 7) (hi : i < 8) (h0 : τ d = -1) : Qf u (upd τ d (Int32.ofNat i)) = Qf u τ + sqam (p53 u (upd τ d (Int32.ofNat i))) (Int32.ofNat d) 7 ∧ sm2 (qN u τ) ≤ sm2 (qN u (upd τ d (Int32.ofNat i))) := by
  obtain ⟨τ2, e2⟩ : ∃ x, x = upd τ d (Int32.ofNat i) := ⟨_, rfl⟩
  rw [← e2]
  have ud : τ2 d = Int32.ofNat i := by rw [e2]; simp [upd]
  have un : ∀ k, k ≠ d → τ2 k = τ k := fun k hk => by rw [e2]; simp [upd, hk]
  have nm : ¬ Int32.ofNat i = -1 := by
    have tab : ∀ i, i < 8 → ¬ Int32.ofNat i = -1 := by decide +kernel
    exact tab i hi
  have sy2 : SY (p53 u τ2) := fun a b ha hb => by rw [p53_ne u τ2 (by decide)]; exact hs a b ha hb
  let r : Nat → Int32 := fun k => if k = d then 0 else if τ2 k = -1 then 0 else sqof (p53 u τ2) (Int32.ofNat d) (Int32.ofNat k)
  have rn : ∀ k, k < 7 → r k = Int32.ofNat (r k).toNatClampNeg := fun k hk => by
    have : r k = 0 ∨ r k = 1 ∨ r k = 2 := by
      have er : r k = if k = d then 0 else if τ2 k = -1 then 0 else sqof (p53 u τ2) (Int32.ofNat d) (Int32.ofNat k) := rfl
      rw [er]
      by_cases e : k = d
      · rw [if_pos e]; exact Or.inl rfl
      · rw [if_neg e]
        by_cases e2 : τ2 k = -1
        · rw [if_pos e2]; exact Or.inl rfl
        · rw [if_neg e2]; exact sqof_012 _ _ _
    rcases this with e | e | e <;> rw [e] <;> decide
  have qeq : ∀ a b, a < 7 → b < 7 → a ≠ d → b ≠ d → qN u τ2 a b = qN u τ a b := fun a b ha7 hb7 ha hb => by
    unfold qN qp
    rw [p53_53, p53_53, un a ha, un b hb]
    by_cases e1 : τ a = -1
    · rw [if_pos e1, if_pos e1]
    · rw [if_neg e1, if_neg e1]
      by_cases e3 : τ b = -1
      · rw [if_pos e3, if_pos e3]
      · rw [if_neg e3, if_neg e3]
        have : sqof (p53 u τ2) (Int32.ofNat a) (Int32.ofNat b) = sqof (p53 u τ) (Int32.ofNat a) (Int32.ofNat b) := by
          unfold sqof sqof1 soff sside
          simp only [aat_k ha7 (show 7 < 2147483648 by decide), aat_k hb7 (show 7 < 2147483648 by decide), p53_53, p53_ne u _ (show 51 ≠ 53 by decide), p53_ne u _ (show 52 ≠ 53 by decide), un a ha, un b hb]
        rw [this]
  have key := inc7 (q := qN u τ) (q2 := qN u τ2) (r := fun k => (r k).toNatClampNeg) hd (fun a b hb ha n1 n2 => qeq a b ha (by omega) n1 n2) (fun a b hb ha z => by
    unfold qN qp
    rw [p53_53]
    rcases z with z | z
    · rw [z, if_pos h0]; rfl
    · by_cases e1 : τ a = -1
      · rw [if_pos e1]; rfl
      · rw [if_neg e1, z, if_pos h0]; rfl) (fun b hb => by
    show (qp (p53 u τ2) d b).toNatClampNeg = (if b = d then 0 else if τ2 b = -1 then 0 else sqof (p53 u τ2) (Int32.ofNat d) (Int32.ofNat b)).toNatClampNeg
    unfold qp
    rw [p53_53, ud, if_neg nm, if_neg (show ¬ b = d by omega)]) (fun a ha ha7 => by
    show (qp (p53 u τ2) a d).toNatClampNeg = (if a = d then 0 else if τ2 a = -1 then 0 else sqof (p53 u τ2) (Int32.ofNat d) (Int32.ofNat a)).toNatClampNeg
    unfold qp
    rw [p53_53, ud, if_neg nm, if_neg (show ¬ a = d by omega), sqof_sym sy2 ha7 hd]) (by
    show (if d = d then (0 : Int32) else _).toNatClampNeg = 0
    rw [if_pos rfl]
    rfl)
  have er : sqam (p53 u τ2) (Int32.ofNat d) 7 = Int32.ofNat (smN (fun k => (r k).toNatClampNeg) 7) := by
    rw [qam_eq d 7 (Nat.le_refl _) hd, p53_53]
    exact sm_nat 7 rn
  rw [(Qf_nat u τ2).1, (Qf_nat u τ).1, er, ← Int32.ofNat_add, key]
  exact ⟨rfl, by omega⟩
/-! all the ways to lay those who wait, in their order -/
def cmq (g : Nat → List (Nat → Int32)) : Nat → Nat → List (Nat → Int32)
  | 0, _ => []
  | r + 1, i => g i ++ cmq g r (i + 1)
def usd (U : Nat → Bool) (i : Nat) : Nat → Bool := fun j => U j || decide (j = i)
def cmps : List Nat → (Nat → Int32) → (Nat → Bool) → List (Nat → Int32)
  | [], τ, _ => [τ]
  | w :: ws, τ, U => cmq (fun i => if U i = true then [] else cmps ws (upd τ w (Int32.ofNat i)) (usd U i)) 8 0
abbrev zbest : Type := Option (Int32 × (Nat → Int32))
def scn1 (u : zmem) (b : zbest) (τ : Nat → Int32) : zbest := match b with
  | none => some (Qf u τ, τ)
  | some x => if Qf u τ < x.1 then some (Qf u τ, τ) else some x
def scn (u : zmem) : zbest → List (Nat → Int32) → zbest
  | b, [] => b
  | b, τ :: l => scn u (scn1 u b τ) l
theorem scn_app (u : zmem) : ∀ l1 l2 b, scn u b (l1 ++ l2) = scn u (scn u b l1) l2 := by
  intro l1
  induction l1 with
  | nil => intro l2 b; rfl
  | cons a l1 ih => intro l2 b; exact ih l2 _
theorem scn_skip (u : zmem) (x : Int32 × (Nat → Int32)) : ∀ l, (∀ τ ∈ l, ¬ Qf u τ < x.1) → scn u (some x) l = some x := by
  intro l
  induction l with
  | nil => intro _; rfl
  | cons a l ih =>
    intro h
    show scn u (if Qf u a < x.1 then some (Qf u a, a) else some x) l = some x
    rw [if_neg (h a List.mem_cons_self)]
    exact ih (fun τ ht => h τ (List.mem_cons_of_mem _ ht))
theorem cmq_mem {g : Nat → List (Nat → Int32)} {ρ : Nat → Int32} : ∀ r i, ρ ∈ cmq g r i → ∃ j, i ≤ j ∧ j < i + r ∧ ρ ∈ g j := by
  intro r
  induction r with
  | zero => intro i h; simp [cmq] at h
  | succ r ih =>
    intro i h
    rcases List.mem_append.mp h with h | h
    · exact ⟨i, Nat.le_refl _, by omega, h⟩
    · obtain ⟨j, h1, h2, h3⟩ := ih (i + 1) h
      exact ⟨j, by omega, by omega, h3⟩
/-- who is laid later quarrels no less -/
theorem cmps_le {u : zmem} (hs : SY u) : ∀ ws τ U, (∀ d ∈ ws, d < 7 ∧ τ d = -1) → ws.Nodup → ∀ ρ ∈ cmps ws τ U, sm2 (qN u τ) ≤ sm2 (qN u ρ) := by
  intro ws
  induction ws with
  | nil =>
    intro τ U _ _ ρ h
    have : ρ = τ := by simpa [cmps] using h
    rw [this]
    exact Nat.le_refl _
  | cons w ws ih =>
    intro τ U hw hn ρ h
    obtain ⟨i, _, hi, hg⟩ := cmq_mem 8 0 h
    by_cases e : U i = true
    · rw [if_pos e] at hg; simp at hg
    · rw [if_neg e] at hg
      have hd := hw w List.mem_cons_self
      have nd := List.nodup_cons.mp hn
      have g1 := (Qf_inc hs (d := w) (i := i) hd.1 (by omega) hd.2).2
      have g2 := ih (upd τ w (Int32.ofNat i)) (usd U i) (fun d hd' => ⟨(hw d (List.mem_cons_of_mem _ hd')).1, by
        have : d ≠ w := fun z => nd.1 (z ▸ hd')
        simp only [upd]
        rw [if_neg this]
        exact (hw d (List.mem_cons_of_mem _ hd')).2⟩) nd.2 ρ hg
      omega
/-- the best that the class holds -/
def BR (m : zmem) (b : zbest) : Prop := match b with
  | none => m 50 5 = 0
  | some x => ¬ m 50 5 = 0 ∧ m 50 4 = x.1 ∧ ∀ k, k < 7 → m 54 k = x.2 k
def WS (u m : zmem) : Prop := ∀ q, q ≠ 50 → q ≠ 53 → q ≠ 54 → m q = u q
theorem leaf_st {u m : zmem} {τ : Nat → Int32} {b : zbest} (hW : WS u m) (h53 : m 53 = τ) (hb : BR m b) : (WS u (if ¬ m 50 5 = 0 ∧ ¬ Qf u τ < m 50 4 then m else ssleaf (Qf u τ) m)) ∧ (if ¬ m 50 5 = 0 ∧ ¬ Qf u τ < m 50 4 then m else ssleaf (Qf u τ) m) 53 = τ ∧ BR (if ¬ m 50 5 = 0 ∧ ¬ Qf u τ < m 50 4 then m else ssleaf (Qf u τ) m) (scn u b [τ]) := by
  have lf : WS u (ssleaf (Qf u τ) m) ∧ ssleaf (Qf u τ) m 53 = τ ∧ BR (ssleaf (Qf u τ) m) (some (Qf u τ, τ)) := by
    have g := scopy_at (q := 53) (p := 54) (n := 7) (Or.inl rfl) (by decide) 8 0 (mset (mset m 50 5 1) 50 4 (Qf u τ)) (by omega)
    unfold ssleaf
    refine ⟨fun q h1 h2 h3 => by rw [g.1 q h3, mset_cell _ h1, mset_cell _ h1]; exact hW q h1 h2 h3, by rw [g.1 53 (by decide), mset_cell _ (by decide), mset_cell _ (by decide)]; exact h53, ?_, ?_, fun k hk => ?_⟩
    · rw [g.1 50 (by decide), mset_ne _ (by decide), mset_eq]; decide
    · rw [g.1 50 (by decide), mset_eq]
    · rw [g.2 k, if_pos (by omega), mset_cell _ (by decide), mset_cell _ (by decide), h53]
  cases b with
  | none =>
    have hb : m 50 5 = 0 := hb
    rw [if_neg (fun z => z.1 hb)]
    exact lf
  | some x =>
    obtain ⟨b1, b2, b3⟩ := hb
    rw [b2]
    by_cases e : Qf u τ < x.1
    · rw [if_neg (fun z => z.2 e)]
      refine ⟨lf.1, lf.2.1, ?_⟩
      show BR _ (scn1 u (some x) τ)
      unfold scn1
      dsimp only
      rw [if_pos e]
      exact lf.2.2
    · rw [if_pos ⟨b1, e⟩]
      refine ⟨hW, h53, ?_⟩
      show BR _ (scn1 u (some x) τ)
      unfold scn1
      dsimp only
      rw [if_neg e]
      exact ⟨b1, b2, b3⟩
/-- those who wait, from d on -/
def wl (lf : Int32) : Nat → Nat → List Nat
  | 0, _ => []
  | e + 1, d => if bt lf d = true then d :: wl lf e (d + 1) else wl lf e (d + 1)
theorem wl_mem {lf : Int32} {x : Nat} : ∀ e d, x ∈ wl lf e d → d ≤ x ∧ x < d + e ∧ bt lf x = true := by
  intro e
  induction e with
  | zero => intro d h; simp [wl] at h
  | succ e ih =>
    intro d h
    unfold wl at h
    by_cases z : bt lf d = true
    · rw [if_pos z] at h
      rcases List.mem_cons.mp h with h | h
      · subst h; exact ⟨Nat.le_refl _, by omega, z⟩
      · have := ih (d + 1) h; exact ⟨by omega, by omega, this.2.2⟩
    · rw [if_neg z] at h
      have := ih (d + 1) h; exact ⟨by omega, by omega, this.2.2⟩
theorem wl_nd (lf : Int32) : ∀ e d, (wl lf e d).Nodup := by
  intro e
  induction e with
  | zero => intro d; exact List.nodup_nil
  | succ e ih =>
    intro d
    unfold wl
    by_cases z : bt lf d = true
    · rw [if_pos z]
      exact List.nodup_cons.mpr ⟨fun q => by have := (wl_mem e (d + 1) q).1; omega, ih (d + 1)⟩
    · rw [if_neg z]; exact ih (d + 1)
theorem search_st {u : zmem} (hs : SY u) {lf : Int32} : ∀ e d τ U fr q m b, d + e = 7 → (∀ i, i < 8 → bt fr i = !U i) → (∀ x, x ∈ wl lf e d → τ x = -1) → WS u m → m 53 = τ → q = Qf u τ → BR m b → WS u (sserch e d lf fr q m) ∧ sserch e d lf fr q m 53 = τ ∧ BR (sserch e d lf fr q m) (scn u b (cmps (wl lf e d) τ U)) := by
  intro e
  induction e with
  | zero =>
    intro d τ U fr q m b hd _ _ hW h53 hq hb
    subst hq
    exact leaf_st hW h53 hb
  | succ e ih =>
    intro d τ U fr q m b hd hU hτ hW h53 hq hb
    subst hq
    show WS u (if ¬ m 50 5 = 0 ∧ ¬ Qf u τ < m 50 4 then m else if shas lf (Int32.ofNat d) = 0 then sserch e (d + 1) lf fr (Qf u τ) m else aput (sfold (fun i m => if shas fr (Int32.ofNat i) = 0 then m else sserch e (d + 1) lf (fr &&& (sbit (Int32.ofNat i) ^^^ -1)) (Qf u τ + sqam (aput m 53 7 (Int32.ofNat d) (Int32.ofNat i)) (Int32.ofNat d) 7) (aput m 53 7 (Int32.ofNat d) (Int32.ofNat i))) 8 0 m) 53 7 (Int32.ofNat d) (-1)) ∧ (if ¬ m 50 5 = 0 ∧ ¬ Qf u τ < m 50 4 then m else if shas lf (Int32.ofNat d) = 0 then sserch e (d + 1) lf fr (Qf u τ) m else aput (sfold (fun i m => if shas fr (Int32.ofNat i) = 0 then m else sserch e (d + 1) lf (fr &&& (sbit (Int32.ofNat i) ^^^ -1)) (Qf u τ + sqam (aput m 53 7 (Int32.ofNat d) (Int32.ofNat i)) (Int32.ofNat d) 7) (aput m 53 7 (Int32.ofNat d) (Int32.ofNat i))) 8 0 m) 53 7 (Int32.ofNat d) (-1)) 53 = τ ∧ BR (if ¬ m 50 5 = 0 ∧ ¬ Qf u τ < m 50 4 then m else if shas lf (Int32.ofNat d) = 0 then sserch e (d + 1) lf fr (Qf u τ) m else aput (sfold (fun i m => if shas fr (Int32.ofNat i) = 0 then m else sserch e (d + 1) lf (fr &&& (sbit (Int32.ofNat i) ^^^ -1)) (Qf u τ + sqam (aput m 53 7 (Int32.ofNat d) (Int32.ofNat i)) (Int32.ofNat d) 7) (aput m 53 7 (Int32.ofNat d) (Int32.ofNat i))) 8 0 m) 53 7 (Int32.ofNat d) (-1)) _
    by_cases pr : ¬ m 50 5 = 0 ∧ ¬ Qf u τ < m 50 4
    · rw [if_pos pr]
      refine ⟨hW, h53, ?_⟩
      cases b with
      | none => exact absurd hb pr.1
      | some x =>
        obtain ⟨b1, b2, b3⟩ := id hb
        rw [scn_skip u x]
        · exact hb
        · intro ρ hρ
          have le := cmps_le hs (wl lf (e + 1) d) τ U (fun y hy => ⟨by have := (wl_mem _ _ hy); omega, hτ y hy⟩) (wl_nd _ _ _) ρ hρ
          have n1 := Qf_nat u τ
          have n2 := Qf_nat u ρ
          have p2 := pr.2
          rw [b2, n1.1] at p2
          rw [n2.1]
          intro z
          have := (n_le (a := sm2 (qN u τ)) (b := sm2 (qN u ρ)) (by omega) (by omega)).mpr le
          exact p2 (Int32.lt_of_le_of_lt this z)
    · rw [if_neg pr, shas_bt _ (by omega)]
      by_cases w : bt lf d = true
      · have hd7 : d < 7 := by omega
        have ew : wl lf (e + 1) d = d :: wl lf e (d + 1) := by
          show (if bt lf d = true then d :: wl lf e (d + 1) else wl lf e (d + 1)) = _
          rw [if_pos w]
        have hτd : τ d = -1 := hτ d (by rw [ew]; exact List.mem_cons_self)
        rw [if_pos w, if_neg (by decide), ew]
        have loop : ∀ r i m b, i + r = 8 → WS u m → (∀ k, k ≠ d → m 53 k = τ k) → BR m b → WS u (sfold (fun i m => if shas fr (Int32.ofNat i) = 0 then m else sserch e (d + 1) lf (fr &&& (sbit (Int32.ofNat i) ^^^ -1)) (Qf u τ + sqam (aput m 53 7 (Int32.ofNat d) (Int32.ofNat i)) (Int32.ofNat d) 7) (aput m 53 7 (Int32.ofNat d) (Int32.ofNat i))) r i m) ∧ (∀ k, k ≠ d → sfold (fun i m => if shas fr (Int32.ofNat i) = 0 then m else sserch e (d + 1) lf (fr &&& (sbit (Int32.ofNat i) ^^^ -1)) (Qf u τ + sqam (aput m 53 7 (Int32.ofNat d) (Int32.ofNat i)) (Int32.ofNat d) 7) (aput m 53 7 (Int32.ofNat d) (Int32.ofNat i))) r i m 53 k = τ k) ∧ BR (sfold (fun i m => if shas fr (Int32.ofNat i) = 0 then m else sserch e (d + 1) lf (fr &&& (sbit (Int32.ofNat i) ^^^ -1)) (Qf u τ + sqam (aput m 53 7 (Int32.ofNat d) (Int32.ofNat i)) (Int32.ofNat d) 7) (aput m 53 7 (Int32.ofNat d) (Int32.ofNat i))) r i m) (scn u b (cmq (fun i => if U i = true then [] else cmps (wl lf e (d + 1)) (upd τ d (Int32.ofNat i)) (usd U i)) r i)) := by
          intro r
          induction r with
          | zero => intro i m b _ hW h53 hb; exact ⟨hW, h53, hb⟩
          | succ r ih2 =>
            intro i m b hi hW h53 hb
            have hi8 : i < 8 := by omega
            have step : WS u (if shas fr (Int32.ofNat i) = 0 then m else sserch e (d + 1) lf (fr &&& (sbit (Int32.ofNat i) ^^^ -1)) (Qf u τ + sqam (aput m 53 7 (Int32.ofNat d) (Int32.ofNat i)) (Int32.ofNat d) 7) (aput m 53 7 (Int32.ofNat d) (Int32.ofNat i))) ∧ (∀ k, k ≠ d → (if shas fr (Int32.ofNat i) = 0 then m else sserch e (d + 1) lf (fr &&& (sbit (Int32.ofNat i) ^^^ -1)) (Qf u τ + sqam (aput m 53 7 (Int32.ofNat d) (Int32.ofNat i)) (Int32.ofNat d) 7) (aput m 53 7 (Int32.ofNat d) (Int32.ofNat i))) 53 k = τ k) ∧ BR (if shas fr (Int32.ofNat i) = 0 then m else sserch e (d + 1) lf (fr &&& (sbit (Int32.ofNat i) ^^^ -1)) (Qf u τ + sqam (aput m 53 7 (Int32.ofNat d) (Int32.ofNat i)) (Int32.ofNat d) 7) (aput m 53 7 (Int32.ofNat d) (Int32.ofNat i))) (scn u b (if U i = true then [] else cmps (wl lf e (d + 1)) (upd τ d (Int32.ofNat i)) (usd U i))) := by
              rw [shas_bt _ (by omega), hU i hi8]
              by_cases z : U i = true
              · rw [z, if_pos (by decide), if_pos rfl]
                exact ⟨hW, h53, hb⟩
              · have z' : U i = false := by simpa using z
                rw [z', if_neg (by decide), if_neg (by decide), aput_k hd7 (by decide)]
                have e53 : mset m 53 d (Int32.ofNat i) 53 = upd τ d (Int32.ofNat i) := by
                  funext k
                  by_cases y : k = d
                  · subst y; rw [mset_eq]; simp [upd]
                  · rw [mset_ne _ (by omega), h53 k y]; simp [upd, y]
                have eW : WS u (mset m 53 d (Int32.ofNat i)) := fun q h1 h2 h3 => (mset_cell _ h2).trans (hW q h1 h2 h3)
                have eq : Qf u τ + sqam (mset m 53 d (Int32.ofNat i)) (Int32.ofNat d) 7 = Qf u (upd τ d (Int32.ofNat i)) := by
                  rw [(Qf_inc hs hd7 hi8 hτd).1]
                  congr 1
                  refine sqam_c ?_ ?_ ?_ _ _
                  · rw [mset_cell _ (by decide), p53_ne u _ (by decide)]; exact hW 51 (by decide) (by decide) (by decide)
                  · rw [mset_cell _ (by decide), p53_ne u _ (by decide)]; exact hW 52 (by decide) (by decide) (by decide)
                  · rw [e53, p53_53]
                have g := ih (d + 1) (upd τ d (Int32.ofNat i)) (usd U i) (fr &&& (sbit (Int32.ofNat i) ^^^ -1)) _ (mset m 53 d (Int32.ofNat i)) b (by omega) (fun j hj => by
                  rw [bt_and, bt_not _ (by omega), bt_sbit (by omega) (by omega), hU j hj]
                  unfold usd
                  by_cases y : j = i
                  · subst y; simp
                  · simp [y, Ne.symm y]) (fun x hx => by
                  have := (wl_mem _ _ hx).1
                  simp only [upd]
                  rw [if_neg (by omega)]
                  exact hτ x (by rw [ew]; exact List.mem_cons_of_mem _ hx)) eW e53 eq (by
                  cases b with
                  | none => show mset m 53 d (Int32.ofNat i) 50 5 = 0; rw [mset_cell _ (by decide)]; exact hb
                  | some x => exact ⟨by rw [mset_cell _ (by decide)]; exact hb.1, by rw [mset_cell _ (by decide)]; exact hb.2.1, fun k hk => by rw [mset_cell _ (by decide)]; exact hb.2.2 k hk⟩)
                refine ⟨g.1, fun k hk => ?_, g.2.2⟩
                rw [g.2.1]
                simp [upd, hk]
            have g := ih2 (i + 1) _ _ (by omega) step.1 step.2.1 step.2.2
            rw [show cmq (fun i => if U i = true then [] else cmps (wl lf e (d + 1)) (upd τ d (Int32.ofNat i)) (usd U i)) (r + 1) i = (if U i = true then [] else cmps (wl lf e (d + 1)) (upd τ d (Int32.ofNat i)) (usd U i)) ++ cmq (fun i => if U i = true then [] else cmps (wl lf e (d + 1)) (upd τ d (Int32.ofNat i)) (usd U i)) r (i + 1) from rfl, scn_app]
            exact g
        have g := loop 8 0 m b rfl hW (fun k _ => by rw [h53]) hb
        rw [aput_k hd7 (by decide)]
        refine ⟨fun q h1 h2 h3 => (mset_cell _ h2).trans (g.1 q h1 h2 h3), ?_, ?_⟩
        · funext k
          by_cases y : k = d
          · subst y; rw [mset_eq, hτd]
          · rw [mset_ne _ (by omega)]; exact g.2.1 k y
        · have gb := g.2.2
          show BR _ (scn u b (cmq (fun i => if U i = true then [] else cmps (wl lf e (d + 1)) (upd τ d (Int32.ofNat i)) (usd U i)) 8 0))
          generalize scn u b (cmq (fun i => if U i = true then [] else cmps (wl lf e (d + 1)) (upd τ d (Int32.ofNat i)) (usd U i)) 8 0) = bb at gb ⊢
          cases bb with
          | none => show mset _ 53 d (-1) 50 5 = 0; rw [mset_cell _ (by decide)]; exact gb
          | some x => exact ⟨by rw [mset_cell _ (by decide)]; exact gb.1, by rw [mset_cell _ (by decide)]; exact gb.2.1, fun k hk => by rw [mset_cell _ (by decide)]; exact gb.2.2 k hk⟩
      · have ew : wl lf (e + 1) d = wl lf e (d + 1) := by
          show (if bt lf d = true then d :: wl lf e (d + 1) else wl lf e (d + 1)) = _
          rw [if_neg w]
        rw [if_neg w, if_pos rfl, ew]
        rw [ew] at hτ
        exact ih (d + 1) τ U fr _ m b (by omega) hU hτ hW h53 rfl hb
/-! the reference's tries, one after another -/
def wsf (wf : Nat → Nat) : Nat → Nat → List Nat
  | 0, _ => []
  | r + 1, k => wf k :: wsf wf r (k + 1)
def cntU (U : Nat → Bool) : Nat → Nat
  | 0 => 0
  | n + 1 => cntU U n + if U n = true then 0 else 1
theorem cntU_usd {U : Nat → Bool} {i : Nat} : ∀ n, (n ≤ i → cntU (usd U i) n = cntU U n) ∧ (i < n → U i = false → cntU (usd U i) n + 1 = cntU U n) := by
  intro n
  induction n with
  | zero => exact ⟨fun _ => rfl, fun h => by omega⟩
  | succ n ih =>
    constructor
    · intro h
      show cntU (usd U i) n + (if usd U i n = true then 0 else 1) = cntU U n + (if U n = true then 0 else 1)
      rw [ih.1 (by omega)]
      have : usd U i n = U n := by unfold usd; rw [decide_eq_false (show ¬ n = i by omega), Bool.or_false]
      rw [this]
    · intro h hU
      show cntU (usd U i) n + (if usd U i n = true then 0 else 1) + 1 = cntU U n + (if U n = true then 0 else 1)
      by_cases e : n = i
      · subst e
        rw [ih.1 (Nat.le_refl _), hU]
        have : usd U n n = true := by unfold usd; simp
        rw [this, if_pos rfl, if_neg (by decide)]
      · have : usd U i n = U n := by unfold usd; rw [decide_eq_false e, Bool.or_false]
        rw [this]
        have := ih.2 (by omega) hU
        omega
theorem cntU_pos {U : Nat → Bool} : ∀ n, 0 < cntU U n → ∃ i, i < n ∧ U i = false := by
  intro n
  induction n with
  | zero => intro h; exact absurd h (by show ¬ 0 < 0; decide)
  | succ n ih =>
    intro h
    by_cases e : U n = true
    · have h : 0 < cntU U n + (if U n = true then 0 else 1) := h
      rw [if_pos e] at h
      obtain ⟨i, h1, h2⟩ := ih (by omega)
      exact ⟨i, by omega, h2⟩
    · exact ⟨n, by omega, by simpa using e⟩
theorem cmq_ne {g : Nat → List (Nat → Int32)} {j : Nat} (hj : g j ≠ []) : ∀ r i, i ≤ j → j < i + r → cmq g r i ≠ [] := by
  intro r
  induction r with
  | zero => intro i h1 h2; omega
  | succ r ih =>
    intro i h1 h2 h
    have h := List.append_eq_nil_iff.mp h
    by_cases e : i = j
    · subst e; exact hj h.1
    · exact ih (i + 1) (by omega) (by omega) h.2
theorem cmps_ne : ∀ ws τ U, ws.length ≤ cntU U 8 → cmps ws τ U ≠ [] := by
  intro ws
  induction ws with
  | nil => intro τ U _; simp [cmps]
  | cons w ws ih =>
    intro τ U h
    have hl : ws.length + 1 ≤ cntU U 8 := h
    obtain ⟨i, hi, hU⟩ := cntU_pos (U := U) 8 (by omega)
    refine cmq_ne (j := i) ?_ 8 0 (Nat.zero_le _) (by omega)
    have := (cntU_usd (U := U) (i := i) 8).2 hi hU
    rw [if_neg (by rw [hU]; decide)]
    exact ih _ _ (by omega)
theorem scn_some {u : zmem} : ∀ l x, ∃ y, scn u (some x) l = some y := by
  intro l
  induction l with
  | nil => intro x; exact ⟨x, rfl⟩
  | cons a l ih =>
    intro x
    show ∃ y, scn u (if Qf u a < x.1 then some (Qf u a, a) else some x) l = some y
    by_cases e : Qf u a < x.1
    · rw [if_pos e]; exact ih _
    · rw [if_neg e]; exact ih _
theorem scn_ne {u : zmem} {l : List (Nat → Int32)} (h : l ≠ []) : ∃ y, scn u none l = some y := by
  cases l with
  | nil => exact absurd rfl h
  | cons a l => exact scn_some l _
/-- what stays through the tries -/
def RV (T : zmem) (wf : Nat → Nat) (n : Nat) (m : zmem) : Prop := (∀ q, q ≠ 57 → q ≠ 58 → q ≠ 69 → q ≠ 70 → m q = T q) ∧ (∀ j, j ≠ 25 → m 57 j = T 57 j) ∧ ∀ x, (∀ j, j < n → x ≠ 140 + wf j) → m 58 x = T 58 x
def PX (m : zmem) (k : Nat) (p : Nat → Nat) : Prop := ∀ j, j < k → m 69 j = Int32.ofNat (p j)
abbrev fre (T : zmem) (D i : Nat) : Prop := wt T 0 0 (Int32.ofNat i) = 0 ∧ ¬ 0 ≤ rwho T 0 D (Int32.ofNat i)
def UX (T : zmem) (D Y : Nat) (U : Nat → Bool) (k : Nat) (p : Nat → Nat) : Prop := (∀ i, i < 8 → (U i = false ↔ (i < Y ∧ fre T D i ∧ ∀ j, j < k → p j ≠ i))) ∧ ∀ j, j < k → p j < Y
def TX (wf : Nat → Nat) (τ0 τ : Nat → Int32) (k : Nat) (p : Nat → Nat) : Prop := (∀ j, j < k → τ (wf j) = Int32.ofNat (p j)) ∧ ∀ x, (∀ j, j < k → x ≠ wf j) → τ x = τ0 x
def RB (wf : Nat → Nat) (n : Nat) (m : zmem) (b : zbest) : Prop := match b with
  | none => m 57 25 = -1
  | some x => 0 ≤ m 57 25 ∧ m 57 25 = x.1 ∧ ∀ j, j < n → m 70 j = x.2 (wf j)
/-- the setting of the tries -/
def OD (u T : zmem) (wf : Nat → Nat) (τ0 : Nat → Int32) (n D Y C : Nat) : Prop := D ≤ 7 ∧ Y ≤ 8 ∧ n ≤ 7 ∧ (∀ j, j < n → T 68 j = Int32.ofNat (wf j) ∧ wf j < D) ∧ (∀ i j, i < n → j < n → wf i = wf j → i = j) ∧ (∀ k, k < D → τ0 k = wt T 100 40 (Int32.ofNat k)) ∧ (∀ k, D ≤ k → k < 7 → τ0 k = -1) ∧ (∀ k, k < D → wt T 100 40 (Int32.ofNat k) = -1 ∨ ∃ i, i < Y ∧ wt T 100 40 (Int32.ofNat k) = Int32.ofNat i) ∧ CK u T 100 C D
section OD
variable {u T : zmem} {wf : Nat → Nat} {τ0 : Nat → Int32} {n D Y C : Nat}
theorem RV.m69 {m : zmem} (h : RV T wf n m) (j : Nat) (v : Int32) : RV T wf n (mset m 69 j v) := ⟨fun q h1 h2 h3 h4 => (mset_cell _ h3).trans (h.1 q h1 h2 h3 h4), fun j' hj => by rw [mset_cell _ (by decide)]; exact h.2.1 j' hj, fun x hx => by rw [mset_cell _ (by decide)]; exact h.2.2 x hx⟩
theorem RB.m69 {m : zmem} {b : zbest} (h : RB wf n m b) (j : Nat) (v : Int32) : RB wf n (mset m 69 j v) b := by
  cases b with
  | none => show mset m 69 j v 57 25 = -1; rw [mset_cell _ (by decide)]; exact h
  | some x => exact ⟨by rw [mset_cell _ (by decide)]; exact h.1, by rw [mset_cell _ (by decide)]; exact h.2.1, fun k hk => by rw [mset_cell _ (by decide)]; exact h.2.2 k hk⟩
theorem RV.low {m : zmem} (h : RV T wf n m) {x : Nat} (hx : x < 140) : m 58 x = T 58 x := h.2.2 x (fun j _ => by omega)
theorem rfree_eq {m : zmem} (hD : D ≤ 7) (h : ∀ x, x < 140 → m 58 x = T 58 x) {i : Nat} (hi : i < 8) : (rfree m D (Int32.ofNat i) = 0 ↔ ¬ fre T D i) := by
  have e1 : wt m 0 0 (Int32.ofNat i) = wt T 0 0 (Int32.ofNat i) := by rw [wt_k (by omega), wt_k (by omega)]; exact h _ (by omega)
  have e2 : rwho m 0 D (Int32.ofNat i) = rwho T 0 D (Int32.ofNat i) := by
    unfold rwho
    refine sfind_congr D 0 (fun k _ hk => ?_)
    rw [wt_k (by omega), wt_k (by omega), h _ (by omega)]
  unfold rfree fre
  rw [e1, e2]
  by_cases z1 : wt T 0 0 (Int32.ofNat i) = 0 <;> by_cases z2 : 0 ≤ rwho T 0 D (Int32.ofNat i) <;> simp [z1, z2]
theorem runl_0 (m : zmem) (k : Nat) : ∀ c s, (s = 0 ∨ s = 1 ∨ True) → (sfold (fun j s => if s = 0 then 0 else if m 69 j = m 69 k then 0 else 1) c 0 s = (0 : Int32) ↔ (s = 0 ∨ ∃ j, j < c ∧ m 69 j = m 69 k)) := by
  intro c
  induction c with
  | zero => intro s _; exact ⟨fun h => Or.inl h, fun h => by rcases h with h | ⟨j, h1, _⟩; exact h; omega⟩
  | succ c ih =>
    intro s hs
    rw [sfold_last, Nat.zero_add]
    have g := ih s hs
    by_cases e : sfold (fun j s => if s = 0 then 0 else if m 69 j = m 69 k then 0 else 1) c 0 s = (0 : Int32)
    · rw [if_pos e]
      refine ⟨fun _ => ?_, fun _ => rfl⟩
      rcases g.mp e with h | ⟨j, h1, h2⟩
      · exact Or.inl h
      · exact Or.inr ⟨j, by omega, h2⟩
    · rw [if_neg e]
      by_cases z : m 69 c = m 69 k
      · rw [if_pos z]; exact ⟨fun _ => Or.inr ⟨c, by omega, z⟩, fun _ => rfl⟩
      · rw [if_neg z]
        refine ⟨fun h => absurd h (by decide), fun h => ?_⟩
        rcases h with h | ⟨j, h1, h2⟩
        · exact absurd (g.mpr (Or.inl h)) e
        · by_cases y : j = c
          · subst y; exact absurd h2 z
          · exact absurd (g.mpr (Or.inr ⟨j, by omega, h2⟩)) e
theorem rsk_U (hO : OD u T wf τ0 n D Y C) {m : zmem} (hV : RV T wf n m) {k : Nat} {p : Nat → Nat} {U : Nat → Bool} (hP : PX m k p) (hU : UX T D Y U k p) {i : Nat} (hi : i < Y) : rsk m D k i = U i := by
  have hY := hO.2.1
  have hD := hO.1
  have e69 : mset m 69 k (Int32.ofNat i) 69 k = Int32.ofNat i := mset_eq _ _ _ _
  have fr := rfree_eq (m := mset m 69 k (Int32.ofNat i)) (T := T) hD (fun x hx => by rw [mset_cell _ (by decide)]; exact hV.low hx) (i := i) (by omega)
  have g := runl_0 (mset m 69 k (Int32.ofNat i)) k k (rfree (mset m 69 k (Int32.ofNat i)) D (mset m 69 k (Int32.ofNat i) 69 k)) (Or.inr (Or.inr trivial))
  rw [e69, fr] at g
  have hUi := hU.1 i (by omega)
  unfold rsk runl
  rw [e69]
  have g2 : (¬ fre T D i ∨ ∃ j, j < k ∧ mset m 69 k (Int32.ofNat i) 69 j = Int32.ofNat i) ↔ U i = true := by
    constructor
    · intro h
      by_cases z : U i = true
      · exact z
      · have z' : U i = false := by simpa using z
        obtain ⟨_, h2, h3⟩ := hUi.mp z'
        rcases h with h | ⟨j, h4, h5⟩
        · exact absurd h2 h
        · rw [mset_ne _ (by omega), hP j h4] at h5
          have := hU.2 j h4
          exact absurd (ofNat_inj h5 (by omega) (by omega)) (h3 j h4)
    · intro z
      by_cases h2 : fre T D i
      · right
        apply Classical.byContradiction
        intro h3
        have : U i = false := hUi.mpr ⟨hi, h2, fun j hj e => h3 ⟨j, hj, by rw [mset_ne _ (by omega), hP j hj, e]⟩⟩
        rw [this] at z
        cases z
      · exact Or.inl h2
  by_cases z : U i = true
  · rw [z]; exact decide_eq_true (g.mpr (g2.mpr z))
  · have z' : U i = false := by simpa using z
    rw [z']; exact decide_eq_false (fun q => z (g2.mp (g.mp q)))
theorem rnx_end (m : zmem) (k : Nat) {i : Nat} (h : Y ≤ i) : rnx m D Y k i = i := by unfold rnx; rw [show Y - i = 0 by omega]; rfl
theorem rnx_cons (m : zmem) (k : Nat) {i : Nat} (h : i < Y) : rnx m D Y k i = if rsk m D k i = true then rnx m D Y k (i + 1) else i := by
  unfold rnx
  rw [show Y - i = (Y - (i + 1)) + 1 by omega]
  rfl
theorem rnx_lt (hO : OD u T wf τ0 n D Y C) {m : zmem} (hV : RV T wf n m) {k : Nat} {p : Nat → Nat} {U : Nat → Bool} (hP : PX m k p) (hU : UX T D Y U k p) : ∀ c i, c + i = Y → (∃ j, i ≤ j ∧ j < Y ∧ U j = false) → rnx m D Y k i < Y := by
  intro c
  induction c with
  | zero => intro i h ⟨j, h1, h2, _⟩; omega
  | succ c ih =>
    intro i h ⟨j, h1, h2, h3⟩
    rw [rnx_cons m k (by omega), rsk_U hO hV hP hU (by omega)]
    by_cases z : U i = true
    · rw [if_pos z]
      refine ih (i + 1) (by omega) ⟨j, ?_, h2, h3⟩
      by_cases y : i = j
      · subst y; rw [h3] at z; cases z
      · omega
    · rw [if_neg z]; omega
theorem rabc_c {m : zmem} (h58 : ∀ x, x < 140 → m 58 x = T 58 x) (h63 : m 63 = T 63) (h65 : m 65 = T 65) {a b : Nat} (ha : a < 8) (hb : b < 8) : ∀ c k, rabc m 100 (Int32.ofNat a) (Int32.ofNat b) c k = rabc T 100 (Int32.ofNat a) (Int32.ofNat b) c k := by
  have ev : ∀ cl x, x < 8 → rval m 100 cl (Int32.ofNat x) = rval T 100 cl (Int32.ofNat x) := fun cl x hx => by
    unfold rval
    rw [wt_k (by omega), wt_k (by omega), wt_k (by omega), wt_k (by omega), wt_k (by omega), wt_k (by omega), h58 _ (by omega), h58 _ (by omega), h58 _ (by omega), h63]
  intro c
  induction c with
  | zero => intro k; rfl
  | succ c ih =>
    intro k
    have e : rvd m 100 (Int32.ofNat a) (Int32.ofNat b) k = rvd T 100 (Int32.ofNat a) (Int32.ofNat b) k := by unfold rvd; rw [h65, ev _ a ha, ev _ b hb]
    show (if rvd m 100 _ _ k = 0 then rabc m 100 _ _ c (k + 1) else if rvd m 100 _ _ k ≤ 0 then 0 else 1) = (if rvd T 100 _ _ k = 0 then rabc T 100 _ _ c (k + 1) else if rvd T 100 _ _ k ≤ 0 then 0 else 1)
    rw [e, ih]
theorem rev1_at (hO : OD u T wf τ0 n D Y C) {m : zmem} (hV : RV T wf n m) : ∀ c, c ≤ n → (∀ q, q ≠ 58 → sfold rpl c 0 m q = m q) ∧ (∀ j, j < c → sfold rpl c 0 m 58 (140 + wf j) = m 69 j) ∧ ∀ x, (∀ j, j < c → x ≠ 140 + wf j) → sfold rpl c 0 m 58 x = m 58 x := by
  intro c
  induction c with
  | zero => intro _; exact ⟨fun _ _ => rfl, fun j hj => by omega, fun _ _ => rfl⟩
  | succ c ih =>
    intro hc
    obtain ⟨h1, h2, h3⟩ := ih (by omega)
    obtain ⟨e68, hw⟩ := hO.2.2.2.1 c (by omega)
    have hD := hO.1
    rw [sfold_last, Nat.zero_add]
    have er : rpl c (sfold rpl c 0 m) = mset (sfold rpl c 0 m) 58 (140 + wf c) (m 69 c) := by
      show wp (sfold rpl c 0 m) 100 40 (sfold rpl c 0 m 68 c) (sfold rpl c 0 m 69 c) = _
      rw [h1 68 (by decide), h1 69 (by decide), hV.1 68 (by decide) (by decide) (by decide) (by decide), e68, wp_k (by omega)]
    rw [er]
    refine ⟨fun q hq => (mset_cell _ hq).trans (h1 q hq), fun j hj => ?_, fun x hx => ?_⟩
    · by_cases e : j = c
      · subst e; rw [mset_eq]
      · rw [mset_ne _ (fun q => e (hO.2.2.2.2.1 j c (by omega) (by omega) (by omega)))]
        exact h2 j (by omega)
    · rw [mset_ne _ (fun q => hx c (by omega) q.2)]
      exact h3 x (fun j hj => hx j (by omega))
theorem reval_st (hO : OD u T wf τ0 n D Y C) {m : zmem} (hV : RV T wf n m) {p : Nat → Nat} (hP : PX m n p) (hp : ∀ j, j < n → p j < Y) {τ : Nat → Int32} (hT : TX wf τ0 τ n p) {b : zbest} (hB : RB wf n m b) : RV T wf n (reval C D n m) ∧ reval C D n m 69 = m 69 ∧ RB wf n (reval C D n m) (scn1 u b τ) := by
  obtain ⟨hD, hY, hn, hw, hinj, t1, t2, t3, ck⟩ := id hO
  obtain ⟨r1, r2, r3⟩ := rev1_at hO hV n (Nat.le_refl _)
  have em : rev1 n m = sfold rpl n 0 m := rfl
  obtain ⟨v, ev⟩ : ∃ x, x = rev1 n m := ⟨_, rfl⟩
  rw [← em, ← ev] at r1 r2 r3
  have v58 : ∀ x, x < 140 → v 58 x = T 58 x := fun x hx => (r3 x (fun j _ => by omega)).trans (hV.low hx)
  have yv : ∀ k, k < D → τ k = wt v 100 40 (Int32.ofNat k) := fun k hk => by
    rw [wt_k (by omega)]
    by_cases z : ∃ j, j < n ∧ k = wf j
    · obtain ⟨j, hj, e⟩ := z
      rw [e, hT.1 j hj, show 100 + 40 + wf j = 140 + wf j by omega, r2 j hj, hP j hj]
    · have z' : ∀ j, j < n → k ≠ wf j := fun j hj e => z ⟨j, hj, e⟩
      rw [hT.2 k z', t1 k hk, wt_k (by omega), show 100 + 40 + k = 140 + k by omega, r3 _ (fun j hj e => z' j hj (by omega)), hV.2.2 _ (fun j hj e => z' j hj (by omega))]
  have ly : LY (p53 u τ) v 100 D Y := by
    refine ⟨fun k hk => by rw [p53_53]; exact yv k hk, fun k h1 h2 => ?_, fun k hk => ?_⟩
    · rw [p53_53, hT.2 k (fun j hj e => by have := (hw j hj).2; omega)]
      exact t2 k h1 h2
    · rw [← yv k hk]
      by_cases z : ∃ j, j < n ∧ k = wf j
      · obtain ⟨j, hj, e⟩ := z
        rw [e, hT.1 j hj]
        exact Or.inr ⟨p j, hp j hj, rfl⟩
      · rw [hT.2 k (fun j hj e => z ⟨j, hj, e⟩), t1 k hk]
        exact t3 k hk
  have v63 : v 63 = T 63 := (r1 63 (by decide)).trans (hV.1 63 (by decide) (by decide) (by decide) (by decide))
  have v65 : v 65 = T 65 := (r1 65 (by decide)).trans (hV.1 65 (by decide) (by decide) (by decide) (by decide))
  have ck2 : CK (p53 u τ) v 100 C D := fun a ha b hb => by
    rw [p53_ne u τ (by decide), p53_ne u τ (by decide), rabc_c v58 v63 v65 (by omega) (by omega), v63]
    exact ck a ha b hb
  have q : rquar v 100 C D = Qf u τ := (quar_eq ly ck2 hD hY).symm
  have VV : RV T wf n v := ⟨fun q h1 h2 h3 h4 => (r1 q h2).trans (hV.1 q h1 h2 h3 h4), fun j hj => by rw [r1 57 (by decide)]; exact hV.2.1 j hj, fun x hx => (r3 x hx).trans (hV.2.2 x hx)⟩
  have v69 : v 69 = m 69 := r1 69 (by decide)
  have two : RV T wf n (rev2 C D n v) ∧ rev2 C D n v 69 = m 69 ∧ RB wf n (rev2 C D n v) (some (Qf u τ, τ)) := by
    have key : ∀ c x, (∀ q, q ≠ 70 → sfold rbc c 0 x q = x q) ∧ ∀ j, j < c → sfold rbc c 0 x 70 j = x 69 j := by
      intro c
      induction c with
      | zero => intro x; exact ⟨fun _ _ => rfl, fun j hj => by omega⟩
      | succ c ih =>
        intro x
        obtain ⟨g1, g2⟩ := ih x
        rw [sfold_last, Nat.zero_add]
        have er : rbc c (sfold rbc c 0 x) = mset (sfold rbc c 0 x) 70 c (x 69 c) := by
          show mset (sfold rbc c 0 x) 70 c (sfold rbc c 0 x 69 c) = _
          rw [g1 69 (by decide)]
        rw [er]
        refine ⟨fun q hq => (mset_cell _ hq).trans (g1 q hq), fun j hj => ?_⟩
        by_cases e : j = c
        · subst e; rw [mset_eq]
        · rw [mset_ne _ (by omega)]; exact g2 j (by omega)
    obtain ⟨g1, g2⟩ := key n (mset v 57 25 (rquar v 100 C D))
    unfold rev2
    refine ⟨⟨fun q h1 h2 h3 h4 => by rw [g1 q h4, mset_cell _ h1]; exact VV.1 q h1 h2 h3 h4, fun j hj => by rw [g1 57 (by decide), mset_ne _ (by omega)]; exact VV.2.1 j hj, fun x hx => by rw [g1 58 (by decide), mset_cell _ (by decide)]; exact VV.2.2 x hx⟩, by rw [g1 69 (by decide), mset_cell _ (by decide)]; exact v69, ?_, ?_, fun j hj => ?_⟩
    · rw [g1 57 (by decide), mset_eq, q, (Qf_nat u τ).1]
      exact Int32.not_lt.mp (n_lt0 (by have := (Qf_nat u τ).2; omega))
    · rw [g1 57 (by decide), mset_eq, q]
    · rw [g2 j hj, mset_cell _ (by decide), v69, hP j hj]
      exact (hT.1 j hj).symm
  have v25 : v 57 25 = m 57 25 := by rw [r1 57 (by decide)]
  unfold reval
  rw [← ev, q, v25]
  cases b with
  | none =>
    have hB : m 57 25 = -1 := hB
    rw [hB, if_pos (by decide)]
    exact two
  | some x =>
    obtain ⟨b1, b2, b3⟩ := hB
    rw [if_neg (Int32.not_lt.mpr b1), b2]
    show _ ∧ _ ∧ RB wf n _ (if Qf u τ < x.1 then some (Qf u τ, τ) else some x)
    by_cases e : Qf u τ < x.1
    · rw [if_neg (Int32.not_le.mpr e), if_pos e]
      exact two
    · rw [if_pos (Int32.not_lt.mp e), if_neg e]
      refine ⟨VV, v69, by rw [v25]; exact b1, by rw [v25]; exact b2, fun j hj => by rw [r1 70 (by decide)]; exact b3 j hj⟩
/-- what is wanted behind the tries of all that stand behind the first k -/
def Kn (D Y C n k : Nat) (m mR : zmem) : Prop := if (rgo D Y n k m).1 = 0 then mR = (rgo D Y n k m).2 else ∃ f, rlsP D Y C n f (rgo D Y n k m).2 mR
theorem odo (hO : OD u T wf τ0 n D Y C) (hn0 : 0 < n) : ∀ r k, k + r = n → ∀ m τ U p b, RV T wf n m → PX m k p → UX T D Y U k p → TX wf τ0 τ k p → r ≤ cntU U 8 → RB wf n m b → ∃ ms, RV T wf n ms ∧ PX ms k p ∧ RB wf n ms (scn u b (cmps (wsf wf r k) τ U)) ∧ ∀ mR, Kn D Y C n k ms mR → ∃ f, rlsP D Y C n f (rfill D Y k n m) mR := by
  have hY := hO.2.1
  intro r
  induction r with
  | zero =>
    intro k hk m τ U p b hV hP hU hT _ hB
    have e : k = n := by omega
    subst e
    obtain ⟨g1, g2, g3⟩ := reval_st hO hV hP hU.2 hT hB
    refine ⟨reval C D k m, g1, fun j hj => by rw [g2]; exact hP j hj, g3, fun mR hR => ?_⟩
    have er : rfill D Y k k m = m := by unfold rfill; rw [Nat.sub_self]; rfl
    have hv : ∀ j, j < k → vp_in (m 69 j) Y := fun j hj => by
      rw [hP j hj]
      have := hU.2 j hj
      intro q
      rcases q with q | q
      · exact n_lt0 (by omega) q
      · rw [natc (by omega)] at q; omega
    rw [er]
    unfold Kn at hR
    by_cases z : (rgo D Y k k (reval C D k m)).1 = 0
    · rw [if_pos z] at hR
      exact ⟨1, hv, by rw [if_neg (by omega), if_pos z]; exact hR⟩
    · rw [if_neg z] at hR
      obtain ⟨f, hf⟩ := hR
      exact ⟨f + 1, hv, by rw [if_neg (by omega), if_neg z]; exact hf⟩
  | succ r ih =>
    intro k hk m τ U p b hV hP hU hT hc hB
    have inner : ∀ c i m b, c + i = 8 → RV T wf n m → PX m k p → RB wf n m b → (rnx m D Y k i < Y → ∃ ms, RV T wf n ms ∧ PX ms k p ∧ RB wf n ms (scn u b (cmq (fun i => if U i = true then [] else cmps (wsf wf r (k + 1)) (upd τ (wf k) (Int32.ofNat i)) (usd U i)) c i)) ∧ ∀ mR, Kn D Y C n k ms mR → ∃ f, rlsP D Y C n f (rfill D Y (k + 1) n (mset m 69 k (Int32.ofNat (rnx m D Y k i)))) mR) ∧ (¬ rnx m D Y k i < Y → scn u b (cmq (fun i => if U i = true then [] else cmps (wsf wf r (k + 1)) (upd τ (wf k) (Int32.ofNat i)) (usd U i)) c i) = b) := by
      intro c
      induction c with
      | zero =>
        intro i m b hi _ _ _
        have e := rnx_end (D := D) m k (show Y ≤ i by omega)
        exact ⟨fun h => by rw [e] at h; omega, fun _ => rfl⟩
      | succ c ih2 =>
        intro i m b hi hV hP hB
        have cons : scn u b (cmq (fun i => if U i = true then [] else cmps (wsf wf r (k + 1)) (upd τ (wf k) (Int32.ofNat i)) (usd U i)) (c + 1) i) = scn u (scn u b (if U i = true then [] else cmps (wsf wf r (k + 1)) (upd τ (wf k) (Int32.ofNat i)) (usd U i))) (cmq (fun i => if U i = true then [] else cmps (wsf wf r (k + 1)) (upd τ (wf k) (Int32.ofNat i)) (usd U i)) c (i + 1)) := scn_app u _ _ b
        rw [cons]
        by_cases hiY : i < Y
        · rw [rnx_cons m k hiY, rsk_U hO hV hP hU hiY]
          by_cases z : U i = true
          · rw [if_pos z, if_pos z]
            exact ih2 (i + 1) m b (by omega) hV hP hB
          · have z' : U i = false := by simpa using z
            rw [if_neg z, if_neg z]
            refine ⟨fun _ => ?_, fun h => absurd hiY h⟩
            obtain ⟨-, fi, ni⟩ := (hU.1 i (by omega)).mp z'
            obtain ⟨p', pk, pn⟩ : ∃ p' : Nat → Nat, p' k = i ∧ ∀ j, j ≠ k → p' j = p j := ⟨fun j => if j = k then i else p j, if_pos rfl, fun j hj => if_neg hj⟩
            have hPX : PX (mset m 69 k (Int32.ofNat i)) (k + 1) p' := fun j hj => by
              by_cases y : j = k
              · subst y; rw [mset_eq, pk]
              · rw [mset_ne _ (by omega), pn j y]; exact hP j (by omega)
            have hUX : UX T D Y (usd U i) (k + 1) p' := by
              refine ⟨fun x hx => ?_, fun j hj => ?_⟩
              · unfold usd
                by_cases y : x = i
                · subst y
                  simp only [decide_true, Bool.or_true]
                  exact ⟨fun q => absurd q (by decide), fun q => absurd pk (q.2.2 k (by omega))⟩
                · rw [decide_eq_false y, Bool.or_false, hU.1 x hx]
                  constructor
                  · intro ⟨q1, q2, q3⟩
                    refine ⟨q1, q2, fun j hj => ?_⟩
                    by_cases w : j = k
                    · rw [w, pk]; exact fun e => y e.symm
                    · rw [pn j w]; exact q3 j (by omega)
                  · intro ⟨q1, q2, q3⟩
                    refine ⟨q1, q2, fun j hj => ?_⟩
                    have := q3 j (by omega)
                    rw [pn j (by omega)] at this
                    exact this
              · by_cases w : j = k
                · rw [w, pk]; exact hiY
                · rw [pn j w]; exact hU.2 j (by omega)
            have hTX : TX wf τ0 (upd τ (wf k) (Int32.ofNat i)) (k + 1) p' := by
              refine ⟨fun j hj => ?_, fun x hx => ?_⟩
              · by_cases w : j = k
                · subst w; rw [pk]; simp [upd]
                · rw [pn j w]
                  have : ¬ wf j = wf k := fun e => w (hO.2.2.2.2.1 j k (by omega) (by omega) e)
                  simp only [upd]
                  rw [if_neg this]
                  exact hT.1 j (by omega)
              · have : ¬ x = wf k := hx k (by omega)
                simp only [upd]
                rw [if_neg this]
                exact hT.2 x (fun j hj => hx j (by omega))
            obtain ⟨m1, a1, a2, a3, a4⟩ := ih (k + 1) (by omega) (mset m 69 k (Int32.ofNat i)) (upd τ (wf k) (Int32.ofNat i)) (usd U i) p' b (hV.m69 _ _) hPX hUX hTX (by
              have := (cntU_usd (U := U) (i := i) 8).2 (by omega) z'
              omega) (hB.m69 _ _)
            have p1 : PX m1 k p := fun j hj => by
              have := a2 j (by omega)
              rw [pn j (by omega)] at this
              exact this
            have e69 : m1 69 k = Int32.ofNat i := by
              have := a2 k (by omega)
              rw [pk] at this
              exact this
            have gx : rgox D Y k m1 = rnx m1 D Y k (i + 1) := by unfold rgox; rw [e69, natc (by omega)]
            have g2 := ih2 (i + 1) m1 _ (by omega) a1 p1 a3
            by_cases x2 : rnx m1 D Y k (i + 1) < Y
            · obtain ⟨ms, c1, c2, c3, c4⟩ := g2.1 x2
              refine ⟨ms, c1, c2, c3, fun mR hR => a4 mR ?_⟩
              unfold Kn
              have ego : rgo D Y n (k + 1) m1 = (1, rfill D Y (k + 1) n (mset m1 69 k (Int32.ofNat (rnx m1 D Y k (i + 1))))) := by
                show (if rgox D Y k m1 < Y then (1, rfill D Y (k + 1) n (mset m1 69 k (Int32.ofNat (rgox D Y k m1)))) else rgo D Y n k (mset m1 69 k (Int32.ofNat (rgox D Y k m1)))) = _
                rw [gx, if_pos x2]
              rw [ego, if_neg (show ¬ (1 : Int32) = 0 by decide)]
              exact c4 mR hR
            · refine ⟨mset m1 69 k (Int32.ofNat (rnx m1 D Y k (i + 1))), a1.m69 _ _, fun j hj => by rw [mset_ne _ (by omega)]; exact p1 j hj, ?_, fun mR hR => a4 mR ?_⟩
              · rw [g2.2 x2]; exact a3.m69 _ _
              · unfold Kn at hR ⊢
                have ego : rgo D Y n (k + 1) m1 = rgo D Y n k (mset m1 69 k (Int32.ofNat (rnx m1 D Y k (i + 1)))) := by
                  show (if rgox D Y k m1 < Y then (1, rfill D Y (k + 1) n (mset m1 69 k (Int32.ofNat (rgox D Y k m1)))) else rgo D Y n k (mset m1 69 k (Int32.ofNat (rgox D Y k m1)))) = _
                  rw [gx, if_neg x2]
                rw [ego]
                exact hR
        · have z : U i = true := by
            by_cases z : U i = true
            · exact z
            · have z' : U i = false := by simpa using z
              exact absurd ((hU.1 i (by omega)).mp z').1 hiY
          have e := rnx_end (D := D) m k (show Y ≤ i by omega)
          have e2 := rnx_end (D := D) m k (show Y ≤ i + 1 by omega)
          rw [if_pos z]
          exact ⟨fun h => by rw [e] at h; omega, fun _ => (ih2 (i + 1) m b (by omega) hV hP hB).2 (by rw [e2]; omega)⟩
    obtain ⟨i, hi, hUi⟩ := cntU_pos 8 (show 0 < cntU U 8 by omega)
    have lt := rnx_lt hO hV hP hU Y 0 (by omega) ⟨i, Nat.zero_le _, ((hU.1 i hi).mp hUi).1, hUi⟩
    obtain ⟨ms, c1, c2, c3, c4⟩ := (inner 8 0 m b rfl hV hP hB).1 lt
    refine ⟨ms, c1, c2, c3, fun mR hR => ?_⟩
    have er : rfill D Y k n m = rfill D Y (k + 1) n (mset m 69 k (Int32.ofNat (rnx m D Y k 0))) := by
      unfold rfill
      rw [show n - k = (n - (k + 1)) + 1 by omega]
      rfl
    rw [er]
    exact c4 mR hR
end OD
/-! laying -/
theorem shr1 (x : Int32) {k : Nat} (hk : k < 32) : (x >>> (Int32.ofNat k &&& 31)) &&& 1 = if bt x k = true then 1 else 0 := by
  apply bt_ext
  intro j hj
  rw [bt_and, bt_one j hj]
  by_cases e : j = 0
  · subst e
    rw [bt_shr x hk]
    by_cases z : bt x k = true
    · rw [z, if_pos rfl]; decide
    · have z' : bt x k = false := by simpa using z
      rw [z', if_neg (by decide)]; decide
  · rw [decide_eq_false e, Bool.and_false]
    by_cases z : bt x k = true
    · rw [if_pos z, bt_one j hj, decide_eq_false e]
    · rw [if_neg z, bt_zero]
theorem sum_cnt {g : Nat → Int32} {U : Nat → Bool} : ∀ n, (∀ i, i < n → g i = if U i = true then 0 else 1) → sfold (fun k s => s + g k) n 0 0 = Int32.ofNat (cntU U n) := by
  intro n
  induction n with
  | zero => intro _; rfl
  | succ n ih =>
    intro h
    rw [sfold_last, Nat.zero_add, ih (fun i hi => h i (by omega)), h n (by omega)]
    show _ = Int32.ofNat (cntU U n + if U n = true then 0 else 1)
    by_cases e : U n = true
    · rw [if_pos e, if_pos e, Int32.add_zero]; rfl
    · rw [if_neg e, if_neg e, nat_succ]
theorem ones_cnt (x : Int32) : rones x = Int32.ofNat (cntU (fun i => !bt x i) 8) := by
  unfold rones
  refine sum_cnt (g := fun k => (x >>> (Int32.ofNat k &&& 31)) &&& 1) 8 (fun i hi => ?_)
  show (x >>> (Int32.ofNat i &&& 31)) &&& 1 = _
  rw [shr1 x (by omega)]
  by_cases z : bt x i = true <;> simp [z]
theorem cntU_le (U : Nat → Bool) : ∀ n, cntU U n ≤ n := by
  intro n
  induction n with
  | zero => exact Nat.le_refl _
  | succ n ih =>
    show cntU U n + (if U n = true then 0 else 1) ≤ n + 1
    split <;> omega
theorem cntU_more {U : Nat → Bool} {n N : Nat} (h : n ≤ N) (hz : ∀ i, n ≤ i → i < N → U i = true) : cntU U N = cntU U n := by
  induction N with
  | zero => rw [show n = 0 by omega]
  | succ N ih =>
    by_cases e : n = N + 1
    · rw [e]
    · show cntU U N + (if U N = true then 0 else 1) = _
      rw [hz N (by omega) (by omega), if_pos rfl]
      exact ih (by omega) (fun i h1 h2 => hz i h1 (by omega))
theorem wl_s (lf : Int32) (e d : Nat) : wl lf (e + 1) d = if bt lf d = true then d :: wl lf e (d + 1) else wl lf e (d + 1) := rfl
theorem wl_len (lf : Int32) : ∀ e d, (wl lf e d).length + cntU (fun i => !bt lf i) d = cntU (fun i => !bt lf i) (d + e) := by
  intro e
  induction e with
  | zero => intro d; exact Nat.zero_add _
  | succ e ih =>
    intro d
    have g := ih (d + 1)
    have c : cntU (fun i => !bt lf i) (d + 1) = cntU (fun i => !bt lf i) d + (if (!bt lf d) = true then 0 else 1) := rfl
    rw [c] at g
    rw [show d + (e + 1) = d + 1 + e by omega, ← g]
    rw [wl_s lf e d]
    by_cases z : bt lf d = true
    · rw [if_pos z, z, List.length_cons, if_neg (by decide)]; omega
    · have z' : bt lf d = false := by simpa using z
      rw [if_neg z, z', if_pos (by decide)]; omega
theorem wl_app (lf : Int32) : ∀ e f d, wl lf (e + f) d = wl lf e d ++ wl lf f (d + e) := by
  intro e
  induction e with
  | zero => intro f d; rw [Nat.zero_add]; rfl
  | succ e ih =>
    intro f d
    rw [show e + 1 + f = (e + f) + 1 by omega, show d + (e + 1) = d + 1 + e by omega]
    rw [wl_s lf (e + f) d, wl_s lf e d]
    by_cases z : bt lf d = true
    · rw [if_pos z, if_pos z, ih f (d + 1)]; rfl
    · rw [if_neg z, if_neg z, ih f (d + 1)]
theorem wl_nil {lf : Int32} : ∀ e d, (∀ x, d ≤ x → x < d + e → bt lf x = false) → wl lf e d = [] := by
  intro e
  induction e with
  | zero => intro d _; rfl
  | succ e ih =>
    intro d h
    rw [wl_s, if_neg (by rw [h d (Nat.le_refl _) (by omega)]; decide)]
    exact ih (d + 1) (fun x h1 h2 => h x (by omega) (by omega))
theorem wsf_list (l : List Nat) : wsf (fun j => l.getD j 0) l.length 0 = l := by
  have key : ∀ (l2 l1 : List Nat), wsf (fun j => (l1 ++ l2).getD j 0) l2.length l1.length = l2 := by
    intro l2
    induction l2 with
    | nil => intro l1; rfl
    | cons a l2 ih =>
      intro l1
      show (l1 ++ a :: l2).getD l1.length 0 :: wsf (fun j => (l1 ++ a :: l2).getD j 0) l2.length (l1.length + 1) = a :: l2
      have h1 : (l1 ++ a :: l2).getD l1.length 0 = a := by simp [List.getD]
      have h2 := ih (l1 ++ [a])
      rw [List.append_assoc, List.length_append] at h2
      rw [h1]
      congr 1
  exact key l []
section LAY
variable {s t : zmem} {D Y C L W : Nat}
theorem rcopy0 (t : zmem) : (∀ q, q ≠ 58 → rcopy t 0 100 q = t q) ∧ (∀ j, j < 100 → rcopy t 0 100 58 (100 + j) = t 58 j) ∧ ∀ i, (i < 100 ∨ 200 ≤ i) → rcopy t 0 100 58 i = t 58 i := ⟨fun q hq => rcopy_c t (by omega) hq, fun j hj => by have := rcopy_in (X := 0) (Y := 100) t (by omega) hj; rw [Nat.zero_add] at this; exact this, fun i hi => rcopy_out t (by omega) (by omega)⟩
theorem rlf_c {m : zmem} (h : ∀ x, x < 100 → m 58 x = t 58 x) {k : Nat} (hk : k < 8) : rlf m 0 (Int32.ofNat k) = rlf t 0 (Int32.ofNat k) := by
  unfold rlf
  rw [wt_k (by omega), wt_k (by omega), wt_k (by omega), wt_k (by omega), h _ (by omega), h _ (by omega)]
/-- who waits, as the reference lists them -/
theorem rfm_at (h : RP s t D Y C L W) : ∀ k, k ≤ D → (sfold rth k 0 (0, rcopy t 0 100)).1 = (wl (swait s 7 D) k 0).length ∧ (∀ q, q ≠ 68 → (sfold rth k 0 (0, rcopy t 0 100)).2 q = rcopy t 0 100 q) ∧ ∀ j, j < (wl (swait s 7 D) k 0).length → (sfold rth k 0 (0, rcopy t 0 100)).2 68 j = Int32.ofNat ((wl (swait s 7 D) k 0).getD j 0) := by
  have hD := h.hD
  obtain ⟨t0, et0⟩ : ∃ x, x = rcopy t 0 100 := ⟨_, rfl⟩
  have c0 := rcopy0 t
  rw [← et0] at c0 ⊢
  intro k
  induction k with
  | zero => intro _; exact ⟨rfl, fun _ _ => rfl, fun j hj => by simp [wl] at hj⟩
  | succ k ih =>
    intro hk
    obtain ⟨h1, h2, h3⟩ := ih (by omega)
    rw [sfold_last, Nat.zero_add]
    generalize sfold rth k 0 (0, t0) = st at h1 h2 h3
    have e : rlf st.2 0 (Int32.ofNat k) = if bt (swait s 7 D) k = true then 1 else 0 := by
      rw [rlf_c (t := t) (fun x hx => by rw [h2 58 (by decide), c0.2.2 x (by omega)]) (by omega), h.wait (by omega), shas_bt _ (by omega)]
    have ew := wl_app (swait s 7 D) k 1 0
    unfold rth
    rw [e]
    by_cases z : bt (swait s 7 D) k = true
    · have e1 : wl (swait s 7 D) 1 (0 + k) = [k] := by rw [Nat.zero_add]; show (if bt (swait s 7 D) k = true then k :: [] else []) = _; rw [if_pos z]
      rw [if_pos z, if_neg (by decide), ew, e1]
      refine ⟨by simp [h1], fun q hq => (mset_cell _ hq).trans (h2 q hq), fun j hj => ?_⟩
      rw [List.length_append] at hj
      have hj : j < (wl (swait s 7 D) k 0).length + 1 := hj
      by_cases y : j = (wl (swait s 7 D) k 0).length
      · subst y
        show mset st.2 68 st.1 (Int32.ofNat k) 68 _ = _
        rw [h1, mset_eq]
        simp [List.getD]
      · show mset st.2 68 st.1 (Int32.ofNat k) 68 j = _
        rw [mset_ne _ (by omega), h3 j (by omega)]
        have : j < (wl (swait s 7 D) k 0).length := by omega
        simp [List.getD, List.getElem?_append_left this]
    · have e1 : wl (swait s 7 D) 1 (0 + k) = [] := by rw [Nat.zero_add]; show (if bt (swait s 7 D) k = true then k :: [] else []) = _; rw [if_neg z]
      rw [if_neg z, if_pos rfl, ew, e1, List.append_nil]
      exact ⟨h1, h2, h3⟩
theorem rcnt_at (h : RP s t D Y C L W) {m : zmem} (hm : ∀ x, x < 100 → m 58 x = t 58 x) : ∀ k, k ≤ D → rcnt m k = (wl (swait s 7 D) k 0).length := by
  have hD := h.hD
  intro k
  induction k with
  | zero => intro _; rfl
  | succ k ih =>
    intro hk
    have g := ih (by omega)
    have ew := wl_app (swait s 7 D) k 1 0
    unfold rcnt at g ⊢
    rw [sfold_last, Nat.zero_add, g, rlf_c hm (by omega), h.wait (by omega), shas_bt _ (by omega), ew]
    by_cases z : bt (swait s 7 D) k = true
    · have e1 : wl (swait s 7 D) 1 (0 + k) = [k] := by rw [Nat.zero_add]; show (if bt (swait s 7 D) k = true then k :: [] else []) = _; rw [if_pos z]
      rw [if_pos z, if_neg (by decide), e1]; simp
    · have e1 : wl (swait s 7 D) 1 (0 + k) = [] := by rw [Nat.zero_add]; show (if bt (swait s 7 D) k = true then k :: [] else []) = _; rw [if_neg z]
      rw [if_neg z, if_pos rfl, e1, List.append_nil]
/-- both searches, at one state -/
theorem lay_both (h : RP s t D Y C L W) : ∃ (T : zmem) (n : Nat) (wf : Nat → Nat), (rfm t D).2 = T ∧ (rfm t D).1 = n ∧ (∀ q, q ≠ 58 → q ≠ 68 → T q = t q) ∧ (∀ i, (i < 100 ∨ 200 ≤ i) → T 58 i = t 58 i) ∧ (∀ k, k < D → inl t 0 k = true → wf (wl (swait s 7 D) k 0).length = k ∧ (wl (swait s 7 D) k 0).length < n) ∧ (∀ j, j < n → wf j < 7) ∧ (spop (ssf s 7 D Y) < spop (swait s 7 D) ↔ ¬ Int32.ofNat n ≤ rnfree T D Y) ∧ (¬ spop (ssf s 7 D Y) < spop (swait s 7 D) → ∃ (x : Int32 × (Nat → Int32)) (F : Nat) (mR : zmem), rlsP D Y C n F (rl0 t D Y) mR ∧ RV T wf n mR ∧ RB wf n mR (some x) ∧ WS (spbegin C s) (spfind (swait s 7 D) (ssf s 7 D Y) (spbegin C s)) ∧ spfind (swait s 7 D) (ssf s 7 D Y) (spbegin C s) 53 = spbegin C s 53 ∧ BR (spfind (swait s 7 D) (ssf s 7 D Y) (spbegin C s)) (some x)) := by
  have hD := h.hD
  have hY := h.hY
  have pl := begin_pl (C := C) h.s1 hD
  obtain ⟨u, hu⟩ : ∃ u, u = spbegin C s := ⟨_, rfl⟩
  rw [← hu] at pl ⊢
  obtain ⟨lf, hlf⟩ : ∃ x, x = swait s 7 D := ⟨_, rfl⟩
  obtain ⟨fr, hfr⟩ : ∃ x, x = ssf s 7 D Y := ⟨_, rfl⟩
  obtain ⟨r1, r2, r3⟩ := rfm_at h D (Nat.le_refl _)
  have c0 := rcopy0 t
  obtain ⟨T, hT⟩ : ∃ x, x = (rfm t D).2 := ⟨_, rfl⟩
  have hT2 : (sfold rth D 0 (0, rcopy t 0 100)).2 = T := hT.symm
  have hn2 : (rfm t D).1 = (wl lf D 0).length := by rw [hlf]; exact r1
  have lfb : ∀ j, j < 32 → bt lf j = (decide (j < D) && inl t 0 j) := fun j hj => by rw [hlf]; exact bt_swait h.p h.s1 hD hj
  have eW : wl lf 7 0 = wl lf D 0 := by
    have g := wl_app lf D (7 - D) 0
    rw [show D + (7 - D) = 7 by omega, wl_nil (7 - D) (0 + D) (fun x h1 h2 => by rw [lfb x (by omega), decide_eq_false (by omega), Bool.false_and]), List.append_nil] at g
    exact g
  rw [hT2] at r2 r3
  rw [← hlf] at r3
  have Tq : ∀ q, q ≠ 58 → q ≠ 68 → T q = t q := fun q h1 h2 => (r2 q h2).trans (c0.1 q h1)
  have T58 : ∀ i, (i < 100 ∨ 200 ≤ i) → T 58 i = t 58 i := fun i hi => by rw [r2 58 (by decide)]; exact c0.2.2 i hi
  have Tin : ∀ j, j < 100 → T 58 (100 + j) = t 58 (0 + j) := fun j hj => by rw [r2 58 (by decide), Nat.zero_add]; exact c0.2.1 j hj
  have pT : PR s 7 T 100 D Y := h.p.move hD hY (fun _ _ _ _ _ => rfl) ⟨rfl, rfl, rfl⟩ Tin (Tq 63 (by decide) (by decide))
  have clT : CL s T C := fun k hk => by rw [Tq 65 (by decide) (by decide)]; exact h.cl k hk
  have ck := pl.ck pT hD clT h.hC
  have ly := pl.ly pT hD
  obtain ⟨n, hn⟩ : ∃ n, n = (wl lf D 0).length := ⟨_, rfl⟩
  have n7 : n ≤ 7 := by
    have g := wl_len lf D 0
    have := cntU_le (fun i => !bt lf i) (0 + D)
    have z : cntU (fun i => !bt lf i) 0 = 0 := rfl
    omega
  let wf : Nat → Nat := fun j => (wl lf D 0).getD j 0
  have wfe : ∀ j, (hj : j < n) → wf j = (wl lf D 0)[j]'(by omega) := fun j hj => by
    show (wl lf D 0).getD j 0 = _
    rw [List.getD_eq_getElem?_getD, List.getElem?_eq_getElem (by omega)]
    rfl
  have wfm : ∀ j, j < n → wf j < D ∧ bt lf (wf j) = true := fun j hj => by
    have := wl_mem D 0 (x := wf j) (by rw [wfe j hj]; exact List.getElem_mem _)
    exact ⟨by omega, this.2.2⟩
  have inj : ∀ i j, i < n → j < n → wf i = wf j → i = j := fun i j hi hj e => by
    rw [wfe i hi, wfe j hj] at e
    exact (List.getElem_inj (wl_nd lf D 0)).mp e
  have OO : OD u T wf (u 53) n D Y C := ⟨hD, hY, n7, fun j hj => ⟨r3 j (by omega), (wfm j hj).1⟩, inj, fun k hk => ly.1 k hk, ly.2.1, ly.2.2, ck⟩
  -- free yards
  have frb : ∀ i, i < 8 → bt fr i = (decide (i < Y) && decide (fre T D i)) := fun i hi => by
    rw [hfr, bt_ssf h.p hD hY (by omega)]
    have ef : fre T D i ↔ (wt t 0 0 (Int32.ofNat i) = 0 ∧ ¬ 0 ≤ rwho t 0 D (Int32.ofNat i)) := by
      unfold fre
      have e1 : wt T 0 0 (Int32.ofNat i) = wt t 0 0 (Int32.ofNat i) := by rw [wt_k (by omega), wt_k (by omega)]; exact T58 _ (by omega)
      have e2 : rwho T 0 D (Int32.ofNat i) = rwho t 0 D (Int32.ofNat i) := by
        unfold rwho
        refine sfind_congr D 0 (fun k _ hk => ?_)
        rw [wt_k (by omega), wt_k (by omega), T58 _ (by omega)]
      rw [e1, e2]
    by_cases z : fre T D i
    · rw [decide_eq_true z, decide_eq_true (ef.mp z)]
    · rw [decide_eq_false z, decide_eq_false (fun q => z (ef.mpr q))]
  let U0 : Nat → Bool := fun i => !bt fr i
  have UX0 : UX T D Y U0 0 (fun _ => 0) := ⟨fun i hi => by
    show (!bt fr i) = false ↔ _
    rw [frb i hi]
    by_cases z1 : i < Y
    · by_cases z2 : fre T D i
      · rw [decide_eq_true z1, decide_eq_true z2]; exact ⟨fun _ => ⟨z1, z2, fun j hj => by omega⟩, fun _ => rfl⟩
      · rw [decide_eq_true z1, decide_eq_false z2]; exact ⟨fun q => absurd q (by decide), fun q => absurd q.2.1 z2⟩
    · rw [decide_eq_false z1, Bool.false_and]; exact ⟨fun q => absurd q (by decide), fun q => absurd q.1 z1⟩, fun j hj => by omega⟩
  have cU : cntU U0 8 = cntU U0 Y := cntU_more hY (fun i h1 h2 => by
    show (!bt fr i) = true
    rw [frb i h2, decide_eq_false (by omega), Bool.false_and]; rfl)
  have frhi : ∀ k, 8 ≤ k → k < 32 → bt fr k = false := fun k h1 h2 => by
    rw [hfr]
    unfold ssf
    rw [bt_and, bt_ssoft h.p hY h2, decide_eq_false (by omega), Bool.false_and, Bool.false_and]
  have e1 : spop fr = Int32.ofNat (cntU U0 8) := (pop_eq frhi).trans (ones_cnt fr)
  have e2 : spop lf = Int32.ofNat n := by
    rw [pop_eq (fun k h1 h2 => by rw [lfb k h2, decide_eq_false (by omega), Bool.false_and]), ones_cnt]
    have g := wl_len lf 7 0
    have c7 : cntU (fun i => !bt lf i) 8 = cntU (fun i => !bt lf i) 7 := cntU_more (by decide) (fun i h1 h2 => by
      show (!bt lf i) = true
      rw [lfb i (by omega), decide_eq_false (by omega), Bool.false_and]; rfl)
    have z : cntU (fun i => !bt lf i) 0 = 0 := rfl
    rw [eW] at g
    rw [c7]
    congr 1
    have g' : (wl lf D 0).length + cntU (fun i => !bt lf i) 0 = cntU (fun i => !bt lf i) 7 := g
    omega
  have e3 : rnfree T D Y = Int32.ofNat (cntU U0 8) := by
    rw [cU]
    unfold rnfree
    refine sum_cnt (g := fun k => rfree T D (Int32.ofNat k)) Y (fun i hi => ?_)
    have f := rfree_eq (m := T) (T := T) hD (fun _ _ => rfl) (i := i) (by omega)
    have f01 : rfree T D (Int32.ofNat i) = 0 ∨ rfree T D (Int32.ofNat i) = 1 := by
      unfold rfree
      by_cases z1 : wt T 0 0 (Int32.ofNat i) = 0
      · rw [if_neg (fun q => q z1)]
        by_cases z2 : 0 ≤ rwho T 0 D (Int32.ofNat i)
        · rw [if_pos z2]; exact Or.inl rfl
        · rw [if_neg z2]; exact Or.inr rfl
      · rw [if_pos z1]; exact Or.inl rfl
    show rfree T D (Int32.ofNat i) = if (!bt fr i) = true then 0 else 1
    rw [frb i (by omega), decide_eq_true hi, Bool.true_and]
    by_cases z : fre T D i
    · rw [decide_eq_true z, if_neg (by decide)]
      rcases f01 with q | q
      · exact absurd z (f.mp q)
      · exact q
    · rw [decide_eq_false z, if_pos (by decide)]
      exact f.mpr z
  have c8 := cntU_le U0 8
  refine ⟨T, n, wf, hT.symm, by rw [hn2, hn], Tq, T58, fun k hk hin => ?_, fun j hj => by have := (wfm j hj).1; omega, ?_, fun hc => ?_⟩
  · rw [← hlf]
    have hb : bt lf k = true := by rw [lfb k (by omega), hin, decide_eq_true hk]; rfl
    have g := wl_app lf k (D - k) 0
    rw [show k + (D - k) = D by omega, show D - k = (D - k - 1) + 1 by omega, Nat.zero_add] at g
    have g2 : wl lf (D - k - 1 + 1) k = k :: wl lf (D - k - 1) (k + 1) := by show (if bt lf k = true then k :: wl lf (D - k - 1) (k + 1) else wl lf (D - k - 1) (k + 1)) = _; rw [if_pos hb]
    rw [g2] at g
    refine ⟨?_, ?_⟩
    · show (wl lf D 0).getD (wl lf k 0).length 0 = k
      rw [g]
      simp [List.getD]
    · rw [hn, g, List.length_append, List.length_cons]
      omega
  · rw [← hlf, ← hfr, e1, e2, e3, n_lt (by omega) (by omega), n_le (by omega) (by omega)]
    omega
  · rw [← hlf, ← hfr] at hc ⊢
    have hc2 := hc
    rw [e1, e2, n_lt (by omega) (by omega)] at hc2
    have ele : wsf wf n 0 = wl lf D 0 := by
      have := wsf_list (wl lf D 0)
      rw [← hn] at this
      exact this
    obtain ⟨x, ex⟩ := scn_ne (u := u) (l := cmps (wl lf D 0) (u 53) U0) (cmps_ne _ _ _ (by rw [← hn]; omega))
    -- the class
    have sy : SY u := fun a b ha hb => by
      rw [((pl.2 a ha).2 b hb).2, ((pl.2 b hb).2 a ha).2]
      unfold alb
      by_cases z : s 11 a = s 11 b
      · rw [decide_eq_true z, decide_eq_true z.symm]
      · rw [decide_eq_false z, decide_eq_false (fun q => z q.symm)]
    have eq : sqnow (mset u 50 5 0) = Qf u (u 53) := sqnow_c (by rw [mset_cell _ (by decide), p53_ne u _ (by decide)]) (by rw [mset_cell _ (by decide), p53_ne u _ (by decide)]) (by rw [mset_cell _ (by decide), p53_53])
    have cs := search_st sy (lf := lf) 7 0 (u 53) U0 fr _ (mset u 50 5 0) none rfl (fun i _ => by show bt fr i = !(!bt fr i); simp) (fun y hy => by
      have g := wl_mem 7 0 hy
      have gb := g.2.2
      rw [lfb y (by omega)] at gb
      have gb := (Bool.and_eq_true _ _).mp gb
      have hyD := of_decide_eq_true gb.1
      have gi := gb.2
      unfold inl at gi
      have gy := of_decide_eq_true ((Bool.and_eq_true _ _).mp gi).1
      rw [ly.1 y hyD, wt_k (by omega), show 100 + 40 + y = 100 + (40 + y) by omega, Tin _ (by omega)]
      rw [wt_k (by omega)] at gy
      rw [← gy]
      congr 1
      omega) (fun q h1 _ _ => mset_cell _ h1) (mset_cell _ (by decide)) eq (mset_eq _ _ _ _)
    rw [eW, ex] at cs
    have ef : spfind lf fr u = sserch 7 0 lf fr (sqnow (mset u 50 5 0)) (mset u 50 5 0) := by unfold spfind; rw [if_neg hc]
    rw [← ef] at cs
    -- the reference
    have RV0 : RV T wf n (mset T 57 25 (-1)) := ⟨fun q h1 _ _ _ => mset_cell _ h1, fun j hj => mset_ne _ (by omega), fun x _ => by rw [mset_cell _ (by decide)]⟩
    have RB0 : RB wf n (mset T 57 25 (-1)) none := mset_eq _ _ _ _
    have el0 : rl0 t D Y = rfill D Y 0 n (mset T 57 25 (-1)) := by unfold rl0; rw [hn2, ← hn, ← hT]
    by_cases n0 : n = 0
    · have g := reval_st OO RV0 (p := fun _ => 0) (fun j hj => by omega) (fun j hj => by omega) (τ := u 53) ⟨fun j hj => by omega, fun _ _ => rfl⟩ RB0
      have e0 : wl lf D 0 = [] := List.eq_nil_of_length_eq_zero (by omega)
      rw [e0] at ex
      have ex : scn1 u none (u 53) = some x := ex
      rw [ex] at g
      refine ⟨x, 1, reval C D n (mset T 57 25 (-1)), ?_, g.1, g.2.2, cs.1, cs.2.1, cs.2.2⟩
      rw [el0]
      refine ⟨fun j hj => by omega, ?_⟩
      rw [if_pos n0]
      have : rfill D Y 0 n (mset T 57 25 (-1)) = mset T 57 25 (-1) := by rw [n0]; rfl
      rw [this]
    · obtain ⟨ms, g1, g2, g3, g4⟩ := odo OO (by omega) n 0 (by omega) (mset T 57 25 (-1)) (u 53) U0 (fun _ => 0) none RV0 (fun j hj => by omega) UX0 ⟨fun j hj => by omega, fun _ _ => rfl⟩ (by omega) RB0
      rw [ele, ex] at g3
      obtain ⟨F, hF⟩ := g4 ms (by unfold Kn; rw [show rgo D Y n 0 ms = (0, ms) from rfl]; dsimp only; rw [if_pos rfl])
      rw [← el0] at hF
      exact ⟨x, F, ms, hF, g1, g3, cs.1, cs.2.1, cs.2.2⟩
end LAY
section LAY3
variable {s t : zmem} {D Y C L W : Nat}
/-- the call, once both have searched -/
theorem lay_call {u mC mR T : zmem} {n : Nat} {wf : Nat → Nat} {x : Int32 × (Nat → Int32)} (h : RP s t D Y C L W) (hu : W3 s u) (hC : WS u mC) (h53 : True) (hB : BR mC (some x)) (hR : RB wf n mR (some x)) (h58 : ∀ i, i < 100 → mR 58 i = t 58 i) (hw : ∀ k, k < D → inl t 0 k = true → wf (wl (swait s 7 D) k 0).length = k ∧ (wl (swait s 7 D) k 0).length < n) {d : Int32} (hd : ¬ (¬ d = -1 ∧ sin (s 7 1) d = 0)) : (if mC 50 5 = 0 then -1 else if d = -1 then mC 50 4 else if shas (swait mC 7 D) d = 0 then -1 else aat 7 (mC 54) d) = (if (1 : Int32) = 0 then -1 else if 0 ≤ d then (if rlf mR 0 d = 0 then -1 else mR 70 (rcnt mR d.toNatClampNeg)) else mR 57 25) := by
  obtain ⟨b1, b2, b3⟩ := hB
  obtain ⟨c1, c2, c3⟩ := hR
  have hD := h.hD
  rw [if_neg b1, if_neg (show ¬ (1 : Int32) = 0 by decide)]
  by_cases e : d = -1
  · rw [if_pos e, e, if_neg (show ¬ (0 : Int32) ≤ -1 by decide), b2, c2]
  · obtain ⟨k, hk, rfl⟩ := h.dex (fun q => hd ⟨e, q⟩)
    rw [if_neg e, if_pos (Int32.not_lt.mp (n_lt0 (by omega))), natc (by omega)]
    have es : swait mC 7 D = swait s 7 D := wait_same ⟨by rw [hC 7 (by decide) (by decide) (by decide), hu 7 (by decide) (by decide) (by decide)], by rw [hC 7 (by decide) (by decide) (by decide), hu 7 (by decide) (by decide) (by decide)]⟩ (by rw [hC 14 (by decide) (by decide) (by decide), hu 14 (by decide) (by decide) (by decide)])
    rw [es, rlf_c h58 (by omega), h.wait hk, rcnt_at h h58 k (by omega)]
    by_cases z : shas (swait s 7 D) (Int32.ofNat k) = 0
    · rw [if_pos z, if_pos z]
    · rw [if_neg z, if_neg z]
      have hin : inl t 0 k = true := by
        rw [has_wait h.p h.s1 hD hk] at z
        by_cases y : inl t 0 k = true
        · exact y
        · rw [if_neg y] at z; exact absurd rfl z
      obtain ⟨w1, w2⟩ := hw k hk hin
      rw [c3 _ w2, w1, aat_k (by omega) (by decide)]
      exact b3 k (by omega)
theorem FC.WS {u m : zmem} (h : WS u m) : FC u m := ⟨fun q hq => h q (by rintro rfl; cases hq) (by rintro rfl; cases hq) (by rintro rfl; cases hq), fun j _ => by rw [h 7 (by decide) (by decide) (by decide)]⟩
theorem P_laying (x0 : Int32) : PB MX6_laying MX7_laying [.int x0] Rel := by
  refine PB_mk (d6 := 14) (d7 := 6) (by decide) (by decide) (fun m D Y C L W hm => ?_)
  have c6 := c6_laying hm.c (d := x0)
  have hD := hm.hD
  have hY := hm.hY
  by_cases hg : ¬ x0 = -1 ∧ sin (m 7 1) x0 = 0
  · have e6 : sk_laying m D Y C x0 = (-1000000001, m) := by unfold sk_laying; rw [if_pos hg]
    rw [e6] at c6
    refine ⟨-1000000001, m, m, c6, fun _ _ => rfl, fun _ _ => rfl, fun hm1 => ?_⟩
    obtain ⟨T, n, wf, e1, e2, -, -, -, -, e8, e9⟩ := lay_both hm1
    have hP : ∃ (F : Nat) (mR : zmem), Int32.ofNat (rfm m D).1 ≤ rnfree (rfm m D).2 D Y → rlsP D Y C (rfm m D).1 F (rl0 m D Y) mR := by
      rw [e1, e2]
      by_cases q : spop (ssf m 7 D Y) < spop (swait m 7 D)
      · exact ⟨0, m, fun z => absurd z (e8.mp q)⟩
      · obtain ⟨x, F, mR, f1, -⟩ := e9 q
        exact ⟨F, mR, fun _ => f1⟩
    obtain ⟨F, mR, hP⟩ := hP
    have c7 := c7_laying hm1.r (d := x0) hP
    have e7 : rk_laying m D Y x0 mR = (-1000000001, m) := by unfold rk_laying; rw [if_pos (by rw [hm1.sin1]; exact hg)]
    rw [e7] at c7
    exact ⟨c7, D, Y, C, L, W, hm⟩
  · have pl := begin_pl (C := C) hm.s1 hD
    obtain ⟨mC, hmC⟩ : ∃ x, x = sk_layfm m D Y C := ⟨_, rfl⟩
    have e6 : sk_laying m D Y C x0 = (if mC 50 5 = 0 then -1 else if x0 = -1 then mC 50 4 else if shas (swait mC 7 D) x0 = 0 then -1 else aat 7 (mC 54) x0, mC) := by unfold sk_laying; rw [if_neg hg, ← hmC]
    rw [e6] at c6
    have both := fun t (ht : RP m t D Y C L W) => lay_both ht
    have ew : swait (spbegin C m) 7 D = swait m 7 D ∧ ssf (spbegin C m) 7 D Y = ssf m 7 D Y := by
      have w := pl.1
      generalize spbegin C m = u at w
      refine ⟨wait_same ⟨by rw [w 7 (by decide) (by decide) (by decide)], by rw [w 7 (by decide) (by decide) (by decide)]⟩ (w 14 (by decide) (by decide) (by decide)), ?_⟩
      unfold ssf ssoft staken
      rw [w (7 + 1) (by decide) (by decide) (by decide), w (7 + 7) (by decide) (by decide) (by decide)]
    have emC : mC = spfind (swait m 7 D) (ssf m 7 D Y) (spbegin C m) := by rw [hmC]; unfold sk_layfm; rw [ew.1, ew.2]
    have w3 := pl.1
    obtain ⟨u, hu⟩ : ∃ u, u = spbegin C m := ⟨_, rfl⟩
    rw [← hu] at emC w3
    simp only [← hu] at both
    simp only [← emC] at both
    have mCs : WS u mC := by
      by_cases q : spop (ssf m 7 D Y) < spop (swait m 7 D)
      · rw [emC]
        unfold spfind
        rw [if_pos q]
        exact fun a h1 _ _ => mset_cell _ h1
      · obtain ⟨T, n, wf, -, -, -, -, -, -, -, e9⟩ := both m hm
        obtain ⟨x, F, mR, -, -, -, f4, -, -⟩ := e9 q
        exact f4
    have fc : FC m mC := (FC.W3 w3).tr (FC.WS mCs)
    have hk : ∀ q, 57 ≤ q → mC q = m q := fun q hq => fc.1 q (by simp [gC]; omega)
    have hm1 : RP m mC D Y C L W := hm.congr (fun _ _ => rfl) hk
    obtain ⟨T, n, wf, e1, e2, e3, e4, e5, e6', e8, e9⟩ := both mC hm1
    have pc : ∀ t', (∀ i, i < 100 → t' 58 i = mC 58 i) → t' 63 = mC 63 → PR mC 7 t' 0 D Y := fun t' h1 h2 => hm1.p.congr (fun c hc => by rw [mCs _ (by omega) (by omega) (by omega), w3 _ (by omega) (by omega) (by omega)]) (fun j hj => by rw [Nat.zero_add]; exact h1 j hj) h2 hD hY
    by_cases q : spop (ssf m 7 D Y) < spop (swait m 7 D)
    · have nq := e8.mp q
      have c7 := c7_laying hm1.r (d := x0) (F := 0) (mR := mC) (fun z => by rw [e1, e2] at z; exact absurd z nq)
      have efl : rk_fl mC D Y mC = (0, T) := by unfold rk_fl; rw [e1, e2, if_neg nq]
      have e7 : rk_laying mC D Y x0 mC = (-1, T) := by unfold rk_laying; rw [if_neg (by rw [hm1.sin1]; exact hg), efl, if_pos rfl]
      rw [e7] at c7
      have em : mC 50 5 = 0 := by rw [emC]; unfold spfind; rw [if_pos q, mset_eq]
      rw [em, if_pos rfl] at c6
      have ft : FT mC T := ⟨fun a ha => e3 a (by rintro rfl; cases ha) (by rintro rfl; cases ha), fun i hi => e4 i (Or.inr hi), fun i _ => by rw [e3 57 (by decide) (by decide)]⟩
      exact ⟨-1, mC, T, c6, hk, fun a ha => ft.1 a (by simp [gR]; omega), fun _ => ⟨c7, D, Y, C, L, W, hm1.now fc ft (pc T (fun i hi => e4 i (Or.inl hi)) (e3 63 (by decide) (by decide)))⟩⟩
    · obtain ⟨x, F, mR, f1, f2, f3, f4, f5, f6⟩ := e9 q
      have c7 := c7_laying hm1.r (d := x0) (F := F) (mR := mR) (fun _ => by rw [e2]; exact f1)
      have yes : Int32.ofNat n ≤ rnfree T D Y := Classical.byContradiction (fun z => q (e8.mpr z))
      have efl : rk_fl mC D Y mR = (1, mR) := by unfold rk_fl; rw [e1, e2, if_pos yes]
      have R58 : ∀ i, (i < 100 ∨ 200 ≤ i) → mR 58 i = mC 58 i := fun i hi => (f2.2.2 i (fun j hj e => by have := e6' j hj; omega)).trans (e4 i hi)
      have e7 : rk_laying mC D Y x0 mR = (if (1 : Int32) = 0 then -1 else if 0 ≤ x0 then (if rlf mR 0 x0 = 0 then -1 else mR 70 (rcnt mR x0.toNatClampNeg)) else mR 57 25, mR) := by unfold rk_laying; rw [if_neg (by rw [hm1.sin1]; exact hg), efl]
      rw [e7] at c7
      have ea := lay_call (T := T) hm1 w3 mCs trivial f6 f3 (fun i hi => R58 i (Or.inl hi)) e5 (d := x0) hg
      rw [← ea] at c7
      have ft : FT mC mR := ⟨fun a ha => by
        have z : a ≠ 57 ∧ a ≠ 58 ∧ a ≠ 69 ∧ a ≠ 70 ∧ a ≠ 68 := ⟨(by rintro rfl; cases ha), (by rintro rfl; cases ha), (by rintro rfl; cases ha), (by rintro rfl; cases ha), (by rintro rfl; cases ha)⟩
        rw [f2.1 a z.1 z.2.1 z.2.2.1 z.2.2.2.1]; exact e3 a z.2.1 z.2.2.2.2, fun i hi => R58 i (Or.inr hi), fun i hi => by rw [f2.2.1 i hi, e3 57 (by decide) (by decide)]⟩
      have m63 : mR 63 = mC 63 := by rw [f2.1 63 (by decide) (by decide) (by decide) (by decide)]; exact e3 63 (by decide) (by decide)
      exact ⟨_, mC, mR, c6, hk, fun a ha => ft.1 a (by simp [gR]; omega), fun _ => ⟨c7, D, Y, C, L, W, hm1.now fc ft (pc mR (fun i hi => R58 i (Or.inl hi)) m63)⟩⟩
end LAY3
/-! the pairs -/
theorem judge_B {s t : zmem} {D Y C L W k : Nat} (h : RP s t D Y C L W) (hk : k < W) : vp_in (t 73 k) 8 ∧ vp_in (t 74 k) 8 := by
  obtain ⟨-, -, ⟨i, hi, ei⟩, j, hj, ej⟩ := h.bk k hk
  have hD := h.hD
  have hY := h.hY
  rw [ei, ej]
  have tab : ∀ i, i < 8 → vp_in (Int32.ofNat i) 8 := by unfold vp_in; decide +kernel
  exact ⟨tab i (by omega), tab j (by omega)⟩
theorem S_fault {s t : zmem} {D Y C L W : Nat} (h : RP s t D Y C L W) : SIM s t D Y (s 1 4, s) (t 57 17, t) := SIM.st h h.fl
theorem mixed_hE {s t : zmem} {D Y C L W : Nat} (h : RP s t D Y C L W) {c : Int32} (h1 : ¬ rnames t D 71 (2 ^ D - 1) = 0) (h2 : ¬ (¬ c = -1 ∧ sin (t 64 1) c = 0)) (h3 : vp_in c 8) : rmxE (rnames t D) D (c.toNatClampNeg + 1) 0 (Int32.ofNat (2 ^ D - 1)) := by
  have hD := h.hD
  have z : ¬ c = -1 := by
    intro e
    subst e
    exact absurd h3 (by unfold vp_in; decide)
  rw [h.sin1] at h2
  obtain ⟨k, hk, rfl⟩ := h.dex (fun q => h2 ⟨z, q⟩)
  rw [natc (by omega)]
  exact (mixed_E h hk h1).2
theorem bribe_E6 {m : zmem} {D Y C L W : Nat} (hI : CI m D Y C L W) (h : RP m m D Y C L W) {d p : Int32} : Ei MX6_bribe 7 [.ref 0, .int d, .int p] m (sk_bribe m D C (smin 999 (9999 - sk_had m d)).toNatClampNeg d p).1 (sk_bribe m D C (smin 999 (9999 - sk_had m d)).toNatClampNeg d p).2 := by
  by_cases h1 : sin (m 7 1) d = 0
  · have e : sk_bribe m D C (smin 999 (9999 - sk_had m d)).toNatClampNeg d p = (-1000000001, m) := by unfold sk_bribe; rw [if_pos h1]
    rw [e]
    exact c6_bribe0 h1
  · obtain ⟨k, hk, rfl⟩ := h.dex h1
    have hD := h.hD
    have c5 : colok 5 := Or.inr (Or.inr (Or.inr (Or.inl rfl)))
    obtain ⟨a, ha, ea⟩ := nat_of (n := 9999) (by decide) (h.p.1 5 c5 k hk).2.1 (h.p.1 5 c5 k hk).2.2
    have eh : sk_had m (Int32.ofNat k) = Int32.ofNat a := by
      unfold sk_had
      rw [h.p.gifts hD hk, wt_k (by omega)]
      exact ea
    have e1 : 9999 - Int32.ofNat a = Int32.ofNat (9999 - a) := by
      have : Int32.ofNat (9999 - a) + Int32.ofNat a = 9999 := by
        rw [← Int32.ofNat_add, show 9999 - a + a = 9999 by omega]; rfl
      rw [← this]; grind
    have e2 : smin 999 (9999 - sk_had m (Int32.ofNat k)) = Int32.ofNat (min 999 (9999 - a)) := by
      rw [eh, e1]
      unfold smin
      by_cases q : 9999 - a < 999
      · rw [if_pos (show Int32.ofNat (9999 - a) < 999 from (n_lt (b := 999) (by omega) (by decide)).mpr q)]
        congr 1; omega
      · rw [if_neg (fun z : Int32.ofNat (9999 - a) < 999 => q ((n_lt (b := 999) (by omega) (by decide)).mp z)), show min 999 (9999 - a) = 999 by omega]
        rfl
    have e3 : (smin 999 (9999 - sk_had m (Int32.ofNat k))).toNatClampNeg = min 999 (9999 - a) := by rw [e2, natc (by omega)]
    exact c6_bribe hI (by rw [e3]; exact e2) (by rw [e3]; omega)
theorem P_feed (x0 : Int32) (x1 : Int64) : PB MX6_feed MX7_feed [.int x0, .long x1] Rel := PB_any (d6 := 2) (d7 := 1) (fun m D Y C L W => sk_feed m x0 x1) (fun t D Y C L W => rk_feed t x0 x1) (by decide) (by decide) (fun m D Y C L W hI hr => c6_feed hI) (fun s t D Y C L W hI hr => c7_feed hr.L1.2.1 hr.L1.2.2) (fun s t D Y C L W h => S_feed h x0 x1)
theorem P_fault  : PB MX6_fault MX7_fault [] Rel := PB_now (d6 := 1) (d7 := 0) (fun m D Y C L W => (m 1 4, m)) (fun t D Y C L W => (t 57 17, t)) (by decide) (by decide) (fun m D Y C L W hI hr => c6_fault hI) (fun s t D Y C L W hI hr => c7_fault) (fun s t D Y C L W h => S_fault h)
theorem P_told (x0 : Int32) : PB MX6_told MX7_told [.int x0] Rel := PB_now (d6 := 5) (d7 := 2) (fun m D Y C L W => (sk_told m D x0, m)) (fun t D Y C L W => (rk_told t D x0, t)) (by decide) (by decide) (fun m D Y C L W hI hr => c6_told hI) (fun s t D Y C L W hI hr => c7_told hI) (fun s t D Y C L W h => S_told h x0)
theorem P_yard (x0 x1 : Int32) : PB MX6_yard MX7_yard [.int x0, .int x1] Rel := PB_now (d6 := 5) (d7 := 2) (fun m D Y C L W => (sk_yard m D x0 x1, m)) (fun t D Y C L W => (rk_yard t D x0 x1, t)) (by decide) (by decide) (fun m D Y C L W hI hr => c6_yard hI) (fun s t D Y C L W hI hr => c7_yard hI) (fun s t D Y C L W h => S_yard h x0 x1)
theorem P_dead (x0 x1 : Int32) : PB MX6_dead MX7_dead [.int x0, .int x1] Rel := PB_now (d6 := 5) (d7 := 2) (fun m D Y C L W => (sk_dead m x0 x1, m)) (fun t D Y C L W => (rk_dead t x0 x1, t)) (by decide) (by decide) (fun m D Y C L W hI hr => c6_dead hI) (fun s t D Y C L W hI hr => c7_dead hI) (fun s t D Y C L W h => S_dead h x0 x1)
theorem P_order (x0 : Int32) : PB MX6_order MX7_order [.int x0] Rel := PB_now (d6 := 6) (d7 := 5) (fun m D Y C L W => (sk_order m D C x0, m)) (fun t D Y C L W => (rorder t 0 C D x0, t)) (by decide) (by decide) (fun m D Y C L W hI hr => c6_order hI) (fun s t D Y C L W hI hr => c7_orderp hI) (fun s t D Y C L W h => S_order h x0)
theorem P_letter (x0 x1 : Int32) : PB MX6_letter MX7_letter [.int x0, .int x1] Rel := PB_now (d6 := 5) (d7 := 2) (fun m D Y C L W => sk_letter m x0 x1) (fun t D Y C L W => rk_letter t x0 x1) (by decide) (by decide) (fun m D Y C L W hI hr => c6_letter hI) (fun s t D Y C L W hI hr => c7_letter hI) (fun s t D Y C L W h => S_letter h x0 x1)
theorem P_gift (x0 x1 : Int32) : PB MX6_gift MX7_gift [.int x0, .int x1] Rel := PB_now (d6 := 5) (d7 := 2) (fun m D Y C L W => sk_gift m D x0 x1) (fun t D Y C L W => rk_gift t x0 x1) (by decide) (by decide) (fun m D Y C L W hI hr => c6_gift hI) (fun s t D Y C L W hI hr => c7_gift hI) (fun s t D Y C L W h => S_gift h x0 x1)
theorem P_knock (x0 : Int32) : PB MX6_knock MX7_knock [.int x0] Rel := PB_now (d6 := 6) (d7 := 4) (fun m D Y C L W => sk_knock m D C x0) (fun t D Y C L W => rk_knock t D C x0) (by decide) (by decide) (fun m D Y C L W hI hr => c6_knock hI) (fun s t D Y C L W hI hr => c7_knock hI) (fun s t D Y C L W h => S_knock h x0)
theorem P_day (x0 : Int32) : PB MX6_day MX7_day [.int x0] Rel := PB_now (d6 := 6) (d7 := 2) (fun m D Y C L W => sk_day m D Y x0) (fun t D Y C L W => rk_day t D Y x0) (by decide) (by decide) (fun m D Y C L W hI hr => c6_day hI) (fun s t D Y C L W hI hr => c7_day hI) (fun s t D Y C L W h => S_day h x0)
theorem P_rats (x0 x1 : Int32) : PB MX6_rats MX7_rats [.int x0, .int x1] Rel := PB_now (d6 := 6) (d7 := 2) (fun m D Y C L W => sk_rats m D x0 x1) (fun t D Y C L W => rk_rats t D x0 x1) (by decide) (by decide) (fun m D Y C L W hI hr => c6_rats hI) (fun s t D Y C L W hI hr => c7_rats hI) (fun s t D Y C L W h => S_rats h x0 x1)
theorem P_lay (x0 x1 : Int32) : PB MX6_lay MX7_lay [.int x0, .int x1] Rel := PB_now (d6 := 6) (d7 := 2) (fun m D Y C L W => sk_lay m D x0 x1) (fun t D Y C L W => rk_lay t D x0 x1) (by decide) (by decide) (fun m D Y C L W hI hr => c6_lay hI) (fun s t D Y C L W hI hr => c7_lay hI) (fun s t D Y C L W h => S_lay h x0 x1)
theorem P_spring (x0 x1 : Int32) : PB MX6_spring MX7_spring [.int x0, .int x1] Rel := PB_now (d6 := 8) (d7 := 6) (fun m D Y C L W => sk_spring m D Y C x0 x1) (fun t D Y C L W => rk_spring t D Y C x0 x1) (by decide) (by decide) (fun m D Y C L W hI hr => c6_spring hI) (fun s t D Y C L W hI hr => c7_spring hI) (fun s t D Y C L W h => S_spring h x0 x1)
theorem P_offended (x0 : Int32) : PB MX6_offended MX7_offended [.int x0] Rel := PB_now (d6 := 6) (d7 := 3) (fun m D Y C L W => sk_offended m D C x0) (fun t D Y C L W => (rk_offended t D C x0, t)) (by decide) (by decide) (fun m D Y C L W hI hr => c6_offended hI) (fun s t D Y C L W hI hr => c7_offended hI) (fun s t D Y C L W h => S_offended h x0)
theorem P_quarrels : PB MX6_quarrels MX7_quarrels [] Rel := by
  refine PB_mk (d6 := 6) (d7 := 4) (by decide) (by decide) (fun m D Y C L W hm => ?_)
  have c6 := c6_quarrels hm.c
  have key0 : ∀ t, RP m t D Y C L W → SIM m t D Y (sqnow (spbegin C m), spbegin C m) (rquar t 0 C D, t) := fun t h => S_quarrels h
  obtain ⟨u, hu⟩ : ∃ u, u = spbegin C m := ⟨_, rfl⟩
  rw [← hu] at c6
  have key : ∀ t, RP m t D Y C L W → SIM m t D Y (sqnow u, u) (rquar t 0 C D, t) := by rw [hu]; exact key0
  have s1 := key m hm
  have hk : ∀ q, 57 ≤ q → u q = m q := fun q hq => s1.2.1.1 q (by simp [gC]; omega)
  have hm1 : RP m u D Y C L W := hm.congr (fun _ _ => rfl) hk
  have s2 := key u hm1
  have c7 := c7_quarrels hm1.r
  have e : rquar u 0 C D = sqnow u := s2.1.symm
  rw [e] at c7
  exact ⟨sqnow u, u, u, c6, hk, fun _ _ => rfl, fun _ => ⟨c7, D, Y, C, L, W, hm1.now s2.2.1 s2.2.2.1 s2.2.2.2⟩⟩
theorem P_when (x0 x1 : Int32) : PB MX6_when MX7_when [.int x0, .int x1] Rel := PB_now (d6 := 6) (d7 := 3) (fun m D Y C L W => (sk_when m D Y x0 x1, m)) (fun t D Y C L W => (rk_when t D Y x0 x1, t)) (by decide) (by decide) (fun m D Y C L W hI hr => c6_when hI) (fun s t D Y C L W hI hr => c7_when hI) (fun s t D Y C L W h => S_when h x0 x1)
theorem P_span (x0 x1 x2 x3 : Int32) : PB MX6_span MX7_span [.int x0, .int x1, .int x2, .int x3] Rel := PB_now (d6 := 6) (d7 := 3) (fun m D Y C L W => (sk_span m D Y x0 x1 x2 x3, m)) (fun t D Y C L W => (rk_span t D Y x0 x1 x2 x3, t)) (by decide) (by decide) (fun m D Y C L W hI hr => c6_span hI) (fun s t D Y C L W hI hr => c7_span hI) (fun s t D Y C L W h => S_span h x0 x1 x2 x3)
theorem P_bribe (x0 x1 : Int32) : PB MX6_bribe MX7_bribe [.int x0, .int x1] Rel := PB_now (d6 := 7) (d7 := 4) (fun m D Y C L W => sk_bribe m D C (smin 999 (9999 - sk_had m x0)).toNatClampNeg x0 x1) (fun t D Y C L W => rk_bribe t C D x0 x1) (by decide) (by decide) (fun m D Y C L W hI hr => bribe_E6 hI hr) (fun s t D Y C L W hI hr => c7_bribe hI) (fun s t D Y C L W h => S_bribe h x0 x1)
theorem P_label (x0 x1 : Int32) : PB MX6_label MX7_label [.int x0, .int x1] Rel := PB_now (d6 := 5) (d7 := 2) (fun m D Y C L W => sk_label m x0 x1) (fun t D Y C L W => rk_label t x0 x1) (by decide) (by decide) (fun m D Y C L W hI hr => c6_label hI) (fun s t D Y C L W hI hr => c7_label hI) (fun s t D Y C L W h => S_label h x0 x1)
theorem P_mark (x0 x1 : Int32) : PB MX6_mark MX7_mark [.int x0, .int x1] Rel := PB_now (d6 := 5) (d7 := 2) (fun m D Y C L W => sk_mark m x0 x1) (fun t D Y C L W => rk_mark t x0 x1) (by decide) (by decide) (fun m D Y C L W hI hr => c6_mark hI) (fun s t D Y C L W hI hr => c7_mark hI) (fun s t D Y C L W h => S_mark h x0 x1)
theorem P_fits  : PB MX6_fits MX7_fits [] Rel := PB_now (d6 := 4) (d7 := 3) (fun m D Y C L W => (aat 128 (scw m D (2 ^ D - 1) 56) (Int32.ofNat (2 ^ D - 1)), scw m D (2 ^ D - 1))) (fun t D Y C L W => rk_fits t D) (by decide) (by decide) (fun m D Y C L W hI hr => c6_fits hI) (fun s t D Y C L W hI hr => c7_fits hI) (fun s t D Y C L W h => S_fits h)
theorem P_mixed (x0 : Int32) : PB MX6_mixed MX7_mixed [.int x0] Rel := PB_now (d6 := 4) (d7 := 3) (fun m D Y C L W => sk_mixed m D x0) (fun t D Y C L W => rk_mixed t D x0) (by decide) (by decide) (fun m D Y C L W hI hr => c6_mixed hI) (fun s t D Y C L W hI hr => c7_mixed hI (fun h1 h2 h3 => mixed_hE hr h1 h2 h3)) (fun s t D Y C L W h => S_mixed h x0)
theorem P_churches (x0 : Int32) : PB MX6_churches MX7_churches [.int x0] Rel := PB_now (d6 := 4) (d7 := 2) (fun m D Y C L W => (sk_churches m D x0, m)) (fun t D Y C L W => (rk_churches t D x0, t)) (by decide) (by decide) (fun m D Y C L W hI hr => c6_churches hI) (fun s t D Y C L W hI hr => c7_churches hI) (fun s t D Y C L W h => S_churches h x0)
theorem P_write (x0 x1 : Int32) : PB MX6_write MX7_write [.int x0, .int x1] Rel := PB_any (d6 := 5) (d7 := 2) (fun m D Y C L W => sk_write m x0 x1) (fun t D Y C L W => rk_write t W x0 x1) (by decide) (by decide) (fun m D Y C L W hI hr => c6_write hI) (fun s t D Y C L W hI hr => c7_write hI) (fun s t D Y C L W h => S_write h x0 x1)
theorem P_tear  : PB MX6_tear MX7_tear [] Rel := PB_any (d6 := 1) (d7 := 0) (fun m D Y C L W => (m 47 2, mset m 47 2 0)) (fun t D Y C L W => rk_tear t) (by decide) (by decide) (fun m D Y C L W hI hr => c6_tear hI) (fun s t D Y C L W hI hr => c7_tear) (fun s t D Y C L W h => S_tear h)
theorem P_judge  : PB MX6_judge MX7_judge [] Rel := PB_now (d6 := 6) (d7 := 5) (fun m D Y C L W => (sk_jud m D C W 0 (swait m 7 D) (ssf m 7 D Y), m)) (fun t D Y C L W => rk_judge t D C W) (by decide) (by decide) (fun m D Y C L W hI hr => c6_judge hI) (fun s t D Y C L W hI hr => c7_judge hI (fun k hk => judge_B hr hk)) (fun s t D Y C L W h => S_judge h)
theorem P_seed (x0 : Int32) : PB MX6_seed MX7_seed [.int x0] Rel := PB_now (d6 := 1) (d7 := 0) (fun m D Y C L W => sk_seed m x0) (fun t D Y C L W => rk_seed t x0) (by decide) (by decide) (fun m D Y C L W hI hr => c6_seed hI) (fun s t D Y C L W hI hr => c7_seed) (fun s t D Y C L W h => S_seed h x0)
theorem P_keep (x0 : Int32) : PB MX6_keep MX7_keep [.int x0] Rel := PB_any (d6 := 5) (d7 := 2) (fun m D Y C L W => sk_keep m x0) (fun t D Y C L W => rk_keep t x0) (by decide) (by decide) (fun m D Y C L W hI hr => c6_keep hI) (fun s t D Y C L W hI hr => c7_keep) (fun s t D Y C L W h => S_keep h x0)
theorem P_goBack (x0 : Int32) : PB MX6_goBack MX7_goBack [.int x0] Rel := PB_now (d6 := 5) (d7 := 2) (fun m D Y C L W => sk_goBack m x0) (fun t D Y C L W => rk_goBack t x0) (by decide) (by decide) (fun m D Y C L W hI hr => c6_goBack hI) (fun s t D Y C L W hI hr => c7_goBack) (fun s t D Y C L W h => S_goBack h x0)
theorem eqA_of (hparish : PB MX6_parish MX7_parish [] Rel) (hcustom : PB MX6_custom MX7_custom [] Rel) : EqA Rel := ⟨fun x0 x1 => P_feed x0 x1, hparish, hcustom, P_fault, fun x0 => P_told x0, fun x0 x1 => P_yard x0 x1, fun x0 x1 => P_dead x0 x1, fun x0 => P_order x0, fun x0 x1 => P_letter x0 x1, fun x0 x1 => P_gift x0 x1, fun x0 => P_knock x0, fun x0 => P_day x0, fun x0 x1 => P_rats x0 x1, fun x0 x1 => P_lay x0 x1, fun x0 x1 => P_spring x0 x1, fun x0 => P_offended x0, P_quarrels, fun x0 => P_laying x0, fun x0 x1 => P_when x0 x1, fun x0 x1 x2 x3 => P_span x0 x1 x2 x3, fun x0 x1 => P_bribe x0 x1, fun x0 x1 => P_label x0 x1, fun x0 x1 => P_mark x0 x1, P_fits, fun x0 => P_mixed x0, fun x0 => P_churches x0, fun x0 x1 => P_write x0 x1, P_tear, P_judge, fun x0 => P_seed x0, fun x0 => P_keep x0, fun x0 => P_goBack x0⟩
theorem z7 : ∀ q, q < 57 → m00 q = mc1 q := fun q hq => by funext j; unfold m00; rw [if_pos hq]
theorem rel00 : Rel m00 := by
  refine ⟨0, 0, 2, 0, 0, ⟨by decide, by decide, by decide, by decide, by decide, by decide, by decide, by decide, by decide, by decide⟩, ⟨by decide, by decide, by decide, by decide, by decide, by decide, by decide, by decide, by decide, by decide⟩, ⟨fun c hc k hk => ?_, fun k hk => by omega, fun k hk => by omega, by decide, by decide, by decide, fun j k hj => by omega⟩, by decide, fun k hk => ?_, fun k hk => by omega, fun k hk => by omega, by decide, ⟨by decide, by decide⟩, fun q => absurd (show m00 0 7 = 0 by decide) q, fun q => absurd (show m00 0 8 = 0 by decide) q⟩
  · unfold colN at hk
    by_cases e : c = 1 <;> simp [e] at hk
  · match k, hk with
    | 0, _ => exact ⟨by decide, 0, by decide, by decide⟩
    | 1, _ => exact ⟨by decide, 1, by decide, by decide⟩
    | n + 2, q => omega
/-! the text, read by both -/
theorem sskip_congr {c d : Nat → Bool} : ∀ n k, (∀ i, k ≤ i → i < k + n → c i = d i) → sskip c n k = sskip d n k := by
  intro n
  induction n with
  | zero => intro k _; rfl
  | succ n ih =>
    intro k h
    show (if c k = true then sskip c n (k + 1) else k) = (if d k = true then sskip d n (k + 1) else k)
    rw [h k (Nat.le_refl _) (by omega), ih (k + 1) (fun i h1 h2 => h i (by omega) (by omega))]
def TXT (t : Int32 → Int32) (u : Nat → Int32) (L : Nat) : Prop := (∀ k, k < L → t (Int32.ofNat k) = u k ∧ 0 ≤ u k) ∧ t (Int32.ofNat L) = -1
/-- both read on: no fault so far -/
def GS (s m : zmem) (t : Int32 → Int32) (L P : Nat) : Prop := TS s t L P ∧ m 57 12 = Int32.ofNat L ∧ m 57 13 = Int32.ofNat P ∧ TXT t (m 66) L ∧ s 1 3 = 0 ∧ m 57 16 = 0 ∧ s 1 4 = m 57 17
/-- both have the same fault -/
def BS (s m : zmem) : Prop := 0 < m 57 16 ∧ s 1 3 = m 57 16 ∧ s 1 4 = m 57 17
/-- a fault stays -/
def KF (s s' : zmem) : Prop := ¬ s 1 3 = 0 → s' 1 3 = s 1 3 ∧ s' 1 4 = s 1 4
theorem KF.rf (s : zmem) : KF s s := fun _ => ⟨rfl, rfl⟩
theorem KF.tr {a b c : zmem} (h : KF a b) (k : KF b c) : KF a c := fun z => by
  have h1 := h z
  have h2 := k (by rw [h1.1]; exact z)
  exact ⟨h2.1.trans h1.1, h2.2.trans h1.2⟩
theorem KF.blame (s : zmem) (a b : Int32) : KF s (sblame s a b) := fun z => by unfold sblame; rw [if_neg z]; exact ⟨rfl, rfl⟩
theorem KF.pl (s : zmem) (k : Nat) : KF s (spl s k) := fun _ => ⟨mset_ne _ (by decide), mset_ne _ (by decide)⟩
theorem KF.off {s : zmem} {a j : Nat} {v : Int32} (h : a ≠ 1) : KF s (mset s a j v) := fun _ => ⟨by rw [mset_cell _ (Ne.symm h)], by rw [mset_cell _ (Ne.symm h)]⟩
theorem KF.aput {s : zmem} {a n : Nat} {i v : Int32} (h : a ≠ 1) : KF s (aput s a n i v) := fun _ => ⟨by rw [aput_ne (Ne.symm h)], by rw [aput_ne (Ne.symm h)]⟩
theorem KF.num (s : zmem) (t : Int32 → Int32) (L P : Nat) (lo hi : Int32) : KF s (snumm s t L P lo hi) := by
  unfold snumm snumb
  have b : ∀ k a c, KF s (sblame (spl s k) a c) := fun k a c => (KF.pl s k).tr (KF.blame _ _ _)
  split
  · split
    · exact b _ _ _
    · split
      · exact b _ _ _
      · split
        · exact KF.pl _ _
        · exact b _ _ _
  · exact b _ _ _
theorem KF.stop (s : zmem) (t : Int32 → Int32) (L P : Nat) : KF s (sstop s t L P) := by
  unfold sstop
  split
  · exact (KF.pl s _).tr (KF.blame _ _ _)
  · exact KF.pl _ _
theorem BS.keep {s s' m : zmem} (h : BS s m) (k : KF s s') : BS s' m := by
  have := k (by rw [h.2.1]; intro z; have := h.1; rw [z] at this; exact absurd this (by decide))
  exact ⟨h.1, this.1.trans h.2.1, this.2.trans h.2.2⟩
theorem BS.num {s m : zmem} (h : BS s m) (lo hi : Int32) : rnum m lo hi = (0, m) := by unfold rnum; rw [if_neg (Int32.not_le.mpr h.1)]
theorem BS.fin {s m : zmem} (h : BS s m) : rend m = m := by unfold rend; rw [if_pos (fun z => by have := h.1; rw [z] at this; exact absurd this (by decide))]
section PA
variable {s m : zmem} {t : Int32 → Int32} {L P : Nat}
theorem GS.eL (h : GS s m t L P) : rL m = L := by unfold rL; rw [h.2.1, natc (by have := h.1.2.2.1; omega)]
theorem GS.eP (h : GS s m t L P) : rP m = P := by unfold rP; rw [h.2.2.1, natc (by have := h.1.2.2.1; have := h.1.2.2.2.2; omega)]
theorem GS.bd (h : GS s m t L P) : L ≤ 400 ∧ P ≤ L := ⟨h.1.2.2.1, h.1.2.2.2.2⟩
theorem GS.blk (h : GS s m t L P) : rblk m = sblk t L P ∧ P ≤ sblk t L P ∧ sblk t L P ≤ L := by
  have hb := h.bd
  have e : rblk m = sblk t L P := by
    unfold rblk sblk
    rw [h.eL, h.eP]
    refine sskip_congr (L - P) P (fun i h1 h2 => ?_)
    rw [(h.2.2.2.1.1 i (by omega)).1]
  have := sskip_le (fun k => decide (t (Int32.ofNat k) = 32)) (L - P) P
  exact ⟨e, this.1, by unfold sblk; omega⟩
/-- what stands behind the blanks -/
theorem GS.here (h : GS s m t L P) : rhr m = t (Int32.ofNat (sblk t L P)) := by
  have hb := h.bd
  have b := h.blk
  unfold rhr
  rw [h.eL, b.1]
  by_cases e : sblk t L P = L
  · rw [if_pos (by rw [e]; exact Int32.le_refl _), e]; exact h.2.2.2.1.2.symm
  · rw [if_neg (fun q => by have := (n_le (by omega) (by omega)).mp q; omega)]
    exact (h.2.2.2.1.1 _ (by omega)).1.symm
theorem GS.go (h : GS s m t L P) : GS (spl s (sblk t L P)) (rat m (rblk m)) t L (sblk t L P) := by
  have b := h.blk
  obtain ⟨h1, h2, h3, h4, h5, h6, h7⟩ := h
  refine ⟨h1.pl b.2.2, ?_, ?_, ?_, ?_, ?_, ?_⟩
  · unfold rat; rw [mset_ne _ (by decide)]; exact h2
  · unfold rat; rw [mset_eq, b.1]
  · unfold rat; rw [mset_cell _ (by decide)]; exact h4
  · exact (mset_ne _ (by decide)).trans h5
  · unfold rat; rw [mset_ne _ (by decide)]; exact h6
  · unfold rat; rw [mset_ne _ (by decide), show spl s (sblk t L P) 1 4 = s 1 4 from mset_ne _ (by decide)]; exact h7
/-- a wish granted, or the same fault at both -/
theorem GS.want (h : GS s m t L P) {g num wh : Int32} (hn : 0 < num) : (rwantr m g num wh = 0 ↔ g = 0) ∧ (¬ g = 0 → rwant m g num wh = m) ∧ (g = 0 → BS (sblame s num wh) (rwant m g num wh)) := by
  have nz : ¬ num = 0 := fun z => by rw [z] at hn; exact absurd hn (by decide)
  have h16 := h.2.2.2.2.2.1
  have ew : g = 0 → rwant m g num wh = mset (mset m 57 16 num) 57 17 wh := fun z => by
    unfold rwant
    rw [if_neg (fun q => q z), if_neg (fun q => q h16)]
  have en : ¬ g = 0 → rwant m g num wh = m := fun z => by unfold rwant; rw [if_pos z]
  refine ⟨?_, en, fun z => ?_⟩
  · unfold rwantr
    by_cases z : g = 0
    · rw [ew z, mset_ne _ (by decide), mset_eq, if_pos nz]
      exact ⟨fun _ => z, fun _ => rfl⟩
    · rw [en z, if_neg (fun q => q h16)]
      exact ⟨fun q => absurd q (by decide), fun q => absurd q z⟩
  · rw [ew z]
    unfold sblame
    rw [if_pos h.2.2.2.2.1]
    refine ⟨?_, ?_, ?_⟩
    · rw [mset_ne _ (by decide), mset_eq]; exact hn
    · rw [mset_ne _ (by decide), mset_eq, mset_ne _ (by decide), mset_eq]
    · rw [mset_eq, mset_eq]
theorem GS.off (h : GS s m t L P) {a j : Nat} {v : Int32} (h1 : a ≠ 1) (h2 : a ≠ 2) : GS (mset s a j v) m t L P := ⟨h.1.off h1 h2, h.2.1, h.2.2.1, h.2.2.2.1, by rw [mset_cell _ (Ne.symm h1)]; exact h.2.2.2.2.1, h.2.2.2.2.2.1, by rw [mset_cell _ (Ne.symm h1)]; exact h.2.2.2.2.2.2⟩
theorem GS.put (h : GS s m t L P) {a n : Nat} {i v : Int32} (h1 : a ≠ 1) (h2 : a ≠ 2) : GS (aput s a n i v) m t L P := ⟨h.1.aput h1 h2, h.2.1, h.2.2.1, h.2.2.2.1, by rw [aput_ne (Ne.symm h1)]; exact h.2.2.2.2.1, h.2.2.2.2.2.1, by rw [aput_ne (Ne.symm h1)]; exact h.2.2.2.2.2.2⟩
theorem GS.rcell (h : GS s m t L P) {a j : Nat} {v : Int32} (h1 : a ≠ 57) (h2 : a ≠ 66) : GS s (mset m a j v) t L P := ⟨h.1, by rw [mset_cell _ (Ne.symm h1)]; exact h.2.1, by rw [mset_cell _ (Ne.symm h1)]; exact h.2.2.1, by rw [mset_cell _ (Ne.symm h2)]; exact h.2.2.2.1, h.2.2.2.2.1, by rw [mset_cell _ (Ne.symm h1)]; exact h.2.2.2.2.2.1, by rw [mset_cell _ (Ne.symm h1)]; exact h.2.2.2.2.2.2⟩
theorem GS.rfld (h : GS s m t L P) {j : Nat} {v : Int32} (h1 : j ≠ 12) (h2 : j ≠ 13) (h3 : j ≠ 16) (h4 : j ≠ 17) : GS s (mset m 57 j v) t L P := ⟨h.1, by rw [mset_ne _ (by omega)]; exact h.2.1, by rw [mset_ne _ (by omega)]; exact h.2.2.1, by rw [mset_cell _ (by decide)]; exact h.2.2.2.1, h.2.2.2.2.1, by rw [mset_ne _ (by omega)]; exact h.2.2.2.2.2.1, by rw [mset_ne _ (by omega)]; exact h.2.2.2.2.2.2⟩
theorem GS.move (h : GS s m t L P) {k : Nat} (hk : k ≤ L) : GS (spl s k) (rat m k) t L k := by
  obtain ⟨h1, h2, h3, h4, h5, h6, h7⟩ := h
  refine ⟨h1.pl hk, ?_, mset_eq _ _ _ _, ?_, ?_, ?_, ?_⟩
  · unfold rat; rw [mset_ne _ (by decide)]; exact h2
  · unfold rat; rw [mset_cell _ (by decide)]; exact h4
  · exact (mset_ne _ (by decide)).trans h5
  · unfold rat; rw [mset_ne _ (by decide)]; exact h6
  · unfold rat; rw [mset_ne _ (by decide), show spl s k 1 4 = s 1 4 from mset_ne _ (by decide)]; exact h7
/-- the end of a clause -/
theorem stop_st (h : GS s m t L P) : (GS (sstop s t L P) (rend m) t L (sstopP t L P) ∧ P < sstopP t L P) ∨ BS (sstop s t L P) (rend m) := by
  have b := h.blk
  have hb := h.bd
  have g := h.go
  have w := g.want (g := if rhr m = 59 then 1 else 0) (num := 1) (wh := Int32.ofNat (rblk m)) (by decide)
  have eh := h.here
  have er : rend m = if rwantr (rat m (rblk m)) (if rhr m = 59 then 1 else 0) 1 (Int32.ofNat (rblk m)) = 0 then rend0 m else mset (rend0 m) 57 13 (rend0 m 57 13 + 1) := by
    unfold rend
    rw [if_neg (fun q => q h.2.2.2.2.2.1)]
  by_cases e : t (Int32.ofNat (sblk t L P)) = 59
  · left
    have g1 : (if rhr m = 59 then (1 : Int32) else 0) = 1 := by rw [eh, if_pos e]
    rw [g1] at er w
    have e0 : rend0 m = rat m (rblk m) := by unfold rend0; rw [g1]; exact w.2.1 (by decide)
    rw [if_neg (fun q => absurd (w.1.mp q) (by decide)), e0, g.2.2.1, nat_succ] at er
    have lt : sblk t L P < L := h.1.beyond b.2.2 (by rw [e]; decide)
    have e2 : mset (rat m (rblk m)) 57 13 (Int32.ofNat (sblk t L P + 1)) = rat m (sblk t L P + 1) := by unfold rat; rw [mset_mset]
    have e3 : sstopP t L P = sblk t L P + 1 := by unfold sstopP; rw [if_neg (fun q => q e)]
    have e4 : sstop s t L P = spl s (sblk t L P + 1) := by unfold sstop; rw [if_neg (fun q => q e)]
    rw [e3, e4, er, e2]
    exact ⟨h.move (by omega), by omega⟩
  · right
    have g0 : (if rhr m = 59 then (1 : Int32) else 0) = 0 := by rw [eh, if_neg e]
    rw [g0] at er w
    have e0 : rend0 m = rwant (rat m (rblk m)) 0 1 (Int32.ofNat (rblk m)) := by unfold rend0; rw [g0]
    have e4 : sstop s t L P = sblame (spl s (sblk t L P)) 1 (Int32.ofNat (sblk t L P)) := by unfold sstop; rw [if_pos e]
    rw [if_pos (w.1.mpr rfl), e0] at er
    rw [er, e4, ← b.1]
    have := w.2.2 rfl
    rw [b.1] at this ⊢
    exact this
end PA
/-! numbers and words of the text -/
theorem n_ge3 {k F : Nat} (h : F ≤ k) (hk : k < 1000) : (3 ≤ Int32.ofNat k - Int32.ofNat F ↔ 3 ≤ k - F) ∧ (3 < Int32.ofNat k - Int32.ofNat F ↔ 3 < k - F) ∧ (4 ≤ Int32.ofNat k - Int32.ofNat F ↔ 4 ≤ k - F) ∧ Int32.ofNat k - Int32.ofNat F = Int32.ofNat (k - F) := by
  have e : Int32.ofNat k - Int32.ofNat F = Int32.ofNat (k - F) := by
    have : Int32.ofNat (k - F) + Int32.ofNat F = Int32.ofNat k := by rw [← Int32.ofNat_add]; congr 1; omega
    rw [← this]; grind
  rw [e]
  exact ⟨n_le (a := 3) (by decide) (by omega), n_lt (a := 3) (by decide) (by omega), n_le (a := 4) (by decide) (by omega), rfl⟩
theorem dig_ex {c : Int32} (h1 : ¬ c < 48) (h2 : ¬ 57 < c) : ∃ d, d < 10 ∧ c = Int32.ofNat (48 + d) := by
  obtain ⟨a, ha, e⟩ := nat_of (n := 57) (v := c) (by decide) (Int32.le_trans (by decide) (Int32.not_lt.mp h1)) (Int32.not_lt.mp h2)
  have : 48 ≤ a := by
    rw [e] at h1
    apply Classical.byContradiction
    intro q
    exact h1 ((n_lt (b := 48) (by omega) (by decide)).mpr (by omega))
  exact ⟨a - 48, by omega, by rw [e]; congr 1; omega⟩
theorem num_eq {t : Int32 → Int32} {u : Nat → Int32} {L F : Nat} (hX : TXT t u L) (hL : L ≤ 400) : ∀ n k v v', k + n = L → F ≤ k → (k - F ≤ 3 → v = v' ∧ ∃ x, v = Int32.ofNat x ∧ x < 10 ^ (k - F)) → (snum t F n k v).1 = (rdig u n k v').1 ∧ k ≤ (snum t F n k v).1 ∧ (snum t F n k v).1 ≤ L ∧ ((snum t F n k v).1 - F ≤ 3 → (snum t F n k v).2 = (rdig u n k v').2) := by
  intro n
  induction n with
  | zero =>
    intro k v v' hk hF hv
    exact ⟨rfl, Nat.le_refl _, by show k ≤ L; omega, fun z => (hv z).1⟩
  | succ n ih =>
    intro k v v' hk hF hv
    have ek := (hX.1 k (by omega)).1
    have g3 := n_ge3 hF (by omega : k < 1000)
    unfold snum rdig
    rw [ek]
    by_cases h1 : u k < 48
    · rw [if_pos h1, if_pos (rini_le.mpr (Or.inl h1))]
      exact ⟨rfl, Nat.le_refl _, by show k ≤ L; omega, fun z => (hv z).1⟩
    · rw [if_neg h1]
      by_cases h2 : 57 < u k
      · rw [if_pos h2, if_pos (rini_le.mpr (Or.inr h2))]
        exact ⟨rfl, Nat.le_refl _, by show k ≤ L; omega, fun z => (hv z).1⟩
      · rw [if_neg h2, if_neg (fun q : rini (u k) 48 57 = 0 => by rcases rini_le.mp q with q | q; exact h1 q; exact h2 q)]
        obtain ⟨d, hd, ed⟩ := dig_ex h1 h2
        have g := ih (k + 1) (if 3 ≤ Int32.ofNat k - Int32.ofNat F then v else v * 10 + u k - 48) (if v' ≤ 99999 then 10 * v' + u k - 48 else v') (by omega) (by omega) (fun z => by
          obtain ⟨e, x, ex, hx⟩ := hv (by omega)
          have hp : 10 ^ (k - F) ≤ 10 ^ 2 := Nat.pow_le_pow_right (by decide) (by omega)
          have hp2 : 10 ^ 2 = 100 := by decide
          rw [if_neg (fun q => by have := g3.1.mp q; omega), ← e, ex, if_pos (show Int32.ofNat x ≤ 99999 from (n_le (b := 99999) (by omega) (by decide)).mpr (by omega)), ed]
          have ev : Int32.ofNat x * 10 + Int32.ofNat (48 + d) - 48 = Int32.ofNat (x * 10 + d) := by
            rw [show Int32.ofNat (48 + d) = 48 + Int32.ofNat d from Int32.ofNat_add 48 d, Int32.ofNat_add, Int32.ofNat_mul]
            show _ = Int32.ofNat x * 10 + Int32.ofNat d
            grind
          refine ⟨?_, x * 10 + d, ev, ?_⟩
          · grind
          · rw [show k + 1 - F = (k - F) + 1 by omega, Nat.pow_succ]; omega)
        exact ⟨g.1, by omega, g.2.2.1, g.2.2.2⟩
section PB2
variable {s m : zmem} {t : Int32 → Int32} {L P : Nat}
/-- a number -/
theorem num_st (h : GS s m t L P) {lo hi : Int32} : (GS (snumm s t L P lo hi) (rnum m lo hi).2 t L (snumr t L P).1 ∧ (rnum m lo hi).1 = (snumr t L P).2 ∧ lo ≤ (snumr t L P).2 ∧ (snumr t L P).2 ≤ hi) ∨ BS (snumm s t L P lo hi) (rnum m lo hi).2 := by
  have b := h.blk
  have hb := h.bd
  have eh := h.here
  obtain ⟨n1, n2, n3, n4⟩ := num_eq (t := t) (u := m 66) (F := sblk t L P) h.2.2.2.1 hb.1 (L - sblk t L P) (sblk t L P) 0 0 (by omega) (Nat.le_refl _) (fun _ => ⟨rfl, 0, rfl, by rw [Nat.sub_self]; decide⟩)
  have er : rnmd m = rdig (m 66) (L - sblk t L P) (sblk t L P) 0 := by unfold rnmd; rw [h.eL, b.1]
  have es : snumr t L P = snum t (sblk t L P) (L - sblk t L P) (sblk t L P) 0 := rfl
  rw [← es] at n1 n2 n3 n4
  rw [← er] at n1 n4
  have g0 : GS (spl s (sblk t L P)) (rtw0 m) t L (sblk t L P) := h.go.rfld (by decide) (by decide) (by decide) (by decide)
  have gE : GS (spl s (snumr t L P).1) (rat (rtw0 m) (snumr t L P).1) t L (snumr t L P).1 := by
    have := g0.move n3
    rw [show spl (spl s (sblk t L P)) (snumr t L P).1 = spl s (snumr t L P).1 from mset_mset s 1 2 _ _] at this
    exact this
  have w0 := g0.want (g := rini (rhr m) 48 57) (num := 1) (wh := Int32.ofNat (rblk m)) (by decide)
  have e7 : rnum m lo hi = if rwantr (rtw0 m) (rini (rhr m) 48 57) 1 (Int32.ofNat (rblk m)) = 0 then (0, rnm0 m) else ((rnmd m).2, rnm1 m lo hi) := by
    unfold rnum
    rw [if_pos (by rw [h.2.2.2.2.2.1]; decide)]
  have n0 : ∀ F E : Nat, (hE : F ≤ E) → E ≤ L → (Int32.ofNat E = Int32.ofNat F ↔ E = F) := fun F E h1 h2 => n_eq (by omega) (by omega)
  by_cases z : rini (rhr m) 48 57 = 0
  · right
    have eE : (snumr t L P).1 = sblk t L P := by
      rw [es]
      cases hn : L - sblk t L P with
      | zero => rfl
      | succ n =>
        rw [eh] at z
        unfold snum
        rcases rini_le.mp z with q | q
        · rw [if_pos q]
        · by_cases q2 : t (Int32.ofNat (sblk t L P)) < 48
          · rw [if_pos q2]
          · rw [if_neg q2, if_pos q]
    rw [e7, if_pos (w0.1.mpr z)]
    have := w0.2.2 z
    have em : snumm s t L P lo hi = sblame (spl s (sblk t L P)) 1 (Int32.ofNat (sblk t L P)) := by
      unfold snumm snumb
      rw [eE, if_neg (fun q => q rfl)]
    rw [em]
    unfold rnm0
    rw [b.1] at this ⊢
    exact this
  · have e0 : rnm0 m = rtw0 m := by unfold rnm0; exact w0.2.1 z
    rw [e7, if_neg (fun q => z (w0.1.mp q))]
    have ne : (snumr t L P).1 ≠ sblk t L P := by
      intro q
      rw [eh] at z
      have z1 : ¬ t (Int32.ofNat (sblk t L P)) < 48 := fun y => z (rini_le.mpr (Or.inl y))
      have z2 : ¬ 57 < t (Int32.ofNat (sblk t L P)) := fun y => z (rini_le.mpr (Or.inr y))
      have lt : sblk t L P < L := h.1.beyond b.2.2 (fun y => z1 (by rw [y]; decide))
      have q2 : (snum t (sblk t L P) (L - sblk t L P) (sblk t L P) 0).1 = sblk t L P := q
      rw [show L - sblk t L P = (L - sblk t L P - 1) + 1 by omega] at q2
      unfold snum at q2
      rw [if_neg z1, if_neg z2] at q2
      have mono : ∀ n k v, k ≤ (snum t (sblk t L P) n k v).1 := by
        intro n
        induction n with
        | zero => intro k v; exact Nat.le_refl _
        | succ n ih =>
          intro k v
          unfold snum
          split
          · exact Nat.le_refl _
          · split
            · exact Nat.le_refl _
            · exact Nat.le_trans (Nat.le_succ k) (ih (k + 1) _)
      have := mono (L - sblk t L P - 1) (sblk t L P + 1) (if 3 ≤ Int32.ofNat (sblk t L P) - Int32.ofNat (sblk t L P) then 0 else 0 * 10 + t (Int32.ofNat (sblk t L P)) - 48)
      omega
    have g3 := n_ge3 n2 (by omega : (snumr t L P).1 < 1000)
    have w1 := gE.want (g := rgd m lo hi) (num := 2) (wh := Int32.ofNat (rblk m)) (by decide)
    have e1 : rnm1 m lo hi = rwant (rat (rtw0 m) (snumr t L P).1) (rgd m lo hi) 2 (Int32.ofNat (rblk m)) := by unfold rnm1; rw [e0, n1]
    have eg : rgd m lo hi = if 4 ≤ Int32.ofNat (snumr t L P).1 - Int32.ofNat (sblk t L P) then 0 else if rini (rnmd m).2 lo hi = 0 then 0 else 1 := by unfold rgd; rw [← n1, b.1]
    have es2 : snumm s t L P lo hi = if 3 < Int32.ofNat (snumr t L P).1 - Int32.ofNat (sblk t L P) then sblame (spl s (snumr t L P).1) 2 (Int32.ofNat (sblk t L P)) else if (snumr t L P).2 < lo then sblame (spl s (snumr t L P).1) 2 (Int32.ofNat (sblk t L P)) else if (snumr t L P).2 ≤ hi then spl s (snumr t L P).1 else sblame (spl s (snumr t L P).1) 2 (Int32.ofNat (sblk t L P)) := by
      unfold snumm snumb
      rw [if_pos (fun q => ne ((n0 _ _ n2 n3).mp q))]
    show (GS _ (rnm1 m lo hi) t L _ ∧ (rnmd m).2 = _ ∧ _ ∧ _) ∨ BS _ (rnm1 m lo hi)
    rw [e1, es2]
    by_cases c3 : 3 < (snumr t L P).1 - sblk t L P
    · right
      rw [if_pos (g3.2.1.mpr c3)]
      rw [if_pos (g3.2.2.1.mpr (by omega))] at eg
      have := w1.2.2 eg
      rw [b.1] at this ⊢
      exact this
    · have ev := n4 (by omega)
      rw [if_neg (fun q => c3 (g3.2.1.mp q))]
      rw [if_neg (fun q => c3 (by have := g3.2.2.1.mp q; omega)), ← ev] at eg
      by_cases c1 : (snumr t L P).2 < lo
      · right
        rw [if_pos c1]
        rw [if_pos (rini_le.mpr (Or.inl c1))] at eg
        have := w1.2.2 eg
        rw [b.1] at this ⊢
        exact this
      · rw [if_neg c1]
        by_cases c2 : (snumr t L P).2 ≤ hi
        · left
          rw [if_pos c2]
          rw [if_neg (fun q => by rcases rini_le.mp q with q | q; exact c1 q; exact absurd c2 (Int32.not_le.mpr q))] at eg
          rw [w1.2.1 (by rw [eg]; decide)]
          exact ⟨gE, ev.symm, Int32.not_lt.mp c1, c2⟩
        · right
          rw [if_neg c2]
          rw [if_pos (rini_le.mpr (Or.inr (Int32.not_le.mp c2)))] at eg
          have := w1.2.2 eg
          rw [b.1] at this ⊢
          exact this
end PB2
/-! words; a parish's clause -/
theorem sskip_fix {c : Nat → Bool} : ∀ n k, sskip c n k < k + n → c (sskip c n k) = false := by
  intro n
  induction n with
  | zero => intro k h; exact absurd h (by show ¬ k < k + 0; omega)
  | succ n ih =>
    intro k h
    have e : sskip c (n + 1) k = if c k = true then sskip c n (k + 1) else k := rfl
    rw [e] at h ⊢
    by_cases z : c k = true
    · rw [if_pos z] at h ⊢; exact ih (k + 1) (by omega)
    · rw [if_neg z]; simpa using z
theorem sskip_0 {c : Nat → Bool} : ∀ n k, (0 < n → c k = false) → sskip c n k = k := by
  intro n k h
  cases n with
  | zero => rfl
  | succ n =>
    show (if c k = true then _ else k) = k
    rw [h (by omega)]
    rfl
theorem sblk_2 {t : Int32 → Int32} {L P : Nat} (hP : P ≤ L) : sblk t L (sblk t L P) = sblk t L P := by
  have hl := sskip_le (fun k => decide (t (Int32.ofNat k) = 32)) (L - P) P
  have hf := sskip_fix (c := fun k => decide (t (Int32.ofNat k) = 32)) (L - P) P
  unfold sblk at *
  exact sskip_0 _ _ (fun z => hf (by omega))
theorem risw_eq (u : Nat → Int32) (F : Nat) (a b c d e : Int32) : ∀ n k, risw u F a b c d e n k 0 = 0 ∧ risw u F a b c d e n k 1 = if sall (fun k => decide (u (F + k) = rlet a b c d e k)) n k = true then 1 else 0 := by
  intro n
  induction n with
  | zero => intro k; exact ⟨rfl, rfl⟩
  | succ n ih =>
    intro k
    refine ⟨if_pos rfl, ?_⟩
    show (if (1 : Int32) = 0 then 1 else risw u F a b c d e n (k + 1) (if u (F + k) = rlet a b c d e k then 1 else 0)) = if (if decide (u (F + k) = rlet a b c d e k) = true then sall _ n (k + 1) else false) = true then 1 else 0
    rw [if_neg (show ¬ (1 : Int32) = 0 by decide)]
    by_cases z : u (F + k) = rlet a b c d e k
    · rw [if_pos z, (ih (k + 1)).2, if_pos (decide_eq_true z)]
    · rw [if_neg z, (ih (k + 1)).1, if_neg (by simp [z])]
theorem sall_congr {c d : Nat → Bool} : ∀ n k, (∀ i, k ≤ i → i < k + n → c i = d i) → sall c n k = sall d n k := by
  intro n
  induction n with
  | zero => intro k _; rfl
  | succ n ih =>
    intro k h
    show (if c k = true then sall c n (k + 1) else false) = (if d k = true then sall d n (k + 1) else false)
    rw [h k (Nat.le_refl _) (by omega), ih (k + 1) (fun i h1 h2 => h i (by omega) (by omega))]
section WO
variable {s m : zmem} {t : Int32 → Int32} {L P : Nat}
/-- a word is read -/
theorem word_st (h : GS s m t L P) (hP : sblk t L P = P) : GS (spl s (swend t L P)) (rtw m) t L (swend t L P) ∧ rtw m 57 14 = Int32.ofNat P ∧ rtw m 57 15 = Int32.ofNat (swend t L P - P) ∧ (∀ q, q ≠ 57 → rtw m q = m q) ∧ (∀ j, j ≠ 13 → j ≠ 14 → j ≠ 15 → rtw m 57 j = m 57 j) ∧ P ≤ swend t L P ∧ swend t L P ≤ L := by
  have b := h.blk
  have hb := h.bd
  rw [hP] at b
  have ew : rwe m = swend t L P := by
    unfold rwe swend
    rw [h.eL, b.1]
    refine sskip_congr (L - P) P (fun i h1 h2 => ?_)
    rw [(h.2.2.2.1.1 i (by omega)).1]
    have q := rini_le (v := m 66 i) (lo := 97) (hi := 122)
    by_cases z : ¬ m 66 i < 97 ∧ ¬ 122 < m 66 i
    · rw [decide_eq_true z, decide_eq_true (show ¬ rini (m 66 i) 97 122 = 0 from fun y => by rcases q.mp y with y | y; exact z.1 y; exact z.2 y)]
    · rw [decide_eq_false z, decide_eq_false (show ¬ ¬ rini (m 66 i) 97 122 = 0 from fun y => z ⟨fun x => y (q.mpr (Or.inl x)), fun x => y (q.mpr (Or.inr x))⟩)]
  have le := sskip_le (fun k => decide (¬ t (Int32.ofNat k) < 97 ∧ ¬ 122 < t (Int32.ofNat k))) (L - P) P
  have le1 : P ≤ swend t L P := le.1
  have le2 : swend t L P ≤ L := by unfold swend; omega
  have g0 : GS (spl s P) (rtw0 m) t L P := by
    have := h.go.rfld (j := 14) (v := Int32.ofNat (rblk m)) (by decide) (by decide) (by decide) (by decide)
    rw [hP] at this
    exact this
  have g1 : GS (spl s (swend t L P)) (rat (rtw0 m) (swend t L P)) t L (swend t L P) := by
    have := g0.move le2
    rw [show spl (spl s P) (swend t L P) = spl s (swend t L P) from mset_mset s 1 2 _ _] at this
    exact this
  have er : rtw m = mset (rat (rtw0 m) (swend t L P)) 57 15 (Int32.ofNat (swend t L P - P)) := by unfold rtw; rw [ew, b.1]
  rw [er]
  refine ⟨g1.rfld (by decide) (by decide) (by decide) (by decide), ?_, mset_eq _ _ _ _, fun q hq => ?_, fun j h13 h14 h15 => ?_, le1, le2⟩
  · rw [mset_ne _ (by decide)]
    unfold rat rtw0
    rw [mset_ne _ (by decide), mset_eq, b.1]
  · rw [mset_cell _ hq]
    unfold rat rtw0
    rw [mset_cell _ hq, mset_cell _ hq]
    unfold rat
    rw [mset_cell _ hq]
  · rw [mset_ne _ (by omega)]
    unfold rat rtw0
    rw [mset_ne _ (by omega), mset_ne _ (by omega)]
    unfold rat
    rw [mset_ne _ (by omega)]
/-- the same word -/
theorem word_eq (h : GS s m t L P) (hP : sblk t L P = P) {i N : Nat} {a b c d e : Int32} (hN : zln i = N) (hN5 : N ≤ 5) (hl : ∀ k, k < N → zchr i (Int32.ofNat k) = rlet a b c d e k) : rws (rtw m) N a b c d e = swordi t L P i := by
  obtain ⟨-, w14, w15, wc, -, le1, le2⟩ := word_st h hP
  have hb := h.bd
  unfold rws swordi sword
  rw [w14, w15, natc (by omega), wc 66 (by decide), hN, (n_ge3 le1 (by omega)).2.2.2]
  by_cases z : Int32.ofNat (swend t L P - P) = Int32.ofNat N
  · have zn : swend t L P - P = N := ofNat_inj z (by omega) (by omega)
    rw [if_pos z, (risw_eq (m 66) P a b c d e N 0).2, decide_eq_true z, Bool.true_and]
    rw [sall_congr (c := fun k => decide (m 66 (P + k) = rlet a b c d e k)) (d := swc t P i) N 0 (fun k _ hk => ?_)]
    unfold swc
    rw [← Int32.ofNat_add, (h.2.2.2.1.1 (P + k) (by omega)).1, hl k (by omega)]
  · rw [if_neg z, (risw_eq (m 66) P a b c d e N 0).1, decide_eq_false z, Bool.false_and]
    rfl
end WO
theorem w0_tab : ∀ k, k < 3 → zchr 0 (Int32.ofNat k) = rlet 115 117 110 0 0 k := by decide +kernel
theorem w1_tab : ∀ k, k < 4 → zchr 1 (Int32.ofNat k) = rlet 121 97 114 100 0 k := by decide +kernel
theorem w2_tab : ∀ k, k < 4 → zchr 2 (Int32.ofNat k) = rlet 100 101 97 100 0 k := by decide +kernel
theorem w3_tab : ∀ k, k < 4 → zchr 3 (Int32.ofNat k) = rlet 114 97 110 107 0 k := by decide +kernel
theorem w4_tab : ∀ k, k < 5 → zchr 4 (Int32.ofNat k) = rlet 119 97 105 116 115 k := by decide +kernel
theorem w5_tab : ∀ k, k < 5 → zchr 5 (Int32.ofNat k) = rlet 103 105 102 116 115 k := by decide +kernel
theorem w6_tab : ∀ k, k < 3 → zchr 6 (Int32.ofNat k) = rlet 107 105 110 0 0 k := by decide +kernel
/-- the draft of a parish, as both hold it -/
def DR (s m : zmem) : Prop := ∃ Yd Dd, Yd ≤ 8 ∧ Dd ≤ 7 ∧ s 17 0 = Int32.ofNat Yd ∧ m 64 2 = Int32.ofNat Yd ∧ s 17 1 = Int32.ofNat Dd ∧ m 64 3 = Int32.ofNat Dd ∧ ((s 17 2 = 0 ∧ s 17 3 = 0 ∧ m 57 18 = 0 ∧ m 57 19 = 6 ∧ m 57 20 = 2) ∨ (¬ s 17 2 = 0 ∧ ¬ m 57 18 = 0 ∧ s 17 2 = m 57 19 ∧ s 17 3 = m 57 20 ∧ 0 ≤ m 57 19 ∧ m 57 19 ≤ 20 ∧ 0 ≤ m 57 20 ∧ m 57 20 ≤ 20)) ∧ (∀ k, k < Yd → s 18 k = m 60 (8 + k) ∧ 0 ≤ s 18 k ∧ s 18 k ≤ 99) ∧ ∀ k, k < Dd → (s 19 k = m 61 (8 + k) ∧ 0 ≤ s 19 k ∧ s 19 k ≤ 99) ∧ (s 20 k = m 62 (8 + k) ∧ 0 ≤ s 20 k ∧ s 20 k ≤ 999) ∧ s 21 k = m 63 (8 + k) ∧ 0 ≤ s 21 k ∧ s 21 k ≤ 9
/-- cells that reading a text leaves alone -/
theorem num_c (s : zmem) (t : Int32 → Int32) (L P : Nat) (lo hi : Int32) {q : Nat} (hq : q ≠ 1) : snumm s t L P lo hi q = s q := by
  have b : ∀ k a c, sblame (spl s k) a c q = s q := fun k a c => by
    have p : spl s k q = s q := mset_cell _ hq
    unfold sblame
    split
    · rw [mset_cell _ hq, mset_cell _ hq]; exact p
    · exact p
  unfold snumm snumb
  split
  · split
    · exact b _ _ _
    · split
      · exact b _ _ _
      · split
        · exact mset_cell _ hq
        · exact b _ _ _
  · exact b _ _ _
/-! a parish's clause -/
theorem stop_c (s : zmem) (t : Int32 → Int32) (L P : Nat) {q : Nat} (hq : q ≠ 1) : sstop s t L P q = s q := by
  unfold sstop sblame
  split
  · split
    · rw [mset_cell _ hq, mset_cell _ hq]; exact mset_cell _ hq
    · exact mset_cell _ hq
  · exact mset_cell _ hq
theorem want_c (m : zmem) (g n w : Int32) : (∀ q, q ≠ 57 → rwant m g n w q = m q) ∧ ∀ j, j ≠ 16 → j ≠ 17 → rwant m g n w 57 j = m 57 j := by
  unfold rwant
  split
  · exact ⟨fun _ _ => rfl, fun _ _ _ => rfl⟩
  · split
    · exact ⟨fun _ _ => rfl, fun _ _ _ => rfl⟩
    · exact ⟨fun q hq => by rw [mset_cell _ hq, mset_cell _ hq], fun j h1 h2 => by rw [mset_ne _ (by omega), mset_ne _ (by omega)]⟩
theorem rat_c (m : zmem) (k : Nat) : (∀ q, q ≠ 57 → rat m k q = m q) ∧ ∀ j, j ≠ 13 → rat m k 57 j = m 57 j := ⟨fun q hq => mset_cell _ hq, fun j hj => mset_ne _ (by omega)⟩
theorem rnum_c (m : zmem) (lo hi : Int32) : (∀ q, q ≠ 57 → (rnum m lo hi).2 q = m q) ∧ ∀ j, j ≠ 13 → j ≠ 14 → j ≠ 16 → j ≠ 17 → (rnum m lo hi).2 57 j = m 57 j := by
  have a0 : (∀ q, q ≠ 57 → rtw0 m q = m q) ∧ ∀ j, j ≠ 13 → j ≠ 14 → rtw0 m 57 j = m 57 j := ⟨fun q hq => by unfold rtw0; rw [mset_cell _ hq]; exact (rat_c m _).1 q hq, fun j h1 h2 => by unfold rtw0; rw [mset_ne _ (by omega)]; exact (rat_c m _).2 j h1⟩
  have a1 : (∀ q, q ≠ 57 → rnm0 m q = m q) ∧ ∀ j, j ≠ 13 → j ≠ 14 → j ≠ 16 → j ≠ 17 → rnm0 m 57 j = m 57 j := ⟨fun q hq => ((want_c _ _ _ _).1 q hq).trans (a0.1 q hq), fun j h1 h2 h3 h4 => ((want_c _ _ _ _).2 j h3 h4).trans (a0.2 j h1 h2)⟩
  have a2 : (∀ q, q ≠ 57 → rnm1 m lo hi q = m q) ∧ ∀ j, j ≠ 13 → j ≠ 14 → j ≠ 16 → j ≠ 17 → rnm1 m lo hi 57 j = m 57 j := ⟨fun q hq => ((want_c _ _ _ _).1 q hq).trans (((rat_c _ _).1 q hq).trans (a1.1 q hq)), fun j h1 h2 h3 h4 => ((want_c _ _ _ _).2 j h3 h4).trans (((rat_c _ _).2 j h1).trans (a1.2 j h1 h2 h3 h4))⟩
  unfold rnum
  split
  · split
    · exact a1
    · exact a2
  · exact ⟨fun _ _ => rfl, fun _ _ _ _ _ => rfl⟩
theorem rend_c (m : zmem) : (∀ q, q ≠ 57 → rend m q = m q) ∧ ∀ j, j ≠ 13 → j ≠ 16 → j ≠ 17 → rend m 57 j = m 57 j := by
  have a0 : (∀ q, q ≠ 57 → rend0 m q = m q) ∧ ∀ j, j ≠ 13 → j ≠ 16 → j ≠ 17 → rend0 m 57 j = m 57 j := ⟨fun q hq => ((want_c _ _ _ _).1 q hq).trans ((rat_c _ _).1 q hq), fun j h1 h2 h3 => ((want_c _ _ _ _).2 j h2 h3).trans ((rat_c _ _).2 j h1)⟩
  unfold rend
  split
  · exact ⟨fun _ _ => rfl, fun _ _ _ _ => rfl⟩
  · by_cases z : rwantr (rat m (rblk m)) (if rhr m = 59 then 1 else 0) 1 (Int32.ofNat (rblk m)) = 0
    · rw [if_pos z]; exact a0
    · rw [if_neg z]; exact ⟨fun q hq => (mset_cell _ hq).trans (a0.1 q hq), fun j h1 h2 h3 => (mset_ne _ (by omega)).trans (a0.2 j h1 h2 h3)⟩
theorem BS.rfld {s m : zmem} (h : BS s m) {j : Nat} {v : Int32} (h1 : j ≠ 16) (h2 : j ≠ 17) : BS s (mset m 57 j v) := ⟨by rw [mset_ne _ (by omega)]; exact h.1, by rw [mset_ne _ (by omega)]; exact h.2.1, by rw [mset_ne _ (by omega)]; exact h.2.2⟩
theorem BS.rcell {s m : zmem} (h : BS s m) {a j : Nat} {v : Int32} (h1 : 57 ≠ a) : BS s (mset m a j v) := ⟨by rw [mset_cell _ h1]; exact h.1, by rw [mset_cell _ h1]; exact h.2.1, by rw [mset_cell _ h1]; exact h.2.2⟩
section CLS
variable {s m : zmem} {t : Int32 → Int32} {L P : Nat}
/-- the clause's end, in both cases -/
theorem snumr_ge (t : Int32 → Int32) (L P : Nat) : P ≤ (snumr t L P).1 := by
  have mono : ∀ F n k v, k ≤ (snum t F n k v).1 := by
    intro F n
    induction n with
    | zero => intro k v; exact Nat.le_refl _
    | succ n ih =>
      intro k v
      unfold snum
      split
      · exact Nat.le_refl _
      · split
        · exact Nat.le_refl _
        · exact Nat.le_trans (Nat.le_succ k) (ih (k + 1) _)
  exact Nat.le_trans (sskip_le (fun k => decide (t (Int32.ofNat k) = 32)) (L - P) P).1 (mono _ _ _ _)
theorem fin_st (h : (GS s m t L P) ∨ BS s m) : (GS (sstop s t L P) (rend m) t L (sstopP t L P) ∧ P < sstopP t L P) ∨ BS (sstop s t L P) (rend m) := by
  rcases h with h | h
  · exact stop_st h
  · right; rw [h.fin]; exact h.keep (KF.stop _ _ _ _)
theorem num_or (h : GS s m t L P ∨ BS s m) (lo hi : Int32) : (GS s m t L P ∧ GS (snumm s t L P lo hi) (rnum m lo hi).2 t L (snumr t L P).1 ∧ (rnum m lo hi).1 = (snumr t L P).2 ∧ lo ≤ (snumr t L P).2 ∧ (snumr t L P).2 ≤ hi) ∨ BS (snumm s t L P lo hi) (rnum m lo hi).2 := by
  rcases h with h | h
  · rcases num_st h (lo := lo) (hi := hi) with g | g
    · exact Or.inl ⟨h, g⟩
    · exact Or.inr g
  · right; rw [h.num]; exact h.keep (KF.num _ _ _ _ _ _)
theorem sun_st (h : GS s m t L P) (d : DR s m) {F : Nat} (hF : m 57 14 = Int32.ofNat F) : ((∃ P', P < P' ∧ GS (srsun s t L P (Int32.ofNat F)) (rend (if rwantr m (if ¬ m 57 18 = 0 then 0 else 1) 3 (m 57 14) = 0 then rcsun1 m else rcsun (rcsun1 m))) t L P') ∧ DR (srsun s t L P (Int32.ofNat F)) (rend (if rwantr m (if ¬ m 57 18 = 0 then 0 else 1) 3 (m 57 14) = 0 then rcsun1 m else rcsun (rcsun1 m)))) ∨ BS (srsun s t L P (Int32.ofNat F)) (rend (if rwantr m (if ¬ m 57 18 = 0 then 0 else 1) 3 (m 57 14) = 0 then rcsun1 m else rcsun (rcsun1 m))) := by
  obtain ⟨Yd, Dd, d1, d2, d3, d4, d5, d6, d7, d8, d9⟩ := d
  have w := h.want (g := if ¬ m 57 18 = 0 then 0 else 1) (num := 3) (wh := m 57 14) (by decide)
  unfold srsun
  rcases d7 with ⟨e1, e2, e3, e4, e5⟩ | ⟨e1, e2, -⟩
  · have g1 : (if ¬ m 57 18 = 0 then (0 : Int32) else 1) = 1 := if_neg (fun q => q e3)
    rw [g1] at w
    have e6 : rcsun1 m = m := by unfold rcsun1; rw [g1]; exact w.2.1 (by decide)
    rw [g1, if_neg (fun q => absurd (w.1.mp q) (by decide)), e6]
    have es1 : sr1 s (Int32.ofNat F) = s := by unfold sr1; rw [if_neg (fun q => q e1)]
    unfold rcsun rsn sr3 sr2
    rw [es1]
    have h1 : GS s (mset m 57 18 1) t L P := h.rfld (by decide) (by decide) (by decide) (by decide)
    obtain ⟨a, ea⟩ : ∃ x, x = snumm s t L P 1 20 := ⟨_, rfl⟩
    obtain ⟨b, eb⟩ : ∃ x, x = rnum (mset m 57 18 1) 1 20 := ⟨_, rfl⟩
    have n1 := num_or (Or.inl h1) 1 20
    have bc := rnum_c (mset m 57 18 1) 1 20
    have ac : ∀ q, q ≠ 1 → a q = s q := fun q hq => by rw [ea]; exact num_c s t L P 1 20 hq
    rw [← ea, ← eb] at n1
    rw [← eb] at bc
    rw [← ea, ← eb]
    have n2 : GS (mset a 17 2 (snumr t L P).2) (mset b.2 57 19 b.1) t L (snumr t L P).1 ∨ BS (mset a 17 2 (snumr t L P).2) (mset b.2 57 19 b.1) := by
      rcases n1 with ⟨-, g, -⟩ | g
      · exact Or.inl ((g.off (by decide) (by decide)).rfld (by decide) (by decide) (by decide) (by decide))
      · exact Or.inr ((g.keep (KF.off (by decide))).rfld (by decide) (by decide))
    obtain ⟨a2, ea2⟩ : ∃ x, x = snumm (mset a 17 2 (snumr t L P).2) t L (snumr t L P).1 0 20 := ⟨_, rfl⟩
    obtain ⟨b2, eb2⟩ : ∃ x, x = rnum (mset b.2 57 19 b.1) 0 20 := ⟨_, rfl⟩
    have n3 := num_or n2 0 20
    have bc2 := rnum_c (mset b.2 57 19 b.1) 0 20
    have ac2 : ∀ q, q ≠ 1 → a2 q = mset a 17 2 (snumr t L P).2 q := fun q hq => by rw [ea2]; exact num_c _ t L _ 0 20 hq
    rw [← ea2, ← eb2] at n3
    rw [← eb2] at bc2
    rw [← ea2, ← eb2]
    have n4 : GS (mset a2 17 3 (snumr t L (snumr t L P).1).2) (mset b2.2 57 20 b2.1) t L (snumr t L (snumr t L P).1).1 ∨ BS (mset a2 17 3 (snumr t L (snumr t L P).1).2) (mset b2.2 57 20 b2.1) := by
      rcases n3 with ⟨-, g, -⟩ | g
      · exact Or.inl ((g.off (by decide) (by decide)).rfld (by decide) (by decide) (by decide) (by decide))
      · exact Or.inr ((g.keep (KF.off (by decide))).rfld (by decide) (by decide))
    rcases fin_st n4 with ⟨g, gp⟩ | g
    · left
      refine ⟨⟨_, by have := snumr_ge t L P; have := snumr_ge t L (snumr t L P).1; omega, g⟩, ?_⟩
      -- the numbers were good, else a fault would stand
      have g16 := g.2.2.2.2.2.1
      have ok3 : GS (mset a 17 2 (snumr t L P).2) (mset b.2 57 19 b.1) t L (snumr t L P).1 ∧ b2.1 = (snumr t L (snumr t L P).1).2 ∧ 0 ≤ (snumr t L (snumr t L P).1).2 ∧ (snumr t L (snumr t L P).1).2 ≤ 20 := by
        rcases n3 with ⟨q1, -, q2, q3, q4⟩ | q
        · exact ⟨q1, q2, q3, q4⟩
        · have q' := (q.rfld (j := 20) (v := b2.1) (by decide) (by decide))
          have q'' := (q'.keep (s' := mset a2 17 3 (snumr t L (snumr t L P).1).2) (KF.off (by decide)))
          rw [q''.fin] at g16
          have := q''.1
          rw [g16] at this
          exact absurd this (by decide)
      have ok1 : b.1 = (snumr t L P).2 ∧ 1 ≤ (snumr t L P).2 ∧ (snumr t L P).2 ≤ 20 := by
        rcases n1 with ⟨-, -, q2, q3, q4⟩ | q
        · exact ⟨q2, q3, q4⟩
        · have q' := (q.keep (s' := mset a 17 2 (snumr t L P).2) (KF.off (by decide))).rfld (j := 19) (v := b.1) (by decide) (by decide)
          have := ok3.1.2.2.2.2.2.1
          have z := q'.1
          rw [this] at z
          exact absurd z (by decide)
      obtain ⟨c1, c2⟩ := rend_c (mset b2.2 57 20 b2.1)
      have sc : ∀ q, q ≠ 1 → sstop (mset a2 17 3 (snumr t L (snumr t L P).1).2) t L (snumr t L (snumr t L P).1).1 q = mset a2 17 3 (snumr t L (snumr t L P).1).2 q := fun q hq => stop_c _ _ _ _ hq
      have s17 : ∀ j, j ≠ 2 → j ≠ 3 → sstop (mset a2 17 3 (snumr t L (snumr t L P).1).2) t L (snumr t L (snumr t L P).1).1 17 j = s 17 j := fun j j2 j3 => by
        rw [sc 17 (by decide), mset_ne _ (by omega), ac2 17 (by decide), mset_ne _ (by omega), ac 17 (by decide)]
      have sq : ∀ q, q ≠ 1 → q ≠ 17 → sstop (mset a2 17 3 (snumr t L (snumr t L P).1).2) t L (snumr t L (snumr t L P).1).1 q = s q := fun q q1 q17 => by
        rw [sc q q1, mset_cell _ q17, ac2 q q1, mset_cell _ q17, ac q q1]
      have rq : ∀ q, q ≠ 57 → rend (mset b2.2 57 20 b2.1) q = m q := fun q hq => by
        rw [c1 q hq, mset_cell _ hq, bc2.1 q hq, mset_cell _ hq, bc.1 q hq, mset_cell _ hq]
      have nz : ¬ (snumr t L P).2 = 0 := fun z => by have := ok1.2.1; rw [z] at this; exact absurd this (by decide)
      refine ⟨Yd, Dd, d1, d2, by rw [s17 0 (by decide) (by decide)]; exact d3, by rw [rq 64 (by decide)]; exact d4, by rw [s17 1 (by decide) (by decide)]; exact d5, by rw [rq 64 (by decide)]; exact d6, Or.inr ⟨?_, ?_, ?_, ?_, ?_, ?_, ?_, ?_⟩, fun k hk => ?_, fun k hk => ?_⟩
      · rw [sc 17 (by decide), mset_ne _ (by decide), ac2 17 (by decide), mset_eq]; exact nz
      · rw [c2 18 (by decide) (by decide) (by decide), mset_ne _ (by decide), bc2.2 18 (by decide) (by decide) (by decide) (by decide), mset_ne _ (by decide), bc.2 18 (by decide) (by decide) (by decide) (by decide), mset_eq]; decide
      · rw [sc 17 (by decide), mset_ne _ (by decide), ac2 17 (by decide), mset_eq, c2 19 (by decide) (by decide) (by decide), mset_ne _ (by decide), bc2.2 19 (by decide) (by decide) (by decide) (by decide), mset_eq, ok1.1]
      · rw [sc 17 (by decide), mset_eq, c2 20 (by decide) (by decide) (by decide), mset_eq, ok3.2.1]
      · rw [c2 19 (by decide) (by decide) (by decide), mset_ne _ (by decide), bc2.2 19 (by decide) (by decide) (by decide) (by decide), mset_eq, ok1.1]; exact Int32.le_trans (by decide) ok1.2.1
      · rw [c2 19 (by decide) (by decide) (by decide), mset_ne _ (by decide), bc2.2 19 (by decide) (by decide) (by decide) (by decide), mset_eq, ok1.1]; exact ok1.2.2
      · rw [c2 20 (by decide) (by decide) (by decide), mset_eq, ok3.2.1]; exact ok3.2.2.1
      · rw [c2 20 (by decide) (by decide) (by decide), mset_eq, ok3.2.1]; exact ok3.2.2.2
      · rw [sq 18 (by decide) (by decide), rq 60 (by decide)]; exact d8 k hk
      · rw [sq 19 (by decide) (by decide), sq 20 (by decide) (by decide), sq 21 (by decide) (by decide), rq 61 (by decide), rq 62 (by decide), rq 63 (by decide)]; exact d9 k hk
    · exact Or.inr g
  · right
    have g0 : (if ¬ m 57 18 = 0 then (0 : Int32) else 1) = 0 := if_pos e2
    rw [g0] at w
    have es1 : sr1 s (Int32.ofNat F) = sblame s 3 (Int32.ofNat F) := by unfold sr1; rw [if_pos e1]
    have e6 : rcsun1 m = rwant m 0 3 (m 57 14) := by unfold rcsun1; rw [g0]
    rw [g0, if_pos (w.1.mpr rfl), e6]
    have bs := w.2.2 rfl
    rw [hF] at bs ⊢
    rw [bs.fin]
    unfold sr3 sr2
    rw [es1]
    exact ((((bs.keep (KF.num _ _ _ _ _ _)).keep (KF.off (by decide))).keep (KF.num _ _ _ _ _ _)).keep (KF.off (by decide))).keep (KF.stop _ _ _ _)
end CLS
section CLS2
variable {s m : zmem} {t : Int32 → Int32} {L P : Nat}
/-- a number, stored in a row by both -/
theorem row_st (h : GS s m t L P ∨ BS s m) {q q' j j' : Nat} {hi : Int32} (hq : q ≠ 1) (hq2 : q ≠ 2) (hq' : q' ≠ 57) (hq2' : q' ≠ 66) : (GS s m t L P ∧ GS (mset (snumm s t L P 0 hi) q j (snumr t L P).2) (mset (rnum m 0 hi).2 q' j' (rnum m 0 hi).1) t L (snumr t L P).1 ∧ (rnum m 0 hi).1 = (snumr t L P).2 ∧ 0 ≤ (snumr t L P).2 ∧ (snumr t L P).2 ≤ hi) ∨ BS (mset (snumm s t L P 0 hi) q j (snumr t L P).2) (mset (rnum m 0 hi).2 q' j' (rnum m 0 hi).1) := by
  rcases num_or h 0 hi with ⟨g0, g, g1⟩ | g
  · exact Or.inl ⟨g0, (g.off hq hq2).rcell hq' hq2', g1⟩
  · exact Or.inr ((g.keep (KF.off hq)).rcell (Ne.symm hq'))
theorem BS.not {s s' m : zmem} {t : Int32 → Int32} {L P : Nat} (h : BS s m) (g : GS s' m t L P) : False := by
  have h1 := h.1
  rw [g.2.2.2.2.2.1] at h1
  exact absurd h1 (by decide)
theorem yard_st (h : GS s m t L P) (d : DR s m) {F : Nat} (hF : m 57 14 = Int32.ofNat F) : ((∃ P', P < P' ∧ GS (sryard s t L P (Int32.ofNat F)) (rend (if rwantr m (if 8 ≤ m 64 2 then 0 else 1) 3 (m 57 14) = 0 then rcyd1 m else ryd (rcyd1 m))) t L P') ∧ DR (sryard s t L P (Int32.ofNat F)) (rend (if rwantr m (if 8 ≤ m 64 2 then 0 else 1) 3 (m 57 14) = 0 then rcyd1 m else ryd (rcyd1 m)))) ∨ BS (sryard s t L P (Int32.ofNat F)) (rend (if rwantr m (if 8 ≤ m 64 2 then 0 else 1) 3 (m 57 14) = 0 then rcyd1 m else ryd (rcyd1 m))) := by
  obtain ⟨Yd, Dd, d1, d2, d3, d4, d5, d6, d7, d8, d9⟩ := d
  have w := h.want (g := if 8 ≤ m 64 2 then 0 else 1) (num := 3) (wh := m 57 14) (by decide)
  unfold sryard
  rw [d3]
  rw [d4] at w ⊢
  by_cases e : Yd < 8
  · have g1 : (if (8 : Int32) ≤ Int32.ofNat Yd then (0 : Int32) else 1) = 1 := if_neg (fun q => by have := (n_le (a := 8) (by decide) (by omega)).mp q; omega)
    rw [g1] at w
    have e6 : rcyd1 m = m := by unfold rcyd1; rw [d4, g1]; exact w.2.1 (by decide)
    rw [g1, if_neg (fun q => absurd (w.1.mp q) (by decide)), e6, if_pos (show Int32.ofNat Yd < 8 from (n_lt (b := 8) (by omega) (by decide)).mpr e)]
    unfold ryd rdn syd1
    rw [d4, natc (by omega), d3, aput_k (by omega) (by decide)]
    have n1 := row_st (Or.inl h) (q := 17 + 1) (q' := 60) (j := Yd) (j' := 8 + Yd) (hi := 99) (by decide) (by decide) (by decide) (by decide)
    have bc := rnum_c m 0 99
    have ac : ∀ q, q ≠ 1 → snumm s t L P 0 99 q = s q := fun q hq => num_c s t L P 0 99 hq
    generalize snumm s t L P 0 99 = a at n1 ac ⊢
    generalize rnum m 0 99 = b at n1 bc ⊢
    have n2 : GS (mset a (17 + 1) Yd (snumr t L P).2) (rinc (mset b.2 60 (8 + Yd) b.1) 2) t L (snumr t L P).1 ∨ BS (mset a (17 + 1) Yd (snumr t L P).2) (rinc (mset b.2 60 (8 + Yd) b.1) 2) := by
      unfold rinc
      rcases n1 with ⟨-, g, -⟩ | g
      · exact Or.inl (g.rcell (by decide) (by decide))
      · exact Or.inr (g.rcell (by decide))
    have sc : ∀ q, q ≠ 1 → sstop (mset a (17 + 1) Yd (snumr t L P).2) t L (snumr t L P).1 q = mset a (17 + 1) Yd (snumr t L P).2 q := fun q hq => stop_c _ _ _ _ hq
    obtain ⟨c1, c2⟩ := rend_c (rinc (mset b.2 60 (8 + Yd) b.1) 2)
    rcases fin_st n2 with ⟨g, gp⟩ | g
    · left
      generalize sstop (mset a (17 + 1) Yd (snumr t L P).2) t L (snumr t L P).1 = z at g sc ⊢
      have gn : b.1 = (snumr t L P).2 ∧ 0 ≤ (snumr t L P).2 ∧ (snumr t L P).2 ≤ 99 := by
        rcases n1 with ⟨-, -, q⟩ | q
        · exact q
        · have q2 := q.rcell (a := 64) (j := 2) (v := mset b.2 60 (8 + Yd) b.1 64 2 + 1) (by decide)
          have g' := g
          have e9 : rend (rinc (mset b.2 60 (8 + Yd) b.1) 2) = rinc (mset b.2 60 (8 + Yd) b.1) 2 := BS.fin q2
          rw [e9] at g'
          exact (BS.not q2 g').elim
      have b64 : mset b.2 60 (8 + Yd) b.1 64 2 = Int32.ofNat Yd := by rw [mset_cell _ (by decide), bc.1 64 (by decide)]; exact d4
      have r64 : rend (rinc (mset b.2 60 (8 + Yd) b.1) 2) 64 2 = Int32.ofNat (Yd + 1) := by rw [c1 64 (by decide)]; unfold rinc; rw [mset_eq, b64, nat_succ]
      have rq : ∀ q, q ≠ 57 → q ≠ 60 → q ≠ 64 → rend (rinc (mset b.2 60 (8 + Yd) b.1) 2) q = m q := fun q h1 h2 h3 => by
        rw [c1 q h1]; unfold rinc; rw [mset_cell _ h3, mset_cell _ h2]; exact bc.1 q h1
      have r57 : ∀ j, j ≠ 13 → j ≠ 14 → j ≠ 16 → j ≠ 17 → rend (rinc (mset b.2 60 (8 + Yd) b.1) 2) 57 j = m 57 j := fun j h1 h2 h3 h4 => by
        rw [c2 j h1 h3 h4]; unfold rinc; rw [mset_cell _ (by decide), mset_cell _ (by decide)]; exact bc.2 j h1 h2 h3 h4
      have z17 : z 17 = s 17 := by rw [sc 17 (by decide), mset_cell _ (by decide), ac 17 (by decide)]
      rw [show z 17 0 = Int32.ofNat Yd by rw [z17]; exact d3, nat_succ]
      refine ⟨⟨_, by have := snumr_ge t L P; omega, g.off (by decide) (by decide)⟩, Yd + 1, Dd, by omega, d2, mset_eq _ _ _ _, r64, ?_, ?_, ?_, fun k hk => ?_, fun k hk => ?_⟩
      · rw [mset_ne _ (by decide), z17]; exact d5
      · rw [c1 64 (by decide)]; unfold rinc; rw [mset_ne _ (by decide), mset_cell _ (by decide), bc.1 64 (by decide)]; exact d6
      · rw [mset_ne _ (by decide), mset_ne _ (by decide), z17, r57 18 (by decide) (by decide) (by decide) (by decide), r57 19 (by decide) (by decide) (by decide) (by decide), r57 20 (by decide) (by decide) (by decide) (by decide)]; exact d7
      · rw [mset_cell _ (by decide), sc 18 (by decide), c1 60 (by decide)]
        unfold rinc
        rw [mset_cell _ (show 60 ≠ 64 by decide)]
        by_cases y : k = Yd
        · subst y
          rw [show (17 + 1) = 18 from rfl, mset_eq, mset_eq, gn.1]
          exact ⟨rfl, gn.2⟩
        · rw [show (17 + 1) = 18 from rfl, mset_ne _ (by omega), mset_ne _ (by omega), ac 18 (by decide), bc.1 60 (by decide)]
          exact d8 k (by omega)
      · rw [mset_cell _ (show 19 ≠ 17 by decide), mset_cell _ (show 20 ≠ 17 by decide), mset_cell _ (show 21 ≠ 17 by decide), sc 19 (by decide), sc 20 (by decide), sc 21 (by decide), mset_cell _ (show 19 ≠ 17 + 1 by decide), mset_cell _ (show 20 ≠ 17 + 1 by decide), mset_cell _ (show 21 ≠ 17 + 1 by decide), ac 19 (by decide), ac 20 (by decide), ac 21 (by decide), rq 61 (by decide) (by decide) (by decide), rq 62 (by decide) (by decide) (by decide), rq 63 (by decide) (by decide) (by decide)]
        exact d9 k hk
    · exact Or.inr (g.keep (KF.off (by decide)))
  · right
    have g0 : (if (8 : Int32) ≤ Int32.ofNat Yd then (0 : Int32) else 1) = 0 := if_pos ((n_le (a := 8) (by decide) (by omega)).mpr (by omega))
    rw [g0] at w
    have e6 : rcyd1 m = rwant m 0 3 (m 57 14) := by unfold rcyd1; rw [d4, g0]
    rw [g0, if_pos (w.1.mpr rfl), e6, if_neg (fun q : Int32.ofNat Yd < 8 => by have := (n_lt (b := 8) (by omega) (by decide)).mp q; omega)]
    have bs := w.2.2 rfl
    rw [hF] at bs ⊢
    rw [bs.fin]
    exact bs
end CLS2
section CLS3
variable {s m : zmem} {t : Int32 → Int32} {L P : Nat}
theorem dead_st (h : GS s m t L P) (d : DR s m) {F : Nat} (hF : m 57 14 = Int32.ofNat F) : ((∃ P', P < P' ∧ GS (srdead s t L P (Int32.ofNat F)) (rend (if rwantr m (if 7 ≤ m 64 3 then 0 else 1) 3 (m 57 14) = 0 then rcdd1 m (m 57 14) else rdd (rcdd1 m (m 57 14)))) t L P') ∧ DR (srdead s t L P (Int32.ofNat F)) (rend (if rwantr m (if 7 ≤ m 64 3 then 0 else 1) 3 (m 57 14) = 0 then rcdd1 m (m 57 14) else rdd (rcdd1 m (m 57 14))))) ∨ BS (srdead s t L P (Int32.ofNat F)) (rend (if rwantr m (if 7 ≤ m 64 3 then 0 else 1) 3 (m 57 14) = 0 then rcdd1 m (m 57 14) else rdd (rcdd1 m (m 57 14)))) := by
  obtain ⟨Yd, Dd, d1, d2, d3, d4, d5, d6, d7, d8, d9⟩ := d
  have w := h.want (g := if 7 ≤ m 64 3 then 0 else 1) (num := 3) (wh := m 57 14) (by decide)
  unfold srdead
  rw [d5]
  rw [d6] at w ⊢
  by_cases e : Dd < 7
  · have g1 : (if (7 : Int32) ≤ Int32.ofNat Dd then (0 : Int32) else 1) = 1 := if_neg (fun q => by have := (n_le (a := 7) (by decide) (by omega)).mp q; omega)
    rw [g1] at w
    have e6 : rcdd1 m (m 57 14) = m := by unfold rcdd1; rw [d6, g1]; exact w.2.1 (by decide)
    rw [g1, if_neg (fun q => absurd (w.1.mp q) (by decide)), e6, if_pos (show Int32.ofNat Dd < 7 from (n_lt (b := 7) (by omega) (by decide)).mpr e)]
    have er : rdd m = rinc (rdn (rdn (rdn m 61 (8 + Dd) 99) 62 (8 + Dd) 999) 63 (8 + Dd) 9) 3 := by unfold rdd; rw [d6, natc (by omega)]
    rw [er]
    have row : ∀ (x : zmem) (Q q : Nat) (hi : Int32), x 17 1 = Int32.ofNat Dd → srow x t L Q q hi = mset (snumm x t L Q 0 hi) q Dd (snumr t L Q).2 := fun x Q q hi hx => by unfold srow; rw [hx, aput_k (by omega) (by decide)]
    obtain ⟨P1, hP1⟩ : ∃ x, x = (snumr t L P).1 := ⟨_, rfl⟩
    obtain ⟨P2, hP2⟩ : ∃ x, x = (snumr t L P1).1 := ⟨_, rfl⟩
    obtain ⟨P3, hP3⟩ : ∃ x, x = (snumr t L P2).1 := ⟨_, rfl⟩
    obtain ⟨a1, ea1⟩ : ∃ x, x = srow s t L P (17 + 2) 99 := ⟨_, rfl⟩
    have f1 : a1 = mset (snumm s t L P 0 99) 19 Dd (snumr t L P).2 := by rw [ea1, row s P (17 + 2) 99 d5]
    have k1 : ∀ q, q ≠ 1 → q ≠ 19 → a1 q = s q := fun q h1 h2 => by rw [f1, mset_cell _ h2]; exact num_c s t L P 0 99 h1
    obtain ⟨a2, ea2⟩ : ∃ x, x = srow a1 t L P1 (17 + 3) 999 := ⟨_, rfl⟩
    have f2 : a2 = mset (snumm a1 t L P1 0 999) 20 Dd (snumr t L P1).2 := by rw [ea2, row a1 P1 (17 + 3) 999 (by rw [k1 17 (by decide) (by decide)]; exact d5)]
    have k2 : ∀ q, q ≠ 1 → q ≠ 20 → a2 q = a1 q := fun q h1 h2 => by rw [f2, mset_cell _ h2]; exact num_c a1 t L P1 0 999 h1
    obtain ⟨a3, ea3⟩ : ∃ x, x = srow a2 t L P2 (17 + 4) 9 := ⟨_, rfl⟩
    have f3 : a3 = mset (snumm a2 t L P2 0 9) 21 Dd (snumr t L P2).2 := by rw [ea3, row a2 P2 (17 + 4) 9 (by rw [k2 17 (by decide) (by decide), k1 17 (by decide) (by decide)]; exact d5)]
    have k3 : ∀ q, q ≠ 1 → q ≠ 21 → a3 q = a2 q := fun q h1 h2 => by rw [f3, mset_cell _ h2]; exact num_c a2 t L P2 0 9 h1
    have es : sdd1 s t L P = sstop a3 t L P3 := by unfold sdd1; rw [← hP1, ← hP2, ← hP3, ← ea1, ← ea2, ← ea3]
    rw [es]
    obtain ⟨b1, eb1⟩ : ∃ x, x = rdn m 61 (8 + Dd) 99 := ⟨_, rfl⟩
    obtain ⟨b2, eb2⟩ : ∃ x, x = rdn b1 62 (8 + Dd) 999 := ⟨_, rfl⟩
    obtain ⟨b3, eb3⟩ : ∃ x, x = rdn b2 63 (8 + Dd) 9 := ⟨_, rfl⟩
    have rc : ∀ (x : zmem) (q d : Nat) (hi : Int32), (q = 61 ∨ q = 62 ∨ q = 63) → (∀ c, c ≠ 57 → c ≠ q → rdn x q d hi c = x c) ∧ (∀ j, j ≠ 13 → j ≠ 14 → j ≠ 16 → j ≠ 17 → rdn x q d hi 57 j = x 57 j) ∧ (∀ j, j ≠ d → rdn x q d hi q j = x q j) ∧ rdn x q d hi q d = (rnum x 0 hi).1 := fun x q d hi hq => by
      have c := rnum_c x 0 hi
      unfold rdn
      exact ⟨fun c' h1 h2 => (mset_cell _ h2).trans (c.1 c' h1), fun j h1 h2 h3 h4 => by rw [mset_cell _ (show 57 ≠ q by omega)]; exact c.2 j h1 h2 h3 h4, fun j hj => by rw [mset_ne _ (by omega), c.1 q (by omega)], mset_eq _ _ _ _⟩
    have q1 := rc m 61 (8 + Dd) 99 (Or.inl rfl)
    have q2 := rc b1 62 (8 + Dd) 999 (Or.inr (Or.inl rfl))
    have q3 := rc b2 63 (8 + Dd) 9 (Or.inr (Or.inr rfl))
    rw [← eb1] at q1
    rw [← eb2] at q2
    rw [← eb3] at q3
    rw [← eb1, ← eb2, ← eb3]
    have n1 : (GS s m t L P ∧ GS a1 b1 t L P1 ∧ b1 61 (8 + Dd) = (snumr t L P).2 ∧ 0 ≤ (snumr t L P).2 ∧ (snumr t L P).2 ≤ 99) ∨ BS a1 b1 := by
      rw [q1.2.2.2, f1, eb1, hP1]
      exact row_st (Or.inl h) (q := 19) (q' := 61) (j := Dd) (j' := 8 + Dd) (hi := 99) (by decide) (by decide) (by decide) (by decide)
    have n2 : (GS a1 b1 t L P1 ∧ GS a2 b2 t L P2 ∧ b2 62 (8 + Dd) = (snumr t L P1).2 ∧ 0 ≤ (snumr t L P1).2 ∧ (snumr t L P1).2 ≤ 999) ∨ BS a2 b2 := by
      have i : GS a1 b1 t L P1 ∨ BS a1 b1 := by rcases n1 with ⟨-, g, -⟩ | g; exact Or.inl g; exact Or.inr g
      rw [q2.2.2.2, f2, eb2, hP2]
      exact row_st i (q := 20) (q' := 62) (j := Dd) (j' := 8 + Dd) (hi := 999) (by decide) (by decide) (by decide) (by decide)
    have n3 : (GS a2 b2 t L P2 ∧ GS a3 b3 t L P3 ∧ b3 63 (8 + Dd) = (snumr t L P2).2 ∧ 0 ≤ (snumr t L P2).2 ∧ (snumr t L P2).2 ≤ 9) ∨ BS a3 b3 := by
      have i : GS a2 b2 t L P2 ∨ BS a2 b2 := by rcases n2 with ⟨-, g, -⟩ | g; exact Or.inl g; exact Or.inr g
      rw [q3.2.2.2, f3, eb3, hP3]
      exact row_st i (q := 21) (q' := 63) (j := Dd) (j' := 8 + Dd) (hi := 9) (by decide) (by decide) (by decide) (by decide)
    have b643 : b3 64 3 = Int32.ofNat Dd := by rw [q3.1 64 (by decide) (by decide), q2.1 64 (by decide) (by decide), q1.1 64 (by decide) (by decide)]; exact d6
    have n4 : GS a3 (rinc b3 3) t L P3 ∨ BS a3 (rinc b3 3) := by
      unfold rinc
      rcases n3 with ⟨-, g, -⟩ | g
      · exact Or.inl (g.rcell (by decide) (by decide))
      · exact Or.inr (g.rcell (by decide))
    have sc : ∀ q, q ≠ 1 → sstop a3 t L P3 q = a3 q := fun q hq => stop_c _ _ _ _ hq
    obtain ⟨c1, c2⟩ := rend_c (rinc b3 3)
    rcases fin_st n4 with ⟨g, gp⟩ | g
    · left
      generalize sstop a3 t L P3 = z at g sc ⊢
      have ok3 : GS a2 b2 t L P2 ∧ b3 63 (8 + Dd) = (snumr t L P2).2 ∧ 0 ≤ (snumr t L P2).2 ∧ (snumr t L P2).2 ≤ 9 := by
        rcases n3 with ⟨q, -, q'⟩ | q
        · exact ⟨q, q'⟩
        · have qq : BS a3 (rinc b3 3) := by unfold rinc; exact q.rcell (by decide)
          have g' := g
          rw [BS.fin qq] at g'
          exact (BS.not qq g').elim
      have ok2 : GS a1 b1 t L P1 ∧ b2 62 (8 + Dd) = (snumr t L P1).2 ∧ 0 ≤ (snumr t L P1).2 ∧ (snumr t L P1).2 ≤ 999 := by
        rcases n2 with ⟨q, -, q'⟩ | q
        · exact ⟨q, q'⟩
        · exact (BS.not q ok3.1).elim
      have ok1 : b1 61 (8 + Dd) = (snumr t L P).2 ∧ 0 ≤ (snumr t L P).2 ∧ (snumr t L P).2 ≤ 99 := by
        rcases n1 with ⟨-, -, q'⟩ | q
        · exact q'
        · exact (BS.not q ok2.1).elim
      have z17 : z 17 = s 17 := by rw [sc 17 (by decide), k3 17 (by decide) (by decide), k2 17 (by decide) (by decide), k1 17 (by decide) (by decide)]
      have rq : ∀ q, q ≠ 57 → q ≠ 64 → rend (rinc b3 3) q = b3 q := fun q h1 h2 => by rw [c1 q h1]; unfold rinc; exact mset_cell _ h2
      have r57 : ∀ j, j ≠ 13 → j ≠ 14 → j ≠ 16 → j ≠ 17 → rend (rinc b3 3) 57 j = m 57 j := fun j h1 h2 h3 h4 => by
        rw [c2 j h1 h3 h4]; unfold rinc; rw [mset_cell _ (by decide), q3.2.1 j h1 h2 h3 h4, q2.2.1 j h1 h2 h3 h4, q1.2.1 j h1 h2 h3 h4]
      rw [show z 17 1 = Int32.ofNat Dd by rw [z17]; exact d5, nat_succ]
      refine ⟨⟨_, by have q1 := snumr_ge t L P; have q2 := snumr_ge t L P1; have q3 := snumr_ge t L P2; rw [← hP1] at q1; rw [← hP2] at q2; rw [← hP3] at q3; omega, g.off (by decide) (by decide)⟩, Yd, Dd + 1, d1, by omega, ?_, ?_, mset_eq _ _ _ _, ?_, ?_, fun k hk => ?_, fun k hk => ?_⟩
      · rw [mset_ne _ (by decide), z17]; exact d3
      · rw [c1 64 (by decide)]; unfold rinc; rw [mset_ne _ (by decide), q3.1 64 (by decide) (by decide), q2.1 64 (by decide) (by decide), q1.1 64 (by decide) (by decide)]; exact d4
      · rw [c1 64 (by decide)]; unfold rinc; rw [mset_eq, b643, nat_succ]
      · rw [mset_ne _ (by decide), mset_ne _ (by decide), z17, r57 18 (by decide) (by decide) (by decide) (by decide), r57 19 (by decide) (by decide) (by decide) (by decide), r57 20 (by decide) (by decide) (by decide) (by decide)]; exact d7
      · rw [mset_cell _ (by decide), sc 18 (by decide), k3 18 (by decide) (by decide), k2 18 (by decide) (by decide), k1 18 (by decide) (by decide), rq 60 (by decide) (by decide), q3.1 60 (by decide) (by decide), q2.1 60 (by decide) (by decide), q1.1 60 (by decide) (by decide)]
        exact d8 k hk
      · rw [mset_cell _ (show 19 ≠ 17 by decide), mset_cell _ (show 20 ≠ 17 by decide), mset_cell _ (show 21 ≠ 17 by decide), sc 19 (by decide), sc 20 (by decide), sc 21 (by decide), k3 19 (by decide) (by decide), k2 19 (by decide) (by decide), k3 20 (by decide) (by decide), rq 61 (by decide) (by decide), rq 62 (by decide) (by decide), rq 63 (by decide) (by decide), q3.1 61 (by decide) (by decide), q2.1 61 (by decide) (by decide), q3.1 62 (by decide) (by decide)]
        by_cases y : k = Dd
        · subst y
          rw [ok1.1, ok2.2.1, ok3.2.1, f3, f2, f1, mset_eq, mset_eq, mset_eq]
          exact ⟨⟨rfl, ok1.2⟩, ⟨rfl, ok2.2.2⟩, rfl, ok3.2.2⟩
        · rw [q1.2.2.1 _ (by omega), q2.2.2.1 _ (by omega), q3.2.2.1 _ (by omega), q2.1 63 (by decide) (by decide), q1.1 63 (by decide) (by decide), q1.1 62 (by decide) (by decide)]
          have g19 : a1 19 k = s 19 k := by rw [f1, mset_ne _ (by omega)]; exact congrFun (num_c s t L P 0 99 (by decide)) k
          have g20 : a2 20 k = s 20 k := by rw [f2, mset_ne _ (by omega), num_c a1 t L P1 0 999 (by decide), k1 20 (by decide) (by decide)]
          have g21 : a3 21 k = s 21 k := by rw [f3, mset_ne _ (by omega), num_c a2 t L P2 0 9 (by decide), k2 21 (by decide) (by decide), k1 21 (by decide) (by decide)]
          rw [g19, g20, g21]
          exact d9 k (by omega)
    · exact Or.inr (g.keep (KF.off (by decide)))
  · right
    have g0 : (if (7 : Int32) ≤ Int32.ofNat Dd then (0 : Int32) else 1) = 0 := if_pos ((n_le (a := 7) (by decide) (by omega)).mpr (by omega))
    rw [g0] at w
    have e6 : rcdd1 m (m 57 14) = rwant m 0 3 (m 57 14) := by unfold rcdd1; rw [d6, g0]
    rw [g0, if_pos (w.1.mpr rfl), e6, if_neg (fun q : Int32.ofNat Dd < 7 => by have := (n_lt (b := 7) (by omega) (by decide)).mp q; omega)]
    have bs := w.2.2 rfl
    rw [hF] at bs ⊢
    rw [bs.fin]
    exact bs
end CLS3
section CLS4
variable {s m : zmem} {t : Int32 → Int32} {L P : Nat}
theorem DR.word (d : DR s m) {m' : zmem} {k : Nat} (h1 : ∀ q, q ≠ 57 → m' q = m q) (h2 : ∀ j, j ≠ 13 → j ≠ 14 → j ≠ 15 → m' 57 j = m 57 j) : DR (spl s k) m' := by
  obtain ⟨Yd, Dd, d1, d2, d3, d4, d5, d6, d7, d8, d9⟩ := d
  have e : ∀ q, q ≠ 1 → spl s k q = s q := fun q hq => mset_cell _ hq
  refine ⟨Yd, Dd, d1, d2, by rw [e 17 (by decide)]; exact d3, by rw [h1 64 (by decide)]; exact d4, by rw [e 17 (by decide)]; exact d5, by rw [h1 64 (by decide)]; exact d6, ?_, fun j hj => ?_, fun j hj => ?_⟩
  · rw [e 17 (by decide), h2 18 (by decide) (by decide) (by decide), h2 19 (by decide) (by decide) (by decide), h2 20 (by decide) (by decide) (by decide)]; exact d7
  · rw [e 18 (by decide), h1 60 (by decide)]; exact d8 j hj
  · rw [e 19 (by decide), e 20 (by decide), e 21 (by decide), h1 61 (by decide), h1 62 (by decide), h1 63 (by decide)]; exact d9 j hj
theorem word_len (h : GS s m t L P) (hP : sblk t L P = P) {i : Nat} (hi : zln i ≤ 5) (hw : ¬ swordi t L P i = 0) : P + zln i = swend t L P := by
  obtain ⟨-, -, -, -, -, le1, le2⟩ := word_st h hP
  have hb := h.bd
  unfold swordi at hw
  have z : sword t L P i = true := by
    by_cases z : sword t L P i = true
    · exact z
    · rw [if_neg z] at hw; exact absurd rfl hw
  unfold sword at z
  have e := of_decide_eq_true ((Bool.and_eq_true _ _).mp z).1
  rw [(n_ge3 le1 (by omega)).2.2.2] at e
  have := ofNat_inj e (by omega) (by omega)
  omega
/-- a clause of a parish -/
theorem clause_st (h : GS s m t L P) (hP : sblk t L P = P) (d : DR s m) : ((∃ P', P + 2 ≤ P' ∧ GS (sclause s t L P) (rcl m) t L P') ∧ DR (sclause s t L P) (rcl m)) ∨ BS (sclause s t L P) (rcl m) := by
  obtain ⟨g, w14, w15, wc, wf, le1, le2⟩ := word_st h hP
  have dw : DR (spl s (swend t L P)) (rtw m) := d.word wc wf
  have b0 : rws (rtw m) 3 115 117 110 0 0 = swordi t L P 0 := word_eq h hP rfl (by decide) w0_tab
  have b1 : rws (rtw m) 4 121 97 114 100 0 = swordi t L P 1 := word_eq h hP rfl (by decide) w1_tab
  have b2 : rws (rtw m) 4 100 101 97 100 0 = swordi t L P 2 := word_eq h hP rfl (by decide) w2_tab
  have l0 := fun z => word_len h hP (i := 0) (by decide) z
  have l1 := fun z => word_len h hP (i := 1) (by decide) z
  have l2 := fun z => word_len h hP (i := 2) (by decide) z
  rw [show zln 0 = 3 from rfl] at l0
  rw [show zln 1 = 4 from rfl] at l1
  rw [show zln 2 = 4 from rfl] at l2
  unfold sclause rcl rcl1
  rw [b0, b1, b2]
  by_cases c0 : swordi t L P 0 = 0
  · rw [if_neg (fun q => q c0), if_pos c0]
    by_cases c1 : swordi t L P 1 = 0
    · rw [if_neg (fun q => q c1), if_pos c1]
      have w := g.want (g := swordi t L P 2) (num := 1) (wh := rtw m 57 14) (by decide)
      have ed : rcdd0 (rtw m) = rwant (rtw m) (swordi t L P 2) 1 (rtw m 57 14) := by unfold rcdd0; rw [b2]
      by_cases c2 : swordi t L P 2 = 0
      · right
        rw [if_neg (fun q => q c2), if_pos (w.1.mpr c2), ed]
        have bs := w.2.2 c2
        rw [bs.fin]
        rw [w14] at bs ⊢
        have e : KF (sblame (spl s (swend t L P)) 1 (Int32.ofNat P)) (sblame s 1 (Int32.ofNat P)) := fun _ => by
          have z : spl s (swend t L P) 1 3 = 0 := g.2.2.2.2.1
          unfold sblame
          rw [if_pos z, if_pos h.2.2.2.2.1]
          exact ⟨by rw [mset_ne _ (by decide), mset_eq, mset_ne _ (by decide), mset_eq], by rw [mset_eq, mset_eq]⟩
        exact bs.keep e
      · have e0 : rcdd0 (rtw m) = rtw m := by rw [ed]; exact w.2.1 c2
        rw [if_pos c2, if_neg (fun q => c2 (w.1.mp q)), e0]
        rcases dead_st g dw w14 with ⟨⟨P', p1, p2⟩, q⟩ | q
        · exact Or.inl ⟨⟨P', by have := l2 c2; omega, p2⟩, q⟩
        · exact Or.inr q
    · rw [if_pos c1, if_neg c1]
      rcases yard_st g dw w14 with ⟨⟨P', p1, p2⟩, q⟩ | q
      · exact Or.inl ⟨⟨P', by have := l1 c1; omega, p2⟩, q⟩
      · exact Or.inr q
  · rw [if_pos c0, if_neg c0]
    rcases sun_st g dw w14 with ⟨⟨P', p1, p2⟩, q⟩ | q
    · exact Or.inl ⟨⟨P', by have := l0 c0; omega, p2⟩, q⟩
    · exact Or.inr q
/-- all clauses -/
theorem read_st : ∀ n P s m, GS s m t L P → DR s m → L - P < 2 * n → ∃ (F : Nat) (mR : zmem), rreadP F m mR ∧ (((∃ P', GS (sread t L n s) mR t L P') ∧ DR (sread t L n s) mR) ∨ BS (sread t L n s) mR) := by
  intro n
  induction n with
  | zero => intro P s m _ _ h; omega
  | succ n ih =>
    intro P s m h d hn
    have b := h.blk
    have hb := h.bd
    have go := h.go
    have eh := h.here
    have rc := rat_c m (rblk m)
    have dg : DR (spl s (sblk t L P)) (rat m (rblk m)) := d.word rc.1 (fun j h1 _ _ => rc.2 j h1)
    have er : ∀ F mR, rreadP (F + 1) m mR = (if ¬ m 57 16 = 0 then mR = m else if rhr m < 0 then mR = rat m (rblk m) else rreadP F (rcl (rat m (rblk m))) mR) := fun _ _ => rfl
    have es : sread t L (n + 1) s = if sgo s t L (spo s) = 0 then spl s (sblk t L (spo s)) else sread t L n (sclause (spl s (sblk t L (spo s))) t L (sblk t L (spo s))) := rfl
    rw [es, spo_eq h.1]
    have esg : sgo s t L P = if Int32.ofNat L ≤ Int32.ofNat (sblk t L P) then 0 else 1 := by unfold sgo; rw [if_neg (fun q => q h.2.2.2.2.1)]
    rw [esg]
    by_cases e : sblk t L P = L
    · rw [if_pos (show Int32.ofNat L ≤ Int32.ofNat (sblk t L P) by rw [e]; exact Int32.le_refl _), if_pos rfl]
      refine ⟨1, rat m (rblk m), ?_, Or.inl ⟨⟨_, go⟩, dg⟩⟩
      rw [er, if_neg (fun q => q h.2.2.2.2.2.1), if_pos (by rw [eh, e, h.2.2.2.1.2]; decide)]
    · have e9 : ¬ Int32.ofNat L ≤ Int32.ofNat (sblk t L P) := fun q => by have := (n_le (by omega) (by omega)).mp q; omega
      rw [if_neg e9, if_neg (show ¬ (1 : Int32) = 0 by decide)]
      have hp : ¬ rhr m < 0 := by
        rw [eh, (h.2.2.2.1.1 (sblk t L P) (by omega)).1]
        exact Int32.not_lt.mpr (h.2.2.2.1.1 (sblk t L P) (by omega)).2
      rcases clause_st go (sblk_2 hb.2) dg with ⟨⟨P', p1, p2⟩, d2⟩ | q
      · obtain ⟨F, mR, r1, r2⟩ := ih P' _ _ p2 d2 (by have := p2.bd; omega)
        exact ⟨F + 1, mR, by rw [er, if_neg (fun q => q h.2.2.2.2.2.1), if_neg hp]; exact r1, r2⟩
      · -- a fault: both stop
        have nz : ¬ rcl (rat m (rblk m)) 57 16 = 0 := fun z => by have := q.1; rw [z] at this; exact absurd this (by decide)
        refine ⟨2, rcl (rat m (rblk m)), ?_, Or.inr ?_⟩
        · rw [er, if_neg (fun q => q h.2.2.2.2.2.1), if_neg hp]
          show if ¬ rcl (rat m (rblk m)) 57 16 = 0 then _ else _
          rw [if_pos nz]
        · have e2 : ∀ (n : Nat) (x : zmem), ¬ x 1 3 = 0 → KF x (sread t L n x) := fun n x hx => by
            cases n with
            | zero => exact KF.rf x
            | succ n =>
              have : sread t L (n + 1) x = spl x (sblk t L (spo x)) := by
                show (if sgo x t L (spo x) = 0 then spl x (sblk t L (spo x)) else _) = _
                rw [if_pos (by unfold sgo; rw [if_pos hx])]
              rw [this]
              exact KF.pl _ _
          exact q.keep (e2 n _ (by rw [q.2.1]; exact nz))
end CLS4
section PST
variable {s t : zmem} {D Y C L W : Nat}
theorem txt_of (h : RP s t D Y C L W) : TXT (tby s) (t 66) L := by
  obtain ⟨l1, l2, l3⟩ := h.L1
  refine ⟨fun k hk => ?_, ?_⟩
  · have e : tby s (Int32.ofNat k) = s 2 k &&& 255 := by
      unfold tby
      rw [if_neg (n_lt0 (by omega)), l1, if_neg (fun q => by have := (n_le (by omega) (by omega)).mp q; omega), if_neg (fun q => by have := (n_le (a := 400) (by decide) (by omega)).mp q; omega), natc (by omega)]
    have e2 : t 66 k = s 2 k &&& 255 := h.tx k hk
    refine ⟨e.trans e2.symm, ?_⟩
    rw [e2]
    have m255 : ∀ k, k < 32 → bt 255 k = decide (k < 8) := by decide +kernel
    obtain ⟨n, hn, en⟩ := small8 (x := s 2 k &&& 255) (fun j h1 h2 => by rw [bt_and, m255 j h2, decide_eq_false (by omega), Bool.and_false])
    rw [en]
    exact Int32.not_lt.mp (n_lt0 (by omega))
  · unfold tby
    rw [if_neg (n_lt0 (by omega)), l1, if_pos (Int32.le_refl _)]
theorem par_start (h : RP s t D Y C L W) : GS (sread0 s) (rp0 t) (tby s) L 0 ∧ DR (sread0 s) (rp0 t) := by
  obtain ⟨l1, l2, l3⟩ := h.L1
  have c1 : ∀ q, q ≠ 1 → q ≠ 17 → sread0 s q = s q := fun q h1 h17 => by
    unfold sread0 sbegin
    rw [mset_cell _ h1, mset_cell _ h1, mset_cell _ h1, mset_cell _ h17, mset_cell _ h17, mset_cell _ h17, mset_cell _ h17]
  have ts : TS (sread0 s) (tby s) L 0 := by
    unfold sread0
    refine TS.begin (tby_eq ?_ ?_) ?_ l3
    · rw [mset_cell _ (by decide), mset_cell _ (by decide), mset_cell _ (by decide), mset_cell _ (by decide)]
    · rw [mset_cell _ (by decide), mset_cell _ (by decide), mset_cell _ (by decide), mset_cell _ (by decide)]
    · rw [mset_cell _ (by decide), mset_cell _ (by decide), mset_cell _ (by decide), mset_cell _ (by decide)]; exact l1
  refine ⟨⟨ts, ?_, ?_, ?_, ?_, ?_, ?_⟩, 0, 0, by decide, by decide, ?_, ?_, ?_, ?_, Or.inl ⟨?_, ?_, ?_, ?_, ?_⟩, fun k hk => by omega, fun k hk => by omega⟩
  · rw [← l2]; simp [rp0, rstart, mset]
  · simp [rp0, rstart, mset]
  · have e66 : rp0 t 66 = t 66 := by funext k; simp [rp0, rstart, mset]
    rw [e66]
    exact txt_of h
  · simp [sread0, sbegin, mset]
  · simp [rp0, rstart, mset]
  · simp [sread0, sbegin, rp0, rstart, mset]
  · simp [sread0, sbegin, mset]
  · simp [rp0, rstart, mset]
  · simp [sread0, sbegin, mset]
  · simp [rp0, rstart, mset]
  · simp [sread0, sbegin, mset]
  · simp [sread0, sbegin, mset]
  · simp [rp0, rstart, mset]
  · simp [rp0, rstart, mset]
  · simp [rp0, rstart, mset]
end PST
/-! what reading leaves alone -/
def rdC (q : Nat) : Prop := q ≠ 1 ∧ (q < 17 ∨ 27 ≤ q)
theorem blame_c (s : zmem) (a b : Int32) {q : Nat} (hq : q ≠ 1) : sblame s a b q = s q := by
  unfold sblame
  split
  · rw [mset_cell _ hq, mset_cell _ hq]
  · rfl
theorem sclause_c (s : zmem) (t : Int32 → Int32) (L P : Nat) {q : Nat} (h : rdC q) : sclause s t L P q = s q := by
  obtain ⟨h1, h2⟩ := h
  have p : ∀ k, spl s k q = s q := fun k => mset_cell _ h1
  have row : ∀ (x : zmem) (Q r : Nat) (hi : Int32), r ≠ q → srow x t L Q r hi q = x q := fun x Q r hi hr => by unfold srow; rw [aput_ne (Ne.symm hr)]; exact num_c x t L Q 0 hi h1
  unfold sclause
  split
  · unfold srsun
    rw [stop_c _ _ _ _ h1]
    unfold sr3 sr2 sr1
    rw [mset_cell _ (by omega), num_c _ _ _ _ _ _ h1, mset_cell _ (by omega), num_c _ _ _ _ _ _ h1]
    split
    · rw [blame_c _ _ _ h1]; exact p _
    · exact p _
  · split
    · unfold sryard
      split
      · rw [mset_cell _ (by omega)]
        unfold syd1
        rw [stop_c _ _ _ _ h1, aput_ne (by omega), num_c _ _ _ _ _ _ h1]; exact p _
      · rw [blame_c _ _ _ h1]; exact p _
    · split
      · unfold srdead
        split
        · rw [mset_cell _ (by omega)]
          unfold sdd1
          rw [stop_c _ _ _ _ h1, row _ _ _ _ (by omega), row _ _ _ _ (by omega), row _ _ _ _ (by omega)]; exact p _
        · rw [blame_c _ _ _ h1]; exact p _
      · exact blame_c _ _ _ h1
theorem sread_c (t : Int32 → Int32) (L : Nat) {q : Nat} (h : rdC q) : ∀ n s, sread t L n s q = s q := by
  intro n
  induction n with
  | zero => intro s; rfl
  | succ n ih =>
    intro s
    show (if sgo s t L (spo s) = 0 then spl s (sblk t L (spo s)) else sread t L n (sclause (spl s (sblk t L (spo s))) t L (sblk t L (spo s)))) q = s q
    split
    · exact mset_cell _ h.1
    · rw [ih, sclause_c _ _ _ _ h]; exact mset_cell _ h.1
