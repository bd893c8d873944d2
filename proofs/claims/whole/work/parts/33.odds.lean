/-! odds, mean -/
theorem ne_m1 {d : Nat} (h : d < 2 ^ 31) : nI d ≠ -1 := fun q => by
  have := congrArg Int32.toInt q
  rw [nI_toInt h] at this
  have e : (-1 : Int32).toInt = -1 := rfl
  omega
theorem ne_m1L {d : Nat} (h : d < 2 ^ 31) : lN d ≠ -1 := fun q => by
  have := congrArg Int64.toInt q
  rw [lN_toInt h] at this
  have e : (-1 : Int64).toInt = -1 := rfl
  omega
theorem tdiv_b {x : Int} {d : Nat} (h : -1000 ≤ x ∧ x ≤ 1000) : -1000 ≤ x.tdiv d ∧ x.tdiv d ≤ 1000 ∧ -1000 ≤ x.tdiv d * d ∧ x.tdiv d * d ≤ 1000 := by
  have e1 := Int.mul_tdiv_add_tmod x d
  have h1 : (x.tdiv d).natAbs ≤ x.natAbs := by rw [Int.natAbs_tdiv]; exact Nat.div_le_self _ _
  have h2 : (x.tdiv d * d).natAbs ≤ x.natAbs := by
    rw [Int.natAbs_mul, Int.natAbs_tdiv, Int.natAbs_natCast]
    exact Nat.div_mul_le_self _ _
  omega
theorem rem_0 {x : Int32} {d : Nat} (h : -1000 ≤ x.toInt ∧ x.toInt ≤ 1000) (hd : d < 2 ^ 31) : x - x / nI d * nI d = 0 ↔ d ∣ x.toInt.natAbs := by
  have b := tdiv_b (d := d) h
  have e1 : (x / nI d).toInt = x.toInt.tdiv d := by rw [Int32.toInt_div_of_ne_right _ _ (ne_m1 hd), nI_toInt hd]
  have e2 : (x / nI d * nI d).toInt = x.toInt.tdiv d * d := by rw [fb_mulI (by rw [e1, nI_toInt hd]; omega) (by rw [e1, nI_toInt hd]; omega), e1, nI_toInt hd]
  have e3 : (x - x / nI d * nI d).toInt = x.toInt - x.toInt.tdiv d * d := by rw [fb_subI (by rw [e2]; omega) (by rw [e2]; omega), e2]
  have e0 : (0 : Int32).toInt = 0 := rfl
  rw [fa_eq, e3, e0]
  constructor
  · intro z
    have : (d : Int) ∣ x.toInt := ⟨x.toInt.tdiv d, by rw [Int.mul_comm]; omega⟩
    have z2 := Int.natAbs_dvd_natAbs.mpr this
    rwa [Int.natAbs_natCast] at z2
  · intro z
    have : (d : Int) ∣ x.toInt := Int.natAbs_dvd_natAbs.mp (by rwa [Int.natAbs_natCast])
    have z3 := Int.tdiv_mul_cancel this
    omega
theorem fr_q {x : Int32} {G : Nat} (h : G < 2 ^ 31) : x.toInt64 / lN G = (x / nI G).toInt64 := by
  rw [fa_eq64, Int64.toInt_div_of_ne_right _ _ (ne_m1L h), Int32.toInt_toInt64, Int32.toInt_toInt64, Int32.toInt_div_of_ne_right _ _ (ne_m1 h), lN_toInt h, nI_toInt h]
def gcA (a : Int32) (b : Nat) : Nat := Nat.gcd a.toInt.natAbs b
def frA (a : Int32) (b : Nat) (p : Int32) : Int64 := if p = 0 then (a / nI (gcA a b)).toInt64 else (nI b / nI (gcA a b)).toInt64
theorem gc_1 {a : Int32} {b : Nat} (h : 1 ≤ b) : 1 ≤ gcA a b ∧ gcA a b ≤ b := ⟨Nat.gcd_pos_of_pos_right _ (by omega), Nat.gcd_le_right _ (by omega)⟩
theorem gc_o {c k m : Nat} (h : k ≤ m) (ho : ¬ 2 ∣ c) : Nat.gcd (2 ^ k * c) (2 ^ m) = 2 ^ k := by
  have e : 2 ^ m = 2 ^ k * 2 ^ (m - k) := by rw [← Nat.pow_add, Nat.add_sub_of_le h]
  have h1 : c % 2 = 1 := by omega
  have h2 : Nat.gcd c 2 = 1 := by rw [Nat.gcd_comm, Nat.gcd_rec, h1]; rfl
  have h3 : Nat.gcd c (2 ^ (m - k)) = 1 := Nat.Coprime.pow_right (m - k) h2
  rw [e, Nat.gcd_mul_left, h3, Nat.mul_one]
def hv (a : Int32) : Nat → Int32
  | 0 => a
  | k + 1 => hv a k / 2
theorem hv_v {a : Int32} : ∀ {k : Nat} {c : Int}, a.toInt = ((2 ^ k : Nat) : Int) * c → (hv a k).toInt = c
  | 0, c, h => by
    rw [Nat.pow_zero] at h
    show a.toInt = c
    omega
  | k + 1, c, h => by
    have e : a.toInt = ((2 ^ k : Nat) : Int) * (2 * c) := by rw [h, Nat.pow_succ, Int.natCast_mul, Int.mul_assoc]; rfl
    have i := hv_v (k := k) e
    have e2 : (2 : Int32).toInt = 2 := rfl
    show (hv a k / 2).toInt = c
    rw [Int32.toInt_div_of_ne_right _ _ (by decide), i, e2]
    exact Int.mul_tdiv_cancel_left c (by decide)
theorem hv_q {a : Int32} {k : Nat} {c : Int} (hk : k ≤ 4) (h : a.toInt = ((2 ^ k : Nat) : Int) * c) : (a / nI (2 ^ k)).toInt = c := by
  have p := pow4 hk
  have q := Nat.two_pow_pos k
  rw [Int32.toInt_div_of_ne_right _ _ (ne_m1 (by omega)), nI_toInt (by omega), h]
  exact Int.mul_tdiv_cancel_left c (by omega)
theorem hv_e {a : Int32} {k : Nat} {c : Int} (hk : k ≤ 4) (h : a.toInt = ((2 ^ k : Nat) : Int) * c) : hv a k = a / nI (2 ^ k) := by
  rw [fa_eq, hv_v h, hv_q hk h]
theorem hv_b {k m : Nat} (hk : k ≤ m) (hm : m ≤ 4) : hv (nI (2 ^ m)) k = nI (2 ^ m) / nI (2 ^ k) := by
  rcases (show m = 0 ∨ m = 1 ∨ m = 2 ∨ m = 3 ∨ m = 4 by omega) with rfl | rfl | rfl | rfl | rfl <;>
  rcases (show k = 0 ∨ k = 1 ∨ k = 2 ∨ k = 3 ∨ k = 4 by omega) with rfl | rfl | rfl | rfl | rfl <;> first | decide | omega
theorem hv_le {k m : Nat} (hk : k ≤ m) (hm : m ≤ 4) : hv (nI (2 ^ m)) k ≤ 1 ↔ k = m := by
  rcases (show m = 0 ∨ m = 1 ∨ m = 2 ∨ m = 3 ∨ m = 4 by omega) with rfl | rfl | rfl | rfl | rfl <;>
  rcases (show k = 0 ∨ k = 1 ∨ k = 2 ∨ k = 3 ∨ k = 4 by omega) with rfl | rfl | rfl | rfl | rfl <;> first | decide | omega
def hvP (a : Int32) (m k : Nat) : Prop := k ≤ m ∧ ∃ c : Int, a.toInt = ((2 ^ k : Nat) : Int) * c
theorem hv_0 {a : Int32} {m : Nat} : hvP a m 0 := ⟨Nat.zero_le _, a.toInt, by rw [Nat.pow_zero]; omega⟩
theorem hv_r {a : Int32} {k : Nat} {c : Int} (ha : -1000 ≤ a.toInt ∧ a.toInt ≤ 1000) (h : a.toInt = ((2 ^ k : Nat) : Int) * c) : hv a k - hv a k / 2 * 2 = 0 ↔ 2 ∣ c.natAbs := by
  have e := hv_v h
  have h1 : a.toInt.natAbs = 2 ^ k * c.natAbs := by rw [h, Int.natAbs_mul, Int.natAbs_natCast]
  have h2 : c.natAbs ≤ 2 ^ k * c.natAbs := Nat.le_mul_of_pos_left _ (Nat.two_pow_pos k)
  have r := rem_0 (x := hv a k) (d := 2) (by omega) (by decide)
  rw [e] at r
  exact r
theorem hv_s {a : Int32} {m k : Nat} (ha : -1000 ≤ a.toInt ∧ a.toInt ≤ 1000) (hm : m ≤ 4) (hP : hvP a m k) (h1 : ¬ hv (nI (2 ^ m)) k ≤ 1) (h2 : hv a k - hv a k / 2 * 2 = 0) : hvP a m (k + 1) := by
  obtain ⟨hk, c, hc⟩ := hP
  have n := mt (hv_le hk hm).mpr h1
  have d := (hv_r ha hc).mp h2
  have d2 : (2 : Int) ∣ c := by omega
  obtain ⟨e, he⟩ := d2
  refine ⟨by omega, e, ?_⟩
  rw [hc, he, Nat.pow_succ, Int.natCast_mul, Int.mul_assoc]
  rfl
theorem hv_g {a : Int32} {m k : Nat} (ha : -1000 ≤ a.toInt ∧ a.toInt ≤ 1000) (hm : m ≤ 4) (hP : hvP a m k) (hx : k = 4 ∨ hv (nI (2 ^ m)) k ≤ 1 ∨ ¬ hv a k - hv a k / 2 * 2 = 0) : 2 ^ k = gcA a (2 ^ m) := by
  obtain ⟨hk, c, hc⟩ := hP
  have h1 : a.toInt.natAbs = 2 ^ k * c.natAbs := by rw [hc, Int.natAbs_mul, Int.natAbs_natCast]
  unfold gcA
  rw [h1]
  by_cases ho : 2 ∣ c.natAbs
  · have hkm : k = m := by
      rcases hx with z | z | z
      · omega
      · exact (hv_le hk hm).mp z
      · exact absurd ((hv_r ha hc).mpr ho) z
    rw [hkm]
    exact (Nat.gcd_eq_right (Nat.dvd_mul_right _ _)).symm
  · exact (gc_o hk ho).symm
theorem hv_ret {a : Int32} {m k : Nat} (ha : -1000 ≤ a.toInt ∧ a.toInt ≤ 1000) (hm : m ≤ 4) (hP : hvP a m k) (hx : k = 4 ∨ hv (nI (2 ^ m)) k ≤ 1 ∨ ¬ hv a k - hv a k / 2 * 2 = 0) (p : Int32) : (p = 0 → (hv a k).toInt64 = frA a (2 ^ m) p) ∧ (¬ p = 0 → (hv (nI (2 ^ m)) k).toInt64 = frA a (2 ^ m) p) := by
  have g := hv_g ha hm hP hx
  obtain ⟨hk, c, hc⟩ := hP
  unfold frA
  rw [← g]
  constructor
  · intro z
    rw [if_pos z, hv_e (by omega) hc]
  · intro z
    rw [if_neg z, hv_b hk hm]
set_option maxRecDepth 100000 in
set_option maxHeartbeats 4000000 in
theorem c_X9_partOfFraction {g : GC} {d : Nat} {M : MI} {L : ML} {a : Int32} {m : Nat} (ha : -1000 ≤ a.toInt ∧ a.toInt ≤ 1000) (hm : m ≤ 4) {p : Int32} : CfL g (d) yX9_partOfFraction cX9_partOfFraction 6 [.int a, .int (nI (2 ^ m)), .int p] M L (frA a (2 ^ m) p) (M) (L) := by
  refine cfL_of (own := RX9) (l := [some (.int a), some (.int (nI (2 ^ m))), some (.int p), none, none, none]) 3 rfl rfl rfl (Nat.le_of_ble_eq_true rfl) ?_
  refine tm_iload_0 1 rfl dX9_partOfFraction_0 ?_
  refine tm_istore_3 (by decide) rfl 2 rfl dX9_partOfFraction_1 ?_
  refine tm_iload_1 3 rfl dX9_partOfFraction_2 ?_
  refine tm_istore_4 (by decide) rfl 5 rfl dX9_partOfFraction_3 ?_
  refine tm_iconst (0) rfl 6 rfl dX9_partOfFraction_5 ?_
  refine tm_istore_5 (by decide) rfl 8 rfl dX9_partOfFraction_6 ?_
  refine tm_loopE (N := 4) (fun k => hvP a m k) (fun k => Tm g (d) RX9 cX9_partOfFraction 6 (some .long) (QL g (frA a (2 ^ m) p) (M) (L)) 8 [some (.int a), some (.int (nI (2 ^ m))), some (.int p), some (.int (hv a k)), some (.int (hv (nI (2 ^ m)) k)), some (.int (nI k))] [] (M) (L)) (hv_0) (fun k hk hP ih => ?_) (fun hPN => ?_)
  · refine tm_iload_5 10 rfl dX9_partOfFraction_8 ?_
    refine tm_iconst (4) rfl 11 rfl dX9_partOfFraction_10 ?_
    refine tm_icmp_ge_f 14 (nI_ge hk (by decide)) rfl rfl dX9_partOfFraction_11 ?_
    refine tm_iload_4 16 rfl dX9_partOfFraction_14 ?_
    refine tm_iconst (1) rfl 17 rfl dX9_partOfFraction_16 ?_
    refine tm_icmp_le 42 20 rfl rfl dX9_partOfFraction_17 (fun h17 => ?_) (fun h17 => ?_)
    · have hZ := hv_ret (k := k) ha hm hP (by first | exact Or.inr (Or.inl h17) | exact Or.inr (Or.inr h23)) p
      refine tm_iload_2 43 rfl dX9_partOfFraction_42 ?_
      refine tm_if_ne 51 46 rfl rfl dX9_partOfFraction_43 (fun h43 => ?_) (fun h43 => ?_)
      · refine tm_iload_4 53 rfl dX9_partOfFraction_51 ?_
        refine tm_i2l 54 rfl dX9_partOfFraction_53 ?_
        exact tm_lret (by first | exact hZ.1 h43 | exact hZ.2 h43) rfl rfl dX9_partOfFraction_54
      · refine tm_iload_3 47 rfl dX9_partOfFraction_46 ?_
        refine tm_i2l 48 rfl dX9_partOfFraction_47 ?_
        refine tm_goto 54 rfl dX9_partOfFraction_48 ?_
        exact tm_lret (by first | exact hZ.1 h43 | exact hZ.2 h43) rfl rfl dX9_partOfFraction_54
    · refine tm_iload_3 21 rfl dX9_partOfFraction_20 ?_
      refine tm_iconst (2) rfl 22 rfl dX9_partOfFraction_21 ?_
      refine tm_irem (by decide) 23 rfl dX9_partOfFraction_22 ?_
      refine tm_if_ne 42 26 rfl rfl dX9_partOfFraction_23 (fun h23 => ?_) (fun h23 => ?_)
      · have hZ := hv_ret (k := k) ha hm hP (by first | exact Or.inr (Or.inl h17) | exact Or.inr (Or.inr h23)) p
        refine tm_iload_2 43 rfl dX9_partOfFraction_42 ?_
        refine tm_if_ne 51 46 rfl rfl dX9_partOfFraction_43 (fun h43 => ?_) (fun h43 => ?_)
        · refine tm_iload_4 53 rfl dX9_partOfFraction_51 ?_
          refine tm_i2l 54 rfl dX9_partOfFraction_53 ?_
          exact tm_lret (by first | exact hZ.1 h43 | exact hZ.2 h43) rfl rfl dX9_partOfFraction_54
        · refine tm_iload_3 47 rfl dX9_partOfFraction_46 ?_
          refine tm_i2l 48 rfl dX9_partOfFraction_47 ?_
          refine tm_goto 54 rfl dX9_partOfFraction_48 ?_
          exact tm_lret (by first | exact hZ.1 h43 | exact hZ.2 h43) rfl rfl dX9_partOfFraction_54
      · refine tm_iload_3 27 rfl dX9_partOfFraction_26 ?_
        refine tm_iconst (2) rfl 28 rfl dX9_partOfFraction_27 ?_
        refine tm_idiv (by decide) 29 rfl dX9_partOfFraction_28 ?_
        refine tm_istore_3 (by decide) rfl 30 rfl dX9_partOfFraction_29 ?_
        refine tm_iload_4 32 rfl dX9_partOfFraction_30 ?_
        refine tm_iconst (2) rfl 33 rfl dX9_partOfFraction_32 ?_
        refine tm_idiv (by decide) 34 rfl dX9_partOfFraction_33 ?_
        refine tm_istore_4 (by decide) rfl 36 rfl dX9_partOfFraction_34 ?_
        refine tm_iinc_5 (nI (k + 1)) (iinc1 k) (by decide) rfl 39 rfl dX9_partOfFraction_36 ?_
        refine tm_goto 8 rfl dX9_partOfFraction_39 ?_
        exact ih (hv_s ha hm hP h17 h23)
  · refine tm_iload_5 10 rfl dX9_partOfFraction_8 ?_
    refine tm_iconst (4) rfl 11 rfl dX9_partOfFraction_10 ?_
    refine tm_icmp_ge_t 42 (nI_le (Nat.le_refl 4) (by decide)) rfl dX9_partOfFraction_11 ?_
    have hZ := hv_ret (k := 4) ha hm hPN (Or.inl rfl) p
    refine tm_iload_2 43 rfl dX9_partOfFraction_42 ?_
    refine tm_if_ne 51 46 rfl rfl dX9_partOfFraction_43 (fun h43 => ?_) (fun h43 => ?_)
    · refine tm_iload_4 53 rfl dX9_partOfFraction_51 ?_
      refine tm_i2l 54 rfl dX9_partOfFraction_53 ?_
      exact tm_lret (by first | exact hZ.1 h43 | exact hZ.2 h43) rfl rfl dX9_partOfFraction_54
    · refine tm_iload_3 47 rfl dX9_partOfFraction_46 ?_
      refine tm_i2l 48 rfl dX9_partOfFraction_47 ?_
      refine tm_goto 54 rfl dX9_partOfFraction_48 ?_
      exact tm_lret (by first | exact hZ.1 h43 | exact hZ.2 h43) rfl rfl dX9_partOfFraction_54

theorem eu_loop {G : Nat} (S : Nat → Nat → Prop) (hs : ∀ x y, x < 2 ^ 31 → y < 2 ^ 31 → Nat.gcd x y = G → (¬ y = 0 → S y (x % y)) → S x y) : ∀ y x, x < 2 ^ 31 → y < 2 ^ 31 → Nat.gcd x y = G → S x y := by
  intro y
  induction y using Nat.strongRecOn with
  | _ y ih =>
    intro x hx hy hg
    refine hs x y hx hy hg (fun h0 => ?_)
    have m := Nat.mod_lt x (show 0 < y by omega)
    refine ih (x % y) m y hy (by omega) ?_
    rw [Nat.gcd_comm, ← Nat.gcd_rec, Nat.gcd_comm]
    exact hg
theorem lab_1 {a : Int32} (h : ¬ 0 ≤ lg_cmp a.toInt64 0) : lN a.toInt.natAbs = -a.toInt64 := by
  have h1 := (lgc_lt _ _).mp (fa_of_nle h)
  rw [fa_lt64, Int32.toInt_toInt64] at h1
  have e : (0 : Int64).toInt = 0 := rfl
  have r := fb_rng a
  rw [fa_eq64, Int64.toInt_neg, Int32.toInt_toInt64, fb_bmodL (by omega) (by omega), pk_lT (by omega)]
  omega
theorem lab_2 {a : Int32} (h : 0 ≤ lg_cmp a.toInt64 0) : lN a.toInt.natAbs = a.toInt64 := by
  have h1 : ¬ a.toInt64 < 0 := fun z => (fa_of_lt ((lgc_lt _ _).mpr z)).2.1 h
  rw [fa_lt64, Int32.toInt_toInt64] at h1
  have e : (0 : Int64).toInt = 0 := rfl
  have r := fb_rng a
  rw [fa_eq64, Int32.toInt_toInt64, pk_lT (by omega)]
  omega
theorem lN_z {y : Nat} (hy : y < 2 ^ 31) : lg_cmp (lN y) 0 = 0 ↔ y = 0 := (lgc_eq _ _).trans (lN_eq hy (b := 0) (by decide))
theorem lN_nz {y : Nat} (hy : y < 2 ^ 31) (h : ¬ y = 0) : ¬ lN y = 0 := fun q => h ((lN_eq hy (b := 0) (by decide)).mp q)
theorem fr_1 {a p : Int32} {b G : Nat} (h : G = gcA a b) (hp : p = 0) (hG : G < 2 ^ 31) : a.toInt64 / lN G = frA a b p := by unfold frA; rw [if_pos hp, ← h, fr_q hG]
theorem fr_2 {a p : Int32} {b G : Nat} (h : G = gcA a b) (hp : ¬ p = 0) (hG : G < 2 ^ 31) (hb : b < 2 ^ 31) : lN b / lN G = frA a b p := by unfold frA; rw [if_neg hp, ← h, ← nI_l hb, fr_q hG]
set_option maxRecDepth 100000 in
set_option maxHeartbeats 4000000 in
theorem c_X10_lowest {g : GC} {d : Nat} {M : MI} {L : ML} {a : Int32} {b : Nat} (ha : -1000 ≤ a.toInt ∧ a.toInt ≤ 1000) (hb : 1 ≤ b) (hb2 : b ≤ 16) {p : Int32} : CfL g (d) yX10_lowest cX10_lowest 11 [.long a.toInt64, .long (lN b), .int p] M L (frA a b p) (M) (L) := by
  have hgg := gc_1 (a := a) hb
  refine cfL_of (own := RX10) (l := [some (.long a.toInt64), none, some (.long (lN b)), none, some (.int p), none, none, none, none, none, none]) 6 rfl rfl rfl (Nat.le_of_ble_eq_true rfl) ?_
  refine tm_lload_0 1 rfl dX10_lowest_0 ?_
  refine tm_lconst 0 rfl 2 rfl dX10_lowest_1 ?_
  refine tm_lcmp 3 rfl dX10_lowest_2 ?_
  refine tm_joinL1 12 (lN a.toInt.natAbs) ?_ (fun hJ12 => ?_)
  · refine tm_lstore_5 (by decide) rfl 14 rfl dX10_lowest_12 ?_
    refine tm_lload_2 15 rfl dX10_lowest_14 ?_
    refine tm_lstore_7 (by decide) rfl 17 rfl dX10_lowest_15 ?_
    refine eu_loop (G := gcA a b) (fun x y => Tm g (d) RX10 cX10_lowest 11 (some .long) (QL g (frA a b p) (M) (L)) 17 [some (.long a.toInt64), none, some (.long (lN b)), none, some (.int p), some (.long (lN x)), none, some (.long (lN y)), none, none, none] [] M L) (fun x y hx hy hg ih => ?_) _ _ (by omega) (by omega) rfl
    refine tm_lload_7 19 rfl dX10_lowest_17 ?_
    refine tm_lconst 0 rfl 20 rfl dX10_lowest_19 ?_
    refine tm_lcmp 21 rfl dX10_lowest_20 ?_
    refine tm_if_eq 42 24 rfl rfl dX10_lowest_21 (fun h21 => ?_) (fun h21 => ?_)
    · have hy1 : y = 0 := (lN_z hy).mp h21
      rw [hy1, Nat.gcd_zero_right] at hg
      refine tm_iload_4 44 rfl dX10_lowest_42 ?_
      refine tm_if_ne 51 47 rfl rfl dX10_lowest_44 (fun h44 => ?_) (fun h44 => ?_)
      · refine tm_lload_2 52 rfl dX10_lowest_51 ?_
        refine tm_lload_5 54 rfl dX10_lowest_52 ?_
        refine tm_ldiv (lN_nz (by omega) (by omega)) 55 rfl dX10_lowest_54 ?_
        exact tm_lret (by first | (have z : p = 0 := h44; exact fr_1 hg z (by omega)) | (have z : ¬ p = 0 := h44; exact fr_2 hg z (by omega) (by omega))) rfl rfl dX10_lowest_55
      · refine tm_lload_0 48 rfl dX10_lowest_47 ?_
        refine tm_goto 52 rfl dX10_lowest_48 ?_
        refine tm_lload_5 54 rfl dX10_lowest_52 ?_
        refine tm_ldiv (lN_nz (by omega) (by omega)) 55 rfl dX10_lowest_54 ?_
        exact tm_lret (by first | (have z : p = 0 := h44; exact fr_1 hg z (by omega)) | (have z : ¬ p = 0 := h44; exact fr_2 hg z (by omega) (by omega))) rfl rfl dX10_lowest_55
    · have hy0 : ¬ y = 0 := fun z => h21 ((lN_z hy).mpr z)
      refine tm_lload_5 26 rfl dX10_lowest_24 ?_
      refine tm_lload_7 28 rfl dX10_lowest_26 ?_
      refine tm_lrem (lN_nz hy hy0) 29 rfl dX10_lowest_28 ?_
      rw [pk_lRem (by omega) (by omega) (by omega)]
      refine tm_lstore_9 (by decide) rfl 31 rfl dX10_lowest_29 ?_
      refine tm_lload_7 33 rfl dX10_lowest_31 ?_
      refine tm_lstore_5 (by decide) rfl 35 rfl dX10_lowest_33 ?_
      refine tm_lload_9 37 rfl dX10_lowest_35 ?_
      refine tm_lstore_7 (by decide) rfl 39 rfl dX10_lowest_37 ?_
      refine tm_goto 17 rfl dX10_lowest_39 ?_
      exact tm_wkr (ih hy0) (And.intro rfl (And.intro rfl (And.intro rfl (And.intro rfl (And.intro rfl trivial)))))
  · refine tm_if_ge 11 6 rfl rfl dX10_lowest_3 (fun h3 => ?_) (fun h3 => ?_)
    · refine tm_lload_0 12 rfl dX10_lowest_11 ?_
      exact tm_topL (by first | exact lab_1 h3 | exact lab_2 h3) hJ12
    · refine tm_lload_0 7 rfl dX10_lowest_6 ?_
      refine tm_lneg 8 rfl dX10_lowest_7 ?_
      refine tm_goto 12 rfl dX10_lowest_8 ?_
      exact tm_topL (by first | exact lab_1 h3 | exact lab_2 h3) hJ12

def ansOdd (σ : AS) (v p : Int32) : Int64 := if inN v σ.1 = false then noL else if inN p 2 = false then noL else frA (nI (cnt (swP σ.2.1 (iN v)) (2 ^ σ.1))) (2 ^ σ.1 / 2) p
theorem od_1 {σ : AS} {v p : Int32} (h : inN v σ.1 = false) : ansOdd σ v p = noL := if_pos h
theorem od_2 {σ : AS} {v p : Int32} (h : inN v σ.1 = true) (h2 : inN p 2 = false) : ansOdd σ v p = noL := by unfold ansOdd; rw [if_neg (by rw [h]; decide), if_pos h2]
theorem od_3 {σ : AS} {k : Nat} {p : Int32} (hk : k < 2 ^ 31) (h : inN (nI k) σ.1 = true) (h2 : inN p 2 = true) : ansOdd σ (nI k) p = frA (nI (cnt (swP σ.2.1 k) (2 ^ σ.1))) (2 ^ σ.1 / 2) p := by unfold ansOdd; rw [if_neg (by rw [h]; decide), if_neg (by rw [h2]; decide), iN_nI hk]
theorem half1 {n : Nat} (h2 : 2 ≤ n) (h4 : n ≤ 4) : 2 ^ n / 2 = 2 ^ (n - 1) := by
  rcases (show n = 2 ∨ n = 3 ∨ n = 4 by omega) with rfl | rfl | rfl <;> decide
theorem half {n : Nat} (h2 : 2 ≤ n) (h4 : n ≤ 4) : nI (2 ^ n) / 2 = nI (2 ^ n / 2) ∧ 1 ≤ 2 ^ n / 2 ∧ 2 ^ n / 2 ≤ 16 := by
  rcases (show n = 2 ∨ n = 3 ∨ n = 4 by omega) with rfl | rfl | rfl <;> decide
theorem cnt_lt {p : Nat → Bool} {n : Nat} (h4 : n ≤ 4) : -1000 ≤ (nI (cnt p (2 ^ n))).toInt ∧ (nI (cnt p (2 ^ n))).toInt ≤ 1000 := by
  have := pow4 h4
  have h : cnt p (2 ^ n) ≤ 2 ^ n := fa_cnt_le p _
  rw [nI_toInt (by omega)]
  omega
set_option maxRecDepth 100000 in
set_option maxHeartbeats 4000000 in
theorem c_X9_odds {g : GC} {d : Nat} {M : MI} {L : ML} {σ : AS} (hC : hasC M σ) (hσ : okS σ) {x p : Int32} : CfL g (d + 4) yX9_odds cX9_odds 3 [rf g 0, .int x, .int p] M L (ansOdd σ x p) (M) (L) := by
  have hn := hC.1
  have h4 := hσ.2.1
  have h16 := pow4 h4
  have hp1 := Nat.two_pow_pos σ.1
  have hc := okp hσ
  obtain ⟨hf1, hf2, hf3⟩ := half hσ.1 h4
  refine cfL_of (own := RX9) (l := [some (rf g 0), some (.int x), some (.int p)]) 0 rfl rfl rfl (Nat.le_of_ble_eq_true rfl) ?_
  refine tm_aload_0 1 rfl dX9_odds_0 ?_
  refine tm_getr fl_X9_12 rfl rfl 4 rfl dX9_odds_1 ?_
  refine tm_iload_1 5 rfl dX9_odds_4 ?_
  refine tm_callV_I (ci := 3) (c_X4_hasVoter hC hσ) mv_X4_hasVoter ml_X9_98 rfl rfl rfl rfl rfl (Nat.le_of_ble_eq_true rfl) 8 rfl dX9_odds_5 ?_
  refine tm_if_eqB 20 11 rfl rfl dX9_odds_8 (fun h8 => ?_) (fun h8 => ?_)
  · refine tm_ldc2 kl_X9_270 23 rfl dX9_odds_20 ?_
    exact tm_lret (by first | exact (od_1 h8).symm | exact (od_2 h8 (cod_c3 h12)).symm | exact (od_2 h8 (cod_c2 (N := 2) h17 (by decide) (by decide))).symm) rfl rfl dX9_odds_23
  · refine tm_iload_2 12 rfl dX9_odds_11 ?_
    refine tm_if_lt 20 15 rfl rfl dX9_odds_12 (fun h12 => ?_) (fun h12 => ?_)
    · refine tm_ldc2 kl_X9_270 23 rfl dX9_odds_20 ?_
      exact tm_lret (by first | exact (od_1 h8).symm | exact (od_2 h8 (cod_c3 h12)).symm | exact (od_2 h8 (cod_c2 (N := 2) h17 (by decide) (by decide))).symm) rfl rfl dX9_odds_23
    · refine tm_iload_2 16 rfl dX9_odds_15 ?_
      refine tm_iconst (1) rfl 17 rfl dX9_odds_16 ?_
      refine tm_icmp_le 24 20 rfl rfl dX9_odds_17 (fun h17 => ?_) (fun h17 => ?_)
      · have hp2 : inN p 2 = true := cod_c1 (N := 2) h12 h17 (by decide) (by decide)
        obtain ⟨k, hk, rfl⟩ := inN_of h8
        refine tm_aload_0 25 rfl dX9_odds_24 ?_
        refine tm_getr fl_X9_12 rfl rfl 28 rfl dX9_odds_25 ?_
        refine tm_geti fl_X9_67 rfl rfl 31 rfl dX9_odds_28 ?_
        rw [hn]
        refine tm_aload_0 32 rfl dX9_odds_31 ?_
        refine tm_getr fl_X9_12 rfl rfl 35 rfl dX9_odds_32 ?_
        refine tm_geti fl_X9_82 rfl rfl 38 rfl dX9_odds_35 ?_
        rw [hC.2.1]
        refine tm_iload_1 39 rfl dX9_odds_38 ?_
        refine tm_callS_I (c_X0_swingsOf h4 hσ.2.2.1 hk) ms_X0_swingsOf ml_X9_240 rfl rfl (Nat.le_of_ble_eq_true rfl) 42 rfl dX9_odds_39 ?_
        refine tm_aload_0 43 rfl dX9_odds_42 ?_
        refine tm_getr fl_X9_12 rfl rfl 46 rfl dX9_odds_43 ?_
        refine tm_callV_I (ci := 3) (c_X4_lots hC hσ) mv_X4_lots ml_X9_237 rfl rfl rfl rfl rfl (Nat.le_of_ble_eq_true rfl) 49 rfl dX9_odds_46 ?_
        refine tm_iconst (2) rfl 50 rfl dX9_odds_49 ?_
        refine tm_idiv (by decide) 51 rfl dX9_odds_50 ?_
        rw [hf1, half1 hσ.1 h4]
        refine tm_iload_2 52 rfl dX9_odds_51 ?_
        refine tm_callS_L (c_X9_partOfFraction (m := σ.1 - 1) (cnt_lt h4) (by omega)) ms_X9_partOfFraction ml_X9_272 rfl rfl (Nat.le_of_ble_eq_true rfl) 55 rfl dX9_odds_52 ?_
        exact tm_lret (by rw [od_3 (by omega) h8 hp2, half1 hσ.1 h4]) rfl rfl dX9_odds_55
      · refine tm_ldc2 kl_X9_270 23 rfl dX9_odds_20 ?_
        exact tm_lret (by first | exact (od_1 h8).symm | exact (od_2 h8 (cod_c3 h12)).symm | exact (od_2 h8 (cod_c2 (N := 2) h17 (by decide) (by decide))).symm) rfl rfl dX9_odds_23

set_option maxRecDepth 100000 in
set_option maxHeartbeats 4000000 in
theorem c_X10_odds {g : GC} {d : Nat} {M : MI} {L : ML} {σ : AS} (hM : hasM M σ) (hσ : okS σ) {x p : Int32} : CfL g (d + 3) yX10_odds cX10_odds 3 [rf g 54, .int x, .int p] M L (ansOdd σ x p) (M) (L) := by
  have hn := hM.1
  have h4 := hσ.2.1
  have h16 := pow4 h4
  have hp1 := Nat.two_pow_pos σ.1
  have hc := okp hσ
  obtain ⟨hf1, hf2, hf3⟩ := half hσ.1 h4
  refine cfL_of (own := RX10) (l := [some (rf g 54), some (.int x), some (.int p)]) 0 rfl rfl rfl (Nat.le_of_ble_eq_true rfl) ?_
  refine tm_aload_0 1 rfl dX10_odds_0 ?_
  refine tm_iload_1 2 rfl dX10_odds_1 ?_
  refine tm_callV_I (ci := 9) (c_X10_isVoter hn h4 (by have := hσ.1; omega)) mv_X10_isVoter ml_X10_75 rfl rfl rfl rfl rfl (Nat.le_of_ble_eq_true rfl) 5 rfl dX10_odds_2 ?_
  refine tm_if_eqB 38 8 rfl rfl dX10_odds_5 (fun h5 => ?_) (fun h5 => ?_)
  · refine tm_ldc2 kl_X10_172 41 rfl dX10_odds_38 ?_
    exact tm_lret (by first | exact (od_1 h5).symm | exact (od_2 h5 h15).symm | exact (od_3 (by omega) h5 h15).symm) rfl rfl dX10_odds_41
  · obtain ⟨k, hk, rfl⟩ := inN_of h5
    refine tm_iload_2 9 rfl dX10_odds_8 ?_
    refine tm_i2l 10 rfl dX10_odds_9 ?_
    refine tm_lconst 0 rfl 11 rfl dX10_odds_10 ?_
    refine tm_lconst 1 rfl 12 rfl dX10_odds_11 ?_
    refine tm_callS_I (c_X10_in) ms_X10_in ml_X10_60 rfl rfl (Nat.le_of_ble_eq_true rfl) 15 rfl dX10_odds_12 ?_
    rw [btw_in (N := 2) (by decide)]
    refine tm_if_eqB 38 18 rfl rfl dX10_odds_15 (fun h15 => ?_) (fun h15 => ?_)
    · refine tm_ldc2 kl_X10_172 41 rfl dX10_odds_38 ?_
      exact tm_lret (by first | exact (od_1 h5).symm | exact (od_2 h5 h15).symm | exact (od_3 (by omega) h5 h15).symm) rfl rfl dX10_odds_41
    · refine tm_aload_0 19 rfl dX10_odds_18 ?_
      refine tm_iload_1 20 rfl dX10_odds_19 ?_
      refine tm_callV_I (ci := 9) (c_X10_swings_v hM hσ hk) mv_X10_swings ml_X10_165 rfl rfl rfl rfl rfl (Nat.le_of_ble_eq_true rfl) 23 rfl dX10_odds_20 ?_
      refine tm_i2l 24 rfl dX10_odds_23 ?_
      refine tm_aload_0 25 rfl dX10_odds_24 ?_
      refine tm_callV_I (ci := 9) (c_X10_lots hn h4) mv_X10_lots ml_X10_56 rfl rfl rfl rfl rfl (Nat.le_of_ble_eq_true rfl) 28 rfl dX10_odds_25 ?_
      refine tm_iconst (2) rfl 29 rfl dX10_odds_28 ?_
      refine tm_idiv (by decide) 30 rfl dX10_odds_29 ?_
      rw [hf1]
      refine tm_i2l 31 rfl dX10_odds_30 ?_
      rw [nI_l (n := 2 ^ σ.1 / 2) (by omega)]
      refine tm_iload_2 32 rfl dX10_odds_31 ?_
      refine tm_callS_L (c_X10_lowest (cnt_lt h4) hf2 hf3) ms_X10_lowest ml_X10_168 rfl rfl (Nat.le_of_ble_eq_true rfl) 35 rfl dX10_odds_32 ?_
      refine tm_goto 41 rfl dX10_odds_35 ?_
      exact tm_lret (by first | exact (od_1 h5).symm | exact (od_2 h5 h15).symm | exact (od_3 (by omega) h5 h15).symm) rfl rfl dX10_odds_41

def smW (σ : AS) : Nat → Int32
  | 0 => 0
  | k + 1 => smW σ k + wth σ.2.2.2.1 k σ.1
theorem smW_b {σ : AS} (h : okS σ) : ∀ k : Nat, k ≤ 16 → -(36 * (k : Int)) ≤ (smW σ k).toInt ∧ (smW σ k).toInt ≤ 36 * (k : Int)
  | 0, _ => ⟨show (0 : Int) ≤ (0 : Int32).toInt by decide, show (0 : Int32).toInt ≤ 0 by decide⟩
  | k + 1, hk => by
    have a := smW_b h k (by omega)
    have b := wth_b h k
    unfold smW
    rw [fb_addI (by omega) (by omega)]
    omega
theorem smW_l {σ : AS} (h : okS σ) {k : Nat} (hk : k < 16) : (smW σ k).toInt64 + (wth σ.2.2.2.1 k σ.1).toInt64 = (smW σ (k + 1)).toInt64 := by
  have a := smW_b h k (by omega)
  have b := wth_b h k
  have e : (smW σ (k + 1)).toInt = (smW σ k).toInt + (wth σ.2.2.2.1 k σ.1).toInt := by
    show (smW σ k + wth σ.2.2.2.1 k σ.1).toInt = _
    rw [fb_addI (by omega) (by omega)]
  rw [fa_eq64, fb_addL (by rw [Int32.toInt_toInt64, Int32.toInt_toInt64]; omega) (by rw [Int32.toInt_toInt64, Int32.toInt_toInt64]; omega), Int32.toInt_toInt64, Int32.toInt_toInt64, Int32.toInt_toInt64, e]
def ansMean (σ : AS) (p : Int32) : Int64 := if inN p 2 = false then noL else frA (smW σ (2 ^ σ.1)) (2 ^ σ.1) p
theorem mn_1 {σ : AS} {p : Int32} (h : inN p 2 = false) : ansMean σ p = noL := if_pos h
theorem mn_2 {σ : AS} {p : Int32} (h : inN p 2 = true) : ansMean σ p = frA (smW σ (2 ^ σ.1)) (2 ^ σ.1) p := if_neg (by rw [h]; decide)
set_option maxRecDepth 100000 in
set_option maxHeartbeats 4000000 in
theorem c_X9_mean {g : GC} {d : Nat} {M : MI} {L : ML} {σ : AS} (hC : hasC M σ) (hσ : okS σ) {p : Int32} : CfL g (d + 2) yX9_mean cX9_mean 4 [rf g 0, .int p] M L (ansMean σ p) (M) (L) := by
  have hn := hC.1
  have h4 := hσ.2.1
  have h16 := pow4 h4
  have hp1 := Nat.two_pow_pos σ.1
  have hc := okp hσ
  have hb := smW_b hσ (2 ^ σ.1) h16
  refine cfL_of (own := RX9) (l := [some (rf g 0), some (.int p), none, none]) 2 rfl rfl rfl (Nat.le_of_ble_eq_true rfl) ?_
  refine tm_iload_1 1 rfl dX9_mean_0 ?_
  refine tm_if_lt 9 4 rfl rfl dX9_mean_1 (fun h1 => ?_) (fun h1 => ?_)
  · refine tm_ldc2 kl_X9_270 12 rfl dX9_mean_9 ?_
    exact tm_lret (by first | exact (mn_1 (cod_c3 h1)).symm | exact (mn_1 (cod_c2 (N := 2) h6 (by decide) (by decide))).symm) rfl rfl dX9_mean_12
  · refine tm_iload_1 5 rfl dX9_mean_4 ?_
    refine tm_iconst (1) rfl 6 rfl dX9_mean_5 ?_
    refine tm_icmp_le 13 9 rfl rfl dX9_mean_6 (fun h6 => ?_) (fun h6 => ?_)
    · have hp2 : inN p 2 = true := cod_c1 (N := 2) h1 h6 (by decide) (by decide)
      refine tm_iconst (0) rfl 14 rfl dX9_mean_13 ?_
      refine tm_istore_2 (by decide) rfl 15 rfl dX9_mean_14 ?_
      refine tm_iconst (0) rfl 16 rfl dX9_mean_15 ?_
      refine tm_istore_3 (by decide) rfl 17 rfl dX9_mean_16 ?_
      refine tm_loop (N := 2 ^ σ.1) (fun k => Tm g (d + 2) RX9 cX9_mean 4 (some .long) (QL g (ansMean σ p) (M) (L)) 17 [some (rf g 0), some (.int p), some (.int (smW σ k)), some (.int (nI k))] [] (M) (L)) (fun k hk ih => ?_) ?_
      · refine tm_iload_3 18 rfl dX9_mean_17 ?_
        refine tm_aload_0 19 rfl dX9_mean_18 ?_
        refine tm_getr fl_X9_12 rfl rfl 22 rfl dX9_mean_19 ?_
        refine tm_callV_I (ci := 3) (c_X4_lots hC hσ) mv_X4_lots ml_X9_237 rfl rfl rfl rfl rfl (Nat.le_of_ble_eq_true rfl) 25 rfl dX9_mean_22 ?_
        refine tm_icmp_ge_f 28 (nI_ge hk (by omega)) rfl rfl dX9_mean_25 ?_
        refine tm_iload_2 29 rfl dX9_mean_28 ?_
        refine tm_aload_0 30 rfl dX9_mean_29 ?_
        refine tm_getr fl_X9_12 rfl rfl 33 rfl dX9_mean_30 ?_
        refine tm_iload_3 34 rfl dX9_mean_33 ?_
        refine tm_callV_I (ci := 3) (c_X4_worthOf hC hσ hk) mv_X4_worthOf ml_X9_191 rfl rfl rfl rfl rfl (Nat.le_of_ble_eq_true rfl) 37 rfl dX9_mean_34 ?_
        refine tm_iadd 38 rfl dX9_mean_37 ?_
        refine tm_istore_2 (by decide) rfl 39 rfl dX9_mean_38 ?_
        refine tm_iinc_3 (nI (k + 1)) (iinc1 k) (by decide) rfl 42 rfl dX9_mean_39 ?_
        refine tm_goto 17 rfl dX9_mean_42 ?_
        exact ih
      · refine tm_iload_3 18 rfl dX9_mean_17 ?_
        refine tm_aload_0 19 rfl dX9_mean_18 ?_
        refine tm_getr fl_X9_12 rfl rfl 22 rfl dX9_mean_19 ?_
        refine tm_callV_I (ci := 3) (c_X4_lots hC hσ) mv_X4_lots ml_X9_237 rfl rfl rfl rfl rfl (Nat.le_of_ble_eq_true rfl) 25 rfl dX9_mean_22 ?_
        refine tm_icmp_ge_t 45 (nI_le (Nat.le_refl _) (by omega)) rfl dX9_mean_25 ?_
        refine tm_iload_2 46 rfl dX9_mean_45 ?_
        refine tm_aload_0 47 rfl dX9_mean_46 ?_
        refine tm_getr fl_X9_12 rfl rfl 50 rfl dX9_mean_47 ?_
        refine tm_callV_I (ci := 3) (c_X4_lots hC hσ) mv_X4_lots ml_X9_237 rfl rfl rfl rfl rfl (Nat.le_of_ble_eq_true rfl) 53 rfl dX9_mean_50 ?_
        refine tm_iload_1 54 rfl dX9_mean_53 ?_
        refine tm_callS_L (c_X9_partOfFraction (m := σ.1) (by omega) h4) ms_X9_partOfFraction ml_X9_272 rfl rfl (Nat.le_of_ble_eq_true rfl) 57 rfl dX9_mean_54 ?_
        exact tm_lret (mn_2 hp2).symm rfl rfl dX9_mean_57
    · refine tm_ldc2 kl_X9_270 12 rfl dX9_mean_9 ?_
      exact tm_lret (by first | exact (mn_1 (cod_c3 h1)).symm | exact (mn_1 (cod_c2 (N := 2) h6 (by decide) (by decide))).symm) rfl rfl dX9_mean_12

set_option maxRecDepth 100000 in
set_option maxHeartbeats 4000000 in
theorem c_X10_mean {g : GC} {d : Nat} {M : MI} {L : ML} {σ : AS} (hM : hasM M σ) (hσ : okS σ) {p : Int32} : CfL g (d + 2) yX10_mean cX10_mean 5 [rf g 54, .int p] M L (ansMean σ p) (M) (L) := by
  have hn := hM.1
  have h4 := hσ.2.1
  have h16 := pow4 h4
  have hp1 := Nat.two_pow_pos σ.1
  have hc := okp hσ
  have hb := smW_b hσ (2 ^ σ.1) h16
  have hwc : ∀ k, wth (fun v => M 55 (4 + v)) k σ.1 = wth σ.2.2.2.1 k σ.1 := fun k => wth_congr (fun v hv => hM.2.2.2.2 v (by omega))
  refine cfL_of (own := RX10) (l := [some (rf g 54), some (.int p), none, none, none]) 3 rfl rfl rfl (Nat.le_of_ble_eq_true rfl) ?_
  refine tm_iload_1 1 rfl dX10_mean_0 ?_
  refine tm_i2l 2 rfl dX10_mean_1 ?_
  refine tm_lconst 0 rfl 3 rfl dX10_mean_2 ?_
  refine tm_lconst 1 rfl 4 rfl dX10_mean_3 ?_
  refine tm_callS_I (c_X10_in) ms_X10_in ml_X10_60 rfl rfl (Nat.le_of_ble_eq_true rfl) 7 rfl dX10_mean_4 ?_
  rw [btw_in (N := 2) (by decide)]
  refine tm_if_neB 14 10 rfl rfl dX10_mean_7 (fun h7 => ?_) (fun h7 => ?_)
  · refine tm_lconst 0 rfl 15 rfl dX10_mean_14 ?_
    refine tm_lstore_2 (by decide) rfl 16 rfl dX10_mean_15 ?_
    refine tm_iconst (0) rfl 17 rfl dX10_mean_16 ?_
    refine tm_istore_4 (by decide) rfl 19 rfl dX10_mean_17 ?_
    refine tm_loop (N := 2 ^ σ.1) (fun k => Tm g (d + 2) RX10 cX10_mean 5 (some .long) (QL g (ansMean σ p) (M) (L)) 19 [some (rf g 54), some (.int p), some (.long (smW σ k).toInt64), none, some (.int (nI k))] [] (M) (L)) (fun k hk ih => ?_) ?_
    · refine tm_iload_4 21 rfl dX10_mean_19 ?_
      refine tm_aload_0 22 rfl dX10_mean_21 ?_
      refine tm_callV_I (ci := 9) (c_X10_lots hn h4) mv_X10_lots ml_X10_56 rfl rfl rfl rfl rfl (Nat.le_of_ble_eq_true rfl) 25 rfl dX10_mean_22 ?_
      refine tm_icmp_ge_f 28 (nI_ge hk (by omega)) rfl rfl dX10_mean_25 ?_
      refine tm_lload_2 29 rfl dX10_mean_28 ?_
      refine tm_aload_0 30 rfl dX10_mean_29 ?_
      refine tm_iload_4 32 rfl dX10_mean_30 ?_
      refine tm_callV_I (ci := 9) (c_X10_worth hn h4 (k := k) (by omega)) mv_X10_worth ml_X10_86 rfl rfl rfl rfl rfl (Nat.le_of_ble_eq_true rfl) 35 rfl dX10_mean_32 ?_
      rw [hwc]
      refine tm_i2l 36 rfl dX10_mean_35 ?_
      refine tm_ladd 37 rfl dX10_mean_36 ?_
      rw [smW_l hσ (by omega)]
      refine tm_lstore_2 (by decide) rfl 38 rfl dX10_mean_37 ?_
      refine tm_iinc_4 (nI (k + 1)) (iinc1 k) (by decide) rfl 41 rfl dX10_mean_38 ?_
      refine tm_goto 19 rfl dX10_mean_41 ?_
      exact ih
    · refine tm_iload_4 21 rfl dX10_mean_19 ?_
      refine tm_aload_0 22 rfl dX10_mean_21 ?_
      refine tm_callV_I (ci := 9) (c_X10_lots hn h4) mv_X10_lots ml_X10_56 rfl rfl rfl rfl rfl (Nat.le_of_ble_eq_true rfl) 25 rfl dX10_mean_22 ?_
      refine tm_icmp_ge_t 44 (nI_le (Nat.le_refl _) (by omega)) rfl dX10_mean_25 ?_
      refine tm_lload_2 45 rfl dX10_mean_44 ?_
      refine tm_aload_0 46 rfl dX10_mean_45 ?_
      refine tm_callV_I (ci := 9) (c_X10_lots hn h4) mv_X10_lots ml_X10_56 rfl rfl rfl rfl rfl (Nat.le_of_ble_eq_true rfl) 49 rfl dX10_mean_46 ?_
      refine tm_i2l 50 rfl dX10_mean_49 ?_
      rw [nI_l (n := 2 ^ σ.1) (by omega)]
      refine tm_iload_1 51 rfl dX10_mean_50 ?_
      refine tm_callS_L (c_X10_lowest (by omega) hp1 h16) ms_X10_lowest ml_X10_168 rfl rfl (Nat.le_of_ble_eq_true rfl) 54 rfl dX10_mean_51 ?_
      exact tm_lret (mn_2 h7).symm rfl rfl dX10_mean_54
  · refine tm_ldc2 kl_X10_172 13 rfl dX10_mean_10 ?_
    exact tm_lret (mn_1 h7).symm rfl rfl dX10_mean_13

