/-! odds, mean -/
theorem ne_m1 {d : Nat} (h : d < 2 ^ 31) : nI d ≠ -1 := fun q => by
  have := congrArg Int32.toInt q
  rw [nI_toInt h] at this
  have e : (-1 : Int32).toInt = -1 := rfl
  omega
theorem ne_m1L {d : Nat} (h : d < 2 ^ 31) : lN d ≠ -1 := fun q => by
  have := congrArg Int64.toInt q
  rw [lN_toInt h] at this
  have e : (-1 : Int64).toInt = -1 := rfl
  omega
theorem tdiv_b {x : Int} {d : Nat} (h : -1000 ≤ x ∧ x ≤ 1000) : -1000 ≤ x.tdiv d ∧ x.tdiv d ≤ 1000 ∧ -1000 ≤ x.tdiv d * d ∧ x.tdiv d * d ≤ 1000 := by
  have e1 := Int.mul_tdiv_add_tmod x d
  have h1 : (x.tdiv d).natAbs ≤ x.natAbs := by rw [Int.natAbs_tdiv]; exact Nat.div_le_self _ _
  have h2 : (x.tdiv d * d).natAbs ≤ x.natAbs := by
    rw [Int.natAbs_mul, Int.natAbs_tdiv, Int.natAbs_natCast]
    exact Nat.div_mul_le_self _ _
  omega
theorem rem_0 {x : Int32} {d : Nat} (h : -1000 ≤ x.toInt ∧ x.toInt ≤ 1000) (hd : d < 2 ^ 31) : x - x / nI d * nI d = 0 ↔ d ∣ x.toInt.natAbs := by
  have b := tdiv_b (d := d) h
  have e1 : (x / nI d).toInt = x.toInt.tdiv d := by rw [Int32.toInt_div_of_ne_right _ _ (ne_m1 hd), nI_toInt hd]
  have e2 : (x / nI d * nI d).toInt = x.toInt.tdiv d * d := by rw [fb_mulI (by rw [e1, nI_toInt hd]; omega) (by rw [e1, nI_toInt hd]; omega), e1, nI_toInt hd]
  have e3 : (x - x / nI d * nI d).toInt = x.toInt - x.toInt.tdiv d * d := by rw [fb_subI (by rw [e2]; omega) (by rw [e2]; omega), e2]
  have e0 : (0 : Int32).toInt = 0 := rfl
  rw [fa_eq, e3, e0]
  constructor
  · intro z
    have : (d : Int) ∣ x.toInt := ⟨x.toInt.tdiv d, by rw [Int.mul_comm]; omega⟩
    have z2 := Int.natAbs_dvd_natAbs.mpr this
    rwa [Int.natAbs_natCast] at z2
  · intro z
    have : (d : Int) ∣ x.toInt := Int.natAbs_dvd_natAbs.mp (by rwa [Int.natAbs_natCast])
    have z3 := Int.tdiv_mul_cancel this
    omega
theorem fr_q {x : Int32} {G : Nat} (h : G < 2 ^ 31) : x.toInt64 / lN G = (x / nI G).toInt64 := by
  rw [fa_eq64, Int64.toInt_div_of_ne_right _ _ (ne_m1L h), Int32.toInt_toInt64, Int32.toInt_toInt64, Int32.toInt_div_of_ne_right _ _ (ne_m1 h), lN_toInt h, nI_toInt h]
def gcA (a : Int32) (b : Nat) : Nat := Nat.gcd a.toInt.natAbs b
def frA (a : Int32) (b : Nat) (p : Int32) : Int64 := if p = 0 then (a / nI (gcA a b)).toInt64 else (nI b / nI (gcA a b)).toInt64
theorem gc_1 {a : Int32} {b : Nat} (h : 1 ≤ b) : 1 ≤ gcA a b ∧ gcA a b ≤ b := ⟨Nat.gcd_pos_of_pos_right _ (by omega), Nat.gcd_le_right _ (by omega)⟩
theorem gc_2 {a : Int32} {b e : Nat} (h : 1 ≤ b) (h1 : e ∣ b) (h2 : e ∣ a.toInt.natAbs) (hP : ∀ u, e < u → u ≤ b → ¬ (u ∣ b ∧ u ∣ a.toInt.natAbs)) : e = gcA a b := by
  have g := gc_1 (a := a) h
  have d : e ∣ gcA a b := Nat.dvd_gcd h2 h1
  have le := Nat.le_of_dvd (by omega) d
  by_cases c : e = gcA a b
  · exact c
  · exact absurd ⟨Nat.gcd_dvd_right _ _, Nat.gcd_dvd_left _ _⟩ (hP (gcA a b) (by omega) g.2)
theorem gc_3 {a : Int32} {b : Nat} (h : 1 ≤ b) (hP : ∀ u, 1 < u → u ≤ b → ¬ (u ∣ b ∧ u ∣ a.toInt.natAbs)) : 1 = gcA a b := gc_2 h (Nat.one_dvd _) (Nat.one_dvd _) hP
theorem dec1 {a : Nat} (h : 1 ≤ a) (h2 : a < 2 ^ 31) : nI a + Int32.ofInt (-1) = nI (a - 1) := by
  have e : (Int32.ofInt (-1)).toInt = -1 := rfl
  rw [fa_eq, fb_addI (by rw [nI_toInt h2, e]; omega) (by rw [nI_toInt h2, e]; omega), nI_toInt h2, nI_toInt (by omega), e]
  omega
theorem gc_P {a : Int32} {b k : Nat} (hk : k < b - 1) (hP : ∀ u, b - k < u → u ≤ b → ¬ (u ∣ b ∧ u ∣ a.toInt.natAbs)) (h : ¬ (b - k ∣ b ∧ b - k ∣ a.toInt.natAbs)) : ∀ u, b - (k + 1) < u → u ≤ b → ¬ (u ∣ b ∧ u ∣ a.toInt.natAbs) := fun u hu hb => by
  by_cases c : u = b - k
  · rw [c]; exact h
  · exact hP u (by omega) hb
theorem nI_lt1 {a : Nat} (h : 1 < a) (h2 : a < 2 ^ 31) : ¬ nI a ≤ 1 := fun q => by
  rw [fa_le, nI_toInt h2] at q
  have e : (1 : Int32).toInt = 1 := rfl
  omega
set_option maxRecDepth 100000 in
set_option maxHeartbeats 4000000 in
theorem c_X9_greatestCommonDivisor {g : GC} {d : Nat} {M : MI} {L : ML} {a : Int32} {b : Nat} (ha : -1000 ≤ a.toInt ∧ a.toInt ≤ 1000) (hb : 1 ≤ b) (hb2 : b ≤ 16) : CfI g (d) yX9_greatestCommonDivisor cX9_greatestCommonDivisor 3 .int [.int a, .int (nI b)] M L (nI (gcA a b)) (M) (L) := by
  have hbt : (nI b).toInt = b := nI_toInt (by omega)
  have hbn : (nI b).toInt.natAbs = b := by rw [hbt]; rfl
  refine cfI_of (own := RX9) (l := [some (.int a), some (.int (nI b)), none]) 1 rfl rfl rfl (Nat.le_of_ble_eq_true rfl) ?_
  refine tm_iload_1 1 rfl dX9_greatestCommonDivisor_0 ?_
  refine tm_istore_2 (by decide) rfl 2 rfl dX9_greatestCommonDivisor_1 ?_
  refine tm_loopE (N := b - 1) (fun k => ∀ u, b - k < u → u ≤ b → ¬ (u ∣ b ∧ u ∣ a.toInt.natAbs)) (fun k => Tm g (d) RX9 cX9_greatestCommonDivisor 3 (some .int) (QI g (nI (gcA a b)) (M) (L)) 2 [some (.int a), some (.int (nI b)), some (.int (nI (b - k)))] [] (M) (L)) (fun u hu hu2 => absurd hu (by omega)) (fun k hk hP ih => ?_) (fun hPN => ?_)
  · refine tm_iload_2 3 rfl dX9_greatestCommonDivisor_2 ?_
    refine tm_iconst (1) rfl 4 rfl dX9_greatestCommonDivisor_3 ?_
    refine tm_icmp_le_f 7 (nI_lt1 (by omega) (by omega)) rfl rfl dX9_greatestCommonDivisor_4 ?_
    refine tm_iload_1 8 rfl dX9_greatestCommonDivisor_7 ?_
    refine tm_iload_2 9 rfl dX9_greatestCommonDivisor_8 ?_
    refine tm_irem (nI_ne0 (by omega) (by omega)) 10 rfl dX9_greatestCommonDivisor_9 ?_
    have hr1 := rem_0 (x := nI b) (d := b - k) (by omega) (by omega)
    rw [hbn] at hr1
    refine tm_if_ne 21 13 rfl rfl dX9_greatestCommonDivisor_10 (fun h10 => ?_) (fun h10 => ?_)
    · refine tm_iinc_2 (nI (b - (k + 1))) (by rw [dec1 (by omega) (by omega)]; rfl) (by decide) rfl 24 rfl dX9_greatestCommonDivisor_21 ?_
      refine tm_goto 2 rfl dX9_greatestCommonDivisor_24 ?_
      first | exact ih (gc_P hk hP (fun z => h10 (hr1.mpr z.1))) | exact ih (gc_P hk hP (fun z => h16 (hr2.mpr z.2)))
    · refine tm_iload_0 14 rfl dX9_greatestCommonDivisor_13 ?_
      refine tm_iload_2 15 rfl dX9_greatestCommonDivisor_14 ?_
      refine tm_irem (nI_ne0 (by omega) (by omega)) 16 rfl dX9_greatestCommonDivisor_15 ?_
      have hr2 := rem_0 (x := a) (d := b - k) ha (by omega)
      refine tm_if_ne 21 19 rfl rfl dX9_greatestCommonDivisor_16 (fun h16 => ?_) (fun h16 => ?_)
      · refine tm_iinc_2 (nI (b - (k + 1))) (by rw [dec1 (by omega) (by omega)]; rfl) (by decide) rfl 24 rfl dX9_greatestCommonDivisor_21 ?_
        refine tm_goto 2 rfl dX9_greatestCommonDivisor_24 ?_
        first | exact ih (gc_P hk hP (fun z => h10 (hr1.mpr z.1))) | exact ih (gc_P hk hP (fun z => h16 (hr2.mpr z.2)))
      · refine tm_iload_2 20 rfl dX9_greatestCommonDivisor_19 ?_
        exact tm_iret (by rw [gc_2 (a := a) hb (hr1.mp h10) (hr2.mp h16) hP]) rfl rfl dX9_greatestCommonDivisor_20
  · refine tm_iload_2 3 rfl dX9_greatestCommonDivisor_2 ?_
    refine tm_iconst (1) rfl 4 rfl dX9_greatestCommonDivisor_3 ?_
    refine tm_icmp_le_t 27 (nI_le (a := b - (b - 1)) (b := 1) (by omega) (by omega)) rfl dX9_greatestCommonDivisor_4 ?_
    refine tm_iconst (1) rfl 28 rfl dX9_greatestCommonDivisor_27 ?_
    exact tm_iret (by rw [← gc_3 (a := a) hb (fun u hu => hPN u (by omega))]; rfl) rfl rfl dX9_greatestCommonDivisor_28

set_option maxRecDepth 100000 in
set_option maxHeartbeats 4000000 in
theorem c_X9_partOfFraction {g : GC} {d : Nat} {M : MI} {L : ML} {a : Int32} {b : Nat} (ha : -1000 ≤ a.toInt ∧ a.toInt ≤ 1000) (hb : 1 ≤ b) (hb2 : b ≤ 16) {p : Int32} : CfL g (d + 1) yX9_partOfFraction cX9_partOfFraction 4 [.int a, .int (nI b), .int p] M L (frA a b p) (M) (L) := by
  have hg := gc_1 (a := a) hb
  refine cfL_of (own := RX9) (l := [some (.int a), some (.int (nI b)), some (.int p), none]) 1 rfl rfl rfl (Nat.le_of_ble_eq_true rfl) ?_
  refine tm_iload_0 1 rfl dX9_partOfFraction_0 ?_
  refine tm_iload_1 2 rfl dX9_partOfFraction_1 ?_
  refine tm_callS_I (c_X9_greatestCommonDivisor ha hb hb2) ms_X9_greatestCommonDivisor ml_X9_276 rfl rfl (Nat.le_of_ble_eq_true rfl) 5 rfl dX9_partOfFraction_2 ?_
  refine tm_istore_3 (by decide) rfl 6 rfl dX9_partOfFraction_5 ?_
  refine tm_iload_2 7 rfl dX9_partOfFraction_6 ?_
  refine tm_if_ne 17 10 rfl rfl dX9_partOfFraction_7 (fun h7 => ?_) (fun h7 => ?_)
  · refine tm_iload_1 18 rfl dX9_partOfFraction_17 ?_
    refine tm_iload_3 19 rfl dX9_partOfFraction_18 ?_
    refine tm_idiv (nI_ne0 (by omega) (by omega)) 20 rfl dX9_partOfFraction_19 ?_
    refine tm_i2l 21 rfl dX9_partOfFraction_20 ?_
    exact tm_lret (by first | exact (if_pos h7).symm | exact (if_neg h7).symm) rfl rfl dX9_partOfFraction_21
  · refine tm_iload_0 11 rfl dX9_partOfFraction_10 ?_
    refine tm_iload_3 12 rfl dX9_partOfFraction_11 ?_
    refine tm_idiv (nI_ne0 (by omega) (by omega)) 13 rfl dX9_partOfFraction_12 ?_
    refine tm_i2l 14 rfl dX9_partOfFraction_13 ?_
    refine tm_goto 21 rfl dX9_partOfFraction_14 ?_
    exact tm_lret (by first | exact (if_pos h7).symm | exact (if_neg h7).symm) rfl rfl dX9_partOfFraction_21

theorem eu_loop {G : Nat} (S : Nat → Nat → Prop) (hs : ∀ x y, x < 2 ^ 31 → y < 2 ^ 31 → Nat.gcd x y = G → (¬ y = 0 → S y (x % y)) → S x y) : ∀ y x, x < 2 ^ 31 → y < 2 ^ 31 → Nat.gcd x y = G → S x y := by
  intro y
  induction y using Nat.strongRecOn with
  | _ y ih =>
    intro x hx hy hg
    refine hs x y hx hy hg (fun h0 => ?_)
    have m := Nat.mod_lt x (show 0 < y by omega)
    refine ih (x % y) m y hy (by omega) ?_
    rw [Nat.gcd_comm, ← Nat.gcd_rec, Nat.gcd_comm]
    exact hg
theorem lab_1 {a : Int32} (h : ¬ 0 ≤ lg_cmp a.toInt64 0) : lN a.toInt.natAbs = -a.toInt64 := by
  have h1 := (lgc_lt _ _).mp (fa_of_nle h)
  rw [fa_lt64, Int32.toInt_toInt64] at h1
  have e : (0 : Int64).toInt = 0 := rfl
  have r := fb_rng a
  rw [fa_eq64, Int64.toInt_neg, Int32.toInt_toInt64, fb_bmodL (by omega) (by omega), pk_lT (by omega)]
  omega
theorem lab_2 {a : Int32} (h : 0 ≤ lg_cmp a.toInt64 0) : lN a.toInt.natAbs = a.toInt64 := by
  have h1 : ¬ a.toInt64 < 0 := fun z => (fa_of_lt ((lgc_lt _ _).mpr z)).2.1 h
  rw [fa_lt64, Int32.toInt_toInt64] at h1
  have e : (0 : Int64).toInt = 0 := rfl
  have r := fb_rng a
  rw [fa_eq64, Int32.toInt_toInt64, pk_lT (by omega)]
  omega
theorem lN_z {y : Nat} (hy : y < 2 ^ 31) : lg_cmp (lN y) 0 = 0 ↔ y = 0 := (lgc_eq _ _).trans (lN_eq hy (b := 0) (by decide))
theorem lN_nz {y : Nat} (hy : y < 2 ^ 31) (h : ¬ y = 0) : ¬ lN y = 0 := fun q => h ((lN_eq hy (b := 0) (by decide)).mp q)
theorem fr_1 {a p : Int32} {b G : Nat} (h : G = gcA a b) (hp : p = 0) (hG : G < 2 ^ 31) : a.toInt64 / lN G = frA a b p := by unfold frA; rw [if_pos hp, ← h, fr_q hG]
theorem fr_2 {a p : Int32} {b G : Nat} (h : G = gcA a b) (hp : ¬ p = 0) (hG : G < 2 ^ 31) (hb : b < 2 ^ 31) : lN b / lN G = frA a b p := by unfold frA; rw [if_neg hp, ← h, ← nI_l hb, fr_q hG]
set_option maxRecDepth 100000 in
set_option maxHeartbeats 4000000 in
theorem c_X10_lowest {g : GC} {d : Nat} {M : MI} {L : ML} {a : Int32} {b : Nat} (ha : -1000 ≤ a.toInt ∧ a.toInt ≤ 1000) (hb : 1 ≤ b) (hb2 : b ≤ 16) {p : Int32} : CfL g (d) yX10_lowest cX10_lowest 11 [.long a.toInt64, .long (lN b), .int p] M L (frA a b p) (M) (L) := by
  have hgg := gc_1 (a := a) hb
  refine cfL_of (own := RX10) (l := [some (.long a.toInt64), none, some (.long (lN b)), none, some (.int p), none, none, none, none, none, none]) 6 rfl rfl rfl (Nat.le_of_ble_eq_true rfl) ?_
  refine tm_lload_0 1 rfl dX10_lowest_0 ?_
  refine tm_lconst 0 rfl 2 rfl dX10_lowest_1 ?_
  refine tm_lcmp 3 rfl dX10_lowest_2 ?_
  refine tm_joinL1 12 (lN a.toInt.natAbs) ?_ (fun hJ12 => ?_)
  · refine tm_lstore_5 (by decide) rfl 14 rfl dX10_lowest_12 ?_
    refine tm_lload_2 15 rfl dX10_lowest_14 ?_
    refine tm_lstore_7 (by decide) rfl 17 rfl dX10_lowest_15 ?_
    refine eu_loop (G := gcA a b) (fun x y => Tm g (d) RX10 cX10_lowest 11 (some .long) (QL g (frA a b p) (M) (L)) 17 [some (.long a.toInt64), none, some (.long (lN b)), none, some (.int p), some (.long (lN x)), none, some (.long (lN y)), none, none, none] [] M L) (fun x y hx hy hg ih => ?_) _ _ (by omega) (by omega) rfl
    refine tm_lload_7 19 rfl dX10_lowest_17 ?_
    refine tm_lconst 0 rfl 20 rfl dX10_lowest_19 ?_
    refine tm_lcmp 21 rfl dX10_lowest_20 ?_
    refine tm_if_eq 42 24 rfl rfl dX10_lowest_21 (fun h21 => ?_) (fun h21 => ?_)
    · have hy1 : y = 0 := (lN_z hy).mp h21
      rw [hy1, Nat.gcd_zero_right] at hg
      refine tm_iload_4 44 rfl dX10_lowest_42 ?_
      refine tm_if_ne 51 47 rfl rfl dX10_lowest_44 (fun h44 => ?_) (fun h44 => ?_)
      · refine tm_lload_2 52 rfl dX10_lowest_51 ?_
        refine tm_lload_5 54 rfl dX10_lowest_52 ?_
        refine tm_ldiv (lN_nz (by omega) (by omega)) 55 rfl dX10_lowest_54 ?_
        exact tm_lret (by first | (have z : p = 0 := h44; exact fr_1 hg z (by omega)) | (have z : ¬ p = 0 := h44; exact fr_2 hg z (by omega) (by omega))) rfl rfl dX10_lowest_55
      · refine tm_lload_0 48 rfl dX10_lowest_47 ?_
        refine tm_goto 52 rfl dX10_lowest_48 ?_
        refine tm_lload_5 54 rfl dX10_lowest_52 ?_
        refine tm_ldiv (lN_nz (by omega) (by omega)) 55 rfl dX10_lowest_54 ?_
        exact tm_lret (by first | (have z : p = 0 := h44; exact fr_1 hg z (by omega)) | (have z : ¬ p = 0 := h44; exact fr_2 hg z (by omega) (by omega))) rfl rfl dX10_lowest_55
    · have hy0 : ¬ y = 0 := fun z => h21 ((lN_z hy).mpr z)
      refine tm_lload_5 26 rfl dX10_lowest_24 ?_
      refine tm_lload_7 28 rfl dX10_lowest_26 ?_
      refine tm_lrem (lN_nz hy hy0) 29 rfl dX10_lowest_28 ?_
      rw [pk_lRem (by omega) (by omega) (by omega)]
      refine tm_lstore_9 (by decide) rfl 31 rfl dX10_lowest_29 ?_
      refine tm_lload_7 33 rfl dX10_lowest_31 ?_
      refine tm_lstore_5 (by decide) rfl 35 rfl dX10_lowest_33 ?_
      refine tm_lload_9 37 rfl dX10_lowest_35 ?_
      refine tm_lstore_7 (by decide) rfl 39 rfl dX10_lowest_37 ?_
      refine tm_goto 17 rfl dX10_lowest_39 ?_
      exact tm_wkr (ih hy0) (And.intro rfl (And.intro rfl (And.intro rfl (And.intro rfl (And.intro rfl trivial)))))
  · refine tm_if_ge 11 6 rfl rfl dX10_lowest_3 (fun h3 => ?_) (fun h3 => ?_)
    · refine tm_lload_0 12 rfl dX10_lowest_11 ?_
      exact tm_topL (by first | exact lab_1 h3 | exact lab_2 h3) hJ12
    · refine tm_lload_0 7 rfl dX10_lowest_6 ?_
      refine tm_lneg 8 rfl dX10_lowest_7 ?_
      refine tm_goto 12 rfl dX10_lowest_8 ?_
      exact tm_topL (by first | exact lab_1 h3 | exact lab_2 h3) hJ12

def ansOdd (σ : AS) (v p : Int32) : Int64 := if inN v σ.1 = false then noL else if inN p 2 = false then noL else frA (nI (cnt (swP σ.2.1 (iN v)) (2 ^ σ.1))) (2 ^ σ.1 / 2) p
theorem od_1 {σ : AS} {v p : Int32} (h : inN v σ.1 = false) : ansOdd σ v p = noL := if_pos h
theorem od_2 {σ : AS} {v p : Int32} (h : inN v σ.1 = true) (h2 : inN p 2 = false) : ansOdd σ v p = noL := by unfold ansOdd; rw [if_neg (by rw [h]; decide), if_pos h2]
theorem od_3 {σ : AS} {k : Nat} {p : Int32} (hk : k < 2 ^ 31) (h : inN (nI k) σ.1 = true) (h2 : inN p 2 = true) : ansOdd σ (nI k) p = frA (nI (cnt (swP σ.2.1 k) (2 ^ σ.1))) (2 ^ σ.1 / 2) p := by unfold ansOdd; rw [if_neg (by rw [h]; decide), if_neg (by rw [h2]; decide), iN_nI hk]
theorem half {n : Nat} (h2 : 2 ≤ n) (h4 : n ≤ 4) : nI (2 ^ n) / 2 = nI (2 ^ n / 2) ∧ 1 ≤ 2 ^ n / 2 ∧ 2 ^ n / 2 ≤ 16 := by
  rcases (show n = 2 ∨ n = 3 ∨ n = 4 by omega) with rfl | rfl | rfl <;> decide
theorem cnt_lt {p : Nat → Bool} {n : Nat} (h4 : n ≤ 4) : -1000 ≤ (nI (cnt p (2 ^ n))).toInt ∧ (nI (cnt p (2 ^ n))).toInt ≤ 1000 := by
  have := pow4 h4
  have h : cnt p (2 ^ n) ≤ 2 ^ n := fa_cnt_le p _
  rw [nI_toInt (by omega)]
  omega
set_option maxRecDepth 100000 in
set_option maxHeartbeats 4000000 in
theorem c_X9_odds {g : GC} {d : Nat} {M : MI} {L : ML} {σ : AS} (hC : hasC M σ) (hσ : okS σ) {x p : Int32} : CfL g (d + 4) yX9_odds cX9_odds 3 [rf g 0, .int x, .int p] M L (ansOdd σ x p) (M) (L) := by
  have hn := hC.1
  have h4 := hσ.2.1
  have h16 := pow4 h4
  have hp1 := Nat.two_pow_pos σ.1
  have hc := okp hσ
  obtain ⟨hf1, hf2, hf3⟩ := half hσ.1 h4
  refine cfL_of (own := RX9) (l := [some (rf g 0), some (.int x), some (.int p)]) 0 rfl rfl rfl (Nat.le_of_ble_eq_true rfl) ?_
  refine tm_aload_0 1 rfl dX9_odds_0 ?_
  refine tm_getr fl_X9_12 rfl rfl 4 rfl dX9_odds_1 ?_
  refine tm_iload_1 5 rfl dX9_odds_4 ?_
  refine tm_callV_I (ci := 3) (c_X4_hasVoter hC hσ) mv_X4_hasVoter ml_X9_98 rfl rfl rfl rfl rfl (Nat.le_of_ble_eq_true rfl) 8 rfl dX9_odds_5 ?_
  refine tm_if_eqB 20 11 rfl rfl dX9_odds_8 (fun h8 => ?_) (fun h8 => ?_)
  · refine tm_ldc2 kl_X9_270 23 rfl dX9_odds_20 ?_
    exact tm_lret (by first | exact (od_1 h8).symm | exact (od_2 h8 (cod_c3 h12)).symm | exact (od_2 h8 (cod_c2 (N := 2) h17 (by decide) (by decide))).symm) rfl rfl dX9_odds_23
  · refine tm_iload_2 12 rfl dX9_odds_11 ?_
    refine tm_if_lt 20 15 rfl rfl dX9_odds_12 (fun h12 => ?_) (fun h12 => ?_)
    · refine tm_ldc2 kl_X9_270 23 rfl dX9_odds_20 ?_
      exact tm_lret (by first | exact (od_1 h8).symm | exact (od_2 h8 (cod_c3 h12)).symm | exact (od_2 h8 (cod_c2 (N := 2) h17 (by decide) (by decide))).symm) rfl rfl dX9_odds_23
    · refine tm_iload_2 16 rfl dX9_odds_15 ?_
      refine tm_iconst (1) rfl 17 rfl dX9_odds_16 ?_
      refine tm_icmp_le 24 20 rfl rfl dX9_odds_17 (fun h17 => ?_) (fun h17 => ?_)
      · have hp2 : inN p 2 = true := cod_c1 (N := 2) h12 h17 (by decide) (by decide)
        obtain ⟨k, hk, rfl⟩ := inN_of h8
        refine tm_aload_0 25 rfl dX9_odds_24 ?_
        refine tm_getr fl_X9_12 rfl rfl 28 rfl dX9_odds_25 ?_
        refine tm_geti fl_X9_67 rfl rfl 31 rfl dX9_odds_28 ?_
        rw [hn]
        refine tm_aload_0 32 rfl dX9_odds_31 ?_
        refine tm_getr fl_X9_12 rfl rfl 35 rfl dX9_odds_32 ?_
        refine tm_geti fl_X9_82 rfl rfl 38 rfl dX9_odds_35 ?_
        rw [hC.2.1]
        refine tm_iload_1 39 rfl dX9_odds_38 ?_
        refine tm_callS_I (c_X0_swingsOf h4 hσ.2.2.1 hk) ms_X0_swingsOf ml_X9_240 rfl rfl (Nat.le_of_ble_eq_true rfl) 42 rfl dX9_odds_39 ?_
        refine tm_aload_0 43 rfl dX9_odds_42 ?_
        refine tm_getr fl_X9_12 rfl rfl 46 rfl dX9_odds_43 ?_
        refine tm_callV_I (ci := 3) (c_X4_lots hC hσ) mv_X4_lots ml_X9_237 rfl rfl rfl rfl rfl (Nat.le_of_ble_eq_true rfl) 49 rfl dX9_odds_46 ?_
        refine tm_iconst (2) rfl 50 rfl dX9_odds_49 ?_
        refine tm_idiv (by decide) 51 rfl dX9_odds_50 ?_
        rw [hf1]
        refine tm_iload_2 52 rfl dX9_odds_51 ?_
        refine tm_callS_L (c_X9_partOfFraction (cnt_lt h4) hf2 hf3) ms_X9_partOfFraction ml_X9_272 rfl rfl (Nat.le_of_ble_eq_true rfl) 55 rfl dX9_odds_52 ?_
        exact tm_lret (od_3 (by omega) h8 hp2).symm rfl rfl dX9_odds_55
      · refine tm_ldc2 kl_X9_270 23 rfl dX9_odds_20 ?_
        exact tm_lret (by first | exact (od_1 h8).symm | exact (od_2 h8 (cod_c3 h12)).symm | exact (od_2 h8 (cod_c2 (N := 2) h17 (by decide) (by decide))).symm) rfl rfl dX9_odds_23

set_option maxRecDepth 100000 in
set_option maxHeartbeats 4000000 in
theorem c_X10_odds {g : GC} {d : Nat} {M : MI} {L : ML} {σ : AS} (hM : hasM M σ) (hσ : okS σ) {x p : Int32} : CfL g (d + 3) yX10_odds cX10_odds 3 [rf g 54, .int x, .int p] M L (ansOdd σ x p) (M) (L) := by
  have hn := hM.1
  have h4 := hσ.2.1
  have h16 := pow4 h4
  have hp1 := Nat.two_pow_pos σ.1
  have hc := okp hσ
  obtain ⟨hf1, hf2, hf3⟩ := half hσ.1 h4
  refine cfL_of (own := RX10) (l := [some (rf g 54), some (.int x), some (.int p)]) 0 rfl rfl rfl (Nat.le_of_ble_eq_true rfl) ?_
  refine tm_aload_0 1 rfl dX10_odds_0 ?_
  refine tm_iload_1 2 rfl dX10_odds_1 ?_
  refine tm_callV_I (ci := 9) (c_X10_isVoter hn h4 (by have := hσ.1; omega)) mv_X10_isVoter ml_X10_75 rfl rfl rfl rfl rfl (Nat.le_of_ble_eq_true rfl) 5 rfl dX10_odds_2 ?_
  refine tm_if_eqB 38 8 rfl rfl dX10_odds_5 (fun h5 => ?_) (fun h5 => ?_)
  · refine tm_ldc2 kl_X10_172 41 rfl dX10_odds_38 ?_
    exact tm_lret (by first | exact (od_1 h5).symm | exact (od_2 h5 h15).symm | exact (od_3 (by omega) h5 h15).symm) rfl rfl dX10_odds_41
  · obtain ⟨k, hk, rfl⟩ := inN_of h5
    refine tm_iload_2 9 rfl dX10_odds_8 ?_
    refine tm_i2l 10 rfl dX10_odds_9 ?_
    refine tm_lconst 0 rfl 11 rfl dX10_odds_10 ?_
    refine tm_lconst 1 rfl 12 rfl dX10_odds_11 ?_
    refine tm_callS_I (c_X10_in) ms_X10_in ml_X10_60 rfl rfl (Nat.le_of_ble_eq_true rfl) 15 rfl dX10_odds_12 ?_
    rw [btw_in (N := 2) (by decide)]
    refine tm_if_eqB 38 18 rfl rfl dX10_odds_15 (fun h15 => ?_) (fun h15 => ?_)
    · refine tm_ldc2 kl_X10_172 41 rfl dX10_odds_38 ?_
      exact tm_lret (by first | exact (od_1 h5).symm | exact (od_2 h5 h15).symm | exact (od_3 (by omega) h5 h15).symm) rfl rfl dX10_odds_41
    · refine tm_aload_0 19 rfl dX10_odds_18 ?_
      refine tm_iload_1 20 rfl dX10_odds_19 ?_
      refine tm_callV_I (ci := 9) (c_X10_swings_v hM hσ hk) mv_X10_swings ml_X10_165 rfl rfl rfl rfl rfl (Nat.le_of_ble_eq_true rfl) 23 rfl dX10_odds_20 ?_
      refine tm_i2l 24 rfl dX10_odds_23 ?_
      refine tm_aload_0 25 rfl dX10_odds_24 ?_
      refine tm_callV_I (ci := 9) (c_X10_lots hn h4) mv_X10_lots ml_X10_56 rfl rfl rfl rfl rfl (Nat.le_of_ble_eq_true rfl) 28 rfl dX10_odds_25 ?_
      refine tm_iconst (2) rfl 29 rfl dX10_odds_28 ?_
      refine tm_idiv (by decide) 30 rfl dX10_odds_29 ?_
      rw [hf1]
      refine tm_i2l 31 rfl dX10_odds_30 ?_
      rw [nI_l (n := 2 ^ σ.1 / 2) (by omega)]
      refine tm_iload_2 32 rfl dX10_odds_31 ?_
      refine tm_callS_L (c_X10_lowest (cnt_lt h4) hf2 hf3) ms_X10_lowest ml_X10_168 rfl rfl (Nat.le_of_ble_eq_true rfl) 35 rfl dX10_odds_32 ?_
      refine tm_goto 41 rfl dX10_odds_35 ?_
      exact tm_lret (by first | exact (od_1 h5).symm | exact (od_2 h5 h15).symm | exact (od_3 (by omega) h5 h15).symm) rfl rfl dX10_odds_41

def smW (σ : AS) : Nat → Int32
  | 0 => 0
  | k + 1 => smW σ k + wth σ.2.2.2.1 k σ.1
theorem smW_b {σ : AS} (h : okS σ) : ∀ k : Nat, k ≤ 16 → -(36 * (k : Int)) ≤ (smW σ k).toInt ∧ (smW σ k).toInt ≤ 36 * (k : Int)
  | 0, _ => ⟨show (0 : Int) ≤ (0 : Int32).toInt by decide, show (0 : Int32).toInt ≤ 0 by decide⟩
  | k + 1, hk => by
    have a := smW_b h k (by omega)
    have b := wth_b h k
    unfold smW
    rw [fb_addI (by omega) (by omega)]
    omega
theorem smW_l {σ : AS} (h : okS σ) {k : Nat} (hk : k < 16) : (smW σ k).toInt64 + (wth σ.2.2.2.1 k σ.1).toInt64 = (smW σ (k + 1)).toInt64 := by
  have a := smW_b h k (by omega)
  have b := wth_b h k
  have e : (smW σ (k + 1)).toInt = (smW σ k).toInt + (wth σ.2.2.2.1 k σ.1).toInt := by
    show (smW σ k + wth σ.2.2.2.1 k σ.1).toInt = _
    rw [fb_addI (by omega) (by omega)]
  rw [fa_eq64, fb_addL (by rw [Int32.toInt_toInt64, Int32.toInt_toInt64]; omega) (by rw [Int32.toInt_toInt64, Int32.toInt_toInt64]; omega), Int32.toInt_toInt64, Int32.toInt_toInt64, Int32.toInt_toInt64, e]
def ansMean (σ : AS) (p : Int32) : Int64 := if inN p 2 = false then noL else frA (smW σ (2 ^ σ.1)) (2 ^ σ.1) p
theorem mn_1 {σ : AS} {p : Int32} (h : inN p 2 = false) : ansMean σ p = noL := if_pos h
theorem mn_2 {σ : AS} {p : Int32} (h : inN p 2 = true) : ansMean σ p = frA (smW σ (2 ^ σ.1)) (2 ^ σ.1) p := if_neg (by rw [h]; decide)
set_option maxRecDepth 100000 in
set_option maxHeartbeats 4000000 in
theorem c_X9_mean {g : GC} {d : Nat} {M : MI} {L : ML} {σ : AS} (hC : hasC M σ) (hσ : okS σ) {p : Int32} : CfL g (d + 2) yX9_mean cX9_mean 4 [rf g 0, .int p] M L (ansMean σ p) (M) (L) := by
  have hn := hC.1
  have h4 := hσ.2.1
  have h16 := pow4 h4
  have hp1 := Nat.two_pow_pos σ.1
  have hc := okp hσ
  have hb := smW_b hσ (2 ^ σ.1) h16
  refine cfL_of (own := RX9) (l := [some (rf g 0), some (.int p), none, none]) 2 rfl rfl rfl (Nat.le_of_ble_eq_true rfl) ?_
  refine tm_iload_1 1 rfl dX9_mean_0 ?_
  refine tm_if_lt 9 4 rfl rfl dX9_mean_1 (fun h1 => ?_) (fun h1 => ?_)
  · refine tm_ldc2 kl_X9_270 12 rfl dX9_mean_9 ?_
    exact tm_lret (by first | exact (mn_1 (cod_c3 h1)).symm | exact (mn_1 (cod_c2 (N := 2) h6 (by decide) (by decide))).symm) rfl rfl dX9_mean_12
  · refine tm_iload_1 5 rfl dX9_mean_4 ?_
    refine tm_iconst (1) rfl 6 rfl dX9_mean_5 ?_
    refine tm_icmp_le 13 9 rfl rfl dX9_mean_6 (fun h6 => ?_) (fun h6 => ?_)
    · have hp2 : inN p 2 = true := cod_c1 (N := 2) h1 h6 (by decide) (by decide)
      refine tm_iconst (0) rfl 14 rfl dX9_mean_13 ?_
      refine tm_istore_2 (by decide) rfl 15 rfl dX9_mean_14 ?_
      refine tm_iconst (0) rfl 16 rfl dX9_mean_15 ?_
      refine tm_istore_3 (by decide) rfl 17 rfl dX9_mean_16 ?_
      refine tm_loop (N := 2 ^ σ.1) (fun k => Tm g (d + 2) RX9 cX9_mean 4 (some .long) (QL g (ansMean σ p) (M) (L)) 17 [some (rf g 0), some (.int p), some (.int (smW σ k)), some (.int (nI k))] [] (M) (L)) (fun k hk ih => ?_) ?_
      · refine tm_iload_3 18 rfl dX9_mean_17 ?_
        refine tm_aload_0 19 rfl dX9_mean_18 ?_
        refine tm_getr fl_X9_12 rfl rfl 22 rfl dX9_mean_19 ?_
        refine tm_callV_I (ci := 3) (c_X4_lots hC hσ) mv_X4_lots ml_X9_237 rfl rfl rfl rfl rfl (Nat.le_of_ble_eq_true rfl) 25 rfl dX9_mean_22 ?_
        refine tm_icmp_ge_f 28 (nI_ge hk (by omega)) rfl rfl dX9_mean_25 ?_
        refine tm_iload_2 29 rfl dX9_mean_28 ?_
        refine tm_aload_0 30 rfl dX9_mean_29 ?_
        refine tm_getr fl_X9_12 rfl rfl 33 rfl dX9_mean_30 ?_
        refine tm_iload_3 34 rfl dX9_mean_33 ?_
        refine tm_callV_I (ci := 3) (c_X4_worthOf hC hσ hk) mv_X4_worthOf ml_X9_191 rfl rfl rfl rfl rfl (Nat.le_of_ble_eq_true rfl) 37 rfl dX9_mean_34 ?_
        refine tm_iadd 38 rfl dX9_mean_37 ?_
        refine tm_istore_2 (by decide) rfl 39 rfl dX9_mean_38 ?_
        refine tm_iinc_3 (nI (k + 1)) (iinc1 k) (by decide) rfl 42 rfl dX9_mean_39 ?_
        refine tm_goto 17 rfl dX9_mean_42 ?_
        exact ih
      · refine tm_iload_3 18 rfl dX9_mean_17 ?_
        refine tm_aload_0 19 rfl dX9_mean_18 ?_
        refine tm_getr fl_X9_12 rfl rfl 22 rfl dX9_mean_19 ?_
        refine tm_callV_I (ci := 3) (c_X4_lots hC hσ) mv_X4_lots ml_X9_237 rfl rfl rfl rfl rfl (Nat.le_of_ble_eq_true rfl) 25 rfl dX9_mean_22 ?_
        refine tm_icmp_ge_t 45 (nI_le (Nat.le_refl _) (by omega)) rfl dX9_mean_25 ?_
        refine tm_iload_2 46 rfl dX9_mean_45 ?_
        refine tm_aload_0 47 rfl dX9_mean_46 ?_
        refine tm_getr fl_X9_12 rfl rfl 50 rfl dX9_mean_47 ?_
        refine tm_callV_I (ci := 3) (c_X4_lots hC hσ) mv_X4_lots ml_X9_237 rfl rfl rfl rfl rfl (Nat.le_of_ble_eq_true rfl) 53 rfl dX9_mean_50 ?_
        refine tm_iload_1 54 rfl dX9_mean_53 ?_
        refine tm_callS_L (c_X9_partOfFraction (by omega) hp1 h16) ms_X9_partOfFraction ml_X9_272 rfl rfl (Nat.le_of_ble_eq_true rfl) 57 rfl dX9_mean_54 ?_
        exact tm_lret (mn_2 hp2).symm rfl rfl dX9_mean_57
    · refine tm_ldc2 kl_X9_270 12 rfl dX9_mean_9 ?_
      exact tm_lret (by first | exact (mn_1 (cod_c3 h1)).symm | exact (mn_1 (cod_c2 (N := 2) h6 (by decide) (by decide))).symm) rfl rfl dX9_mean_12

set_option maxRecDepth 100000 in
set_option maxHeartbeats 4000000 in
theorem c_X10_mean {g : GC} {d : Nat} {M : MI} {L : ML} {σ : AS} (hM : hasM M σ) (hσ : okS σ) {p : Int32} : CfL g (d + 2) yX10_mean cX10_mean 5 [rf g 54, .int p] M L (ansMean σ p) (M) (L) := by
  have hn := hM.1
  have h4 := hσ.2.1
  have h16 := pow4 h4
  have hp1 := Nat.two_pow_pos σ.1
  have hc := okp hσ
  have hb := smW_b hσ (2 ^ σ.1) h16
  have hwc : ∀ k, wth (fun v => M 55 (4 + v)) k σ.1 = wth σ.2.2.2.1 k σ.1 := fun k => wth_congr (fun v hv => hM.2.2.2.2 v (by omega))
  refine cfL_of (own := RX10) (l := [some (rf g 54), some (.int p), none, none, none]) 3 rfl rfl rfl (Nat.le_of_ble_eq_true rfl) ?_
  refine tm_iload_1 1 rfl dX10_mean_0 ?_
  refine tm_i2l 2 rfl dX10_mean_1 ?_
  refine tm_lconst 0 rfl 3 rfl dX10_mean_2 ?_
  refine tm_lconst 1 rfl 4 rfl dX10_mean_3 ?_
  refine tm_callS_I (c_X10_in) ms_X10_in ml_X10_60 rfl rfl (Nat.le_of_ble_eq_true rfl) 7 rfl dX10_mean_4 ?_
  rw [btw_in (N := 2) (by decide)]
  refine tm_if_neB 14 10 rfl rfl dX10_mean_7 (fun h7 => ?_) (fun h7 => ?_)
  · refine tm_lconst 0 rfl 15 rfl dX10_mean_14 ?_
    refine tm_lstore_2 (by decide) rfl 16 rfl dX10_mean_15 ?_
    refine tm_iconst (0) rfl 17 rfl dX10_mean_16 ?_
    refine tm_istore_4 (by decide) rfl 19 rfl dX10_mean_17 ?_
    refine tm_loop (N := 2 ^ σ.1) (fun k => Tm g (d + 2) RX10 cX10_mean 5 (some .long) (QL g (ansMean σ p) (M) (L)) 19 [some (rf g 54), some (.int p), some (.long (smW σ k).toInt64), none, some (.int (nI k))] [] (M) (L)) (fun k hk ih => ?_) ?_
    · refine tm_iload_4 21 rfl dX10_mean_19 ?_
      refine tm_aload_0 22 rfl dX10_mean_21 ?_
      refine tm_callV_I (ci := 9) (c_X10_lots hn h4) mv_X10_lots ml_X10_56 rfl rfl rfl rfl rfl (Nat.le_of_ble_eq_true rfl) 25 rfl dX10_mean_22 ?_
      refine tm_icmp_ge_f 28 (nI_ge hk (by omega)) rfl rfl dX10_mean_25 ?_
      refine tm_lload_2 29 rfl dX10_mean_28 ?_
      refine tm_aload_0 30 rfl dX10_mean_29 ?_
      refine tm_iload_4 32 rfl dX10_mean_30 ?_
      refine tm_callV_I (ci := 9) (c_X10_worth hn h4 (k := k) (by omega)) mv_X10_worth ml_X10_86 rfl rfl rfl rfl rfl (Nat.le_of_ble_eq_true rfl) 35 rfl dX10_mean_32 ?_
      rw [hwc]
      refine tm_i2l 36 rfl dX10_mean_35 ?_
      refine tm_ladd 37 rfl dX10_mean_36 ?_
      rw [smW_l hσ (by omega)]
      refine tm_lstore_2 (by decide) rfl 38 rfl dX10_mean_37 ?_
      refine tm_iinc_4 (nI (k + 1)) (iinc1 k) (by decide) rfl 41 rfl dX10_mean_38 ?_
      refine tm_goto 19 rfl dX10_mean_41 ?_
      exact ih
    · refine tm_iload_4 21 rfl dX10_mean_19 ?_
      refine tm_aload_0 22 rfl dX10_mean_21 ?_
      refine tm_callV_I (ci := 9) (c_X10_lots hn h4) mv_X10_lots ml_X10_56 rfl rfl rfl rfl rfl (Nat.le_of_ble_eq_true rfl) 25 rfl dX10_mean_22 ?_
      refine tm_icmp_ge_t 44 (nI_le (Nat.le_refl _) (by omega)) rfl dX10_mean_25 ?_
      refine tm_lload_2 45 rfl dX10_mean_44 ?_
      refine tm_aload_0 46 rfl dX10_mean_45 ?_
      refine tm_callV_I (ci := 9) (c_X10_lots hn h4) mv_X10_lots ml_X10_56 rfl rfl rfl rfl rfl (Nat.le_of_ble_eq_true rfl) 49 rfl dX10_mean_46 ?_
      refine tm_i2l 50 rfl dX10_mean_49 ?_
      rw [nI_l (n := 2 ^ σ.1) (by omega)]
      refine tm_iload_1 51 rfl dX10_mean_50 ?_
      refine tm_callS_L (c_X10_lowest (by omega) hp1 h16) ms_X10_lowest ml_X10_168 rfl rfl (Nat.le_of_ble_eq_true rfl) 54 rfl dX10_mean_51 ?_
      exact tm_lret (mn_2 h7).symm rfl rfl dX10_mean_54
  · refine tm_ldc2 kl_X10_172 13 rfl dX10_mean_10 ?_
    exact tm_lret (mn_1 h7).symm rfl rfl dX10_mean_13

