/-! counts of bits -/
def cnt (p : Nat → Bool) (N : Nat) : Nat := fa_cnt p N
theorem cnt_s (p : Nat → Bool) (N : Nat) : cnt p (N + 1) = cnt p N + (if p N then 1 else 0) := rfl
theorem cnt_le (p : Nat → Bool) (N : Nat) : cnt p N ≤ N := fa_cnt_le p N
theorem cnt_congr {p q : Nat → Bool} {N : Nat} (h : ∀ k, k < N → p k = q k) : cnt p N = cnt q N := fa_cnt_cong h
theorem cnt_hi {c N : Nat} (hc : c < 2 ^ N) : ∀ m, cnt c.testBit (N + m) = cnt c.testBit N
  | 0 => rfl
  | m + 1 => by
    show cnt c.testBit (N + m) + (if c.testBit (N + m) then 1 else 0) = _
    rw [cnt_hi hc m, tb_hi hc (by omega)]
    simp
theorem and8 {a b m k : Nat} (hb : b < 256) (hk : k < 256) : (256 * a + b) &&& (256 * m + k) = 256 * (a &&& m) + (b &&& k) := by
  have hbk : b &&& k < 2 ^ 8 := Nat.lt_of_le_of_lt Nat.and_le_left hb
  apply Nat.eq_of_testBit_eq
  intro j
  rw [Nat.testBit_and, show (256 : Nat) = 2 ^ 8 from rfl, Nat.testBit_two_pow_mul_add a (show b < 2 ^ 8 from hb), Nat.testBit_two_pow_mul_add m (show k < 2 ^ 8 from hk), Nat.testBit_two_pow_mul_add _ hbk]
  by_cases q : j < 8
  · rw [if_pos q, if_pos q, if_pos q, Nat.testBit_and]
  · rw [if_neg q, if_neg q, if_neg q, Nat.testBit_and]
theorem and8s {a m k : Nat} (ha : a < 256) (hk : k < 256) : a &&& (256 * m + k) = a &&& k := by
  have h := and8 (a := 0) (m := m) ha hk
  rw [Nat.mul_zero, Nat.zero_add, Nat.zero_and, Nat.mul_zero, Nat.zero_add] at h
  exact h
def a1 (l : Nat) : Nat := l - ((l / 2) &&& 85)
def a2 (l : Nat) : Nat := (a1 l &&& 51) + ((a1 l / 4) &&& 51)
def a3 (l : Nat) : Nat := (a2 l + a2 l / 16) &&& 15
def ckA (l : Nat) : Bool := Nat.ble ((l / 2) &&& 85) l && Nat.beq ((l / 2 + 128) &&& 85) ((l / 2) &&& 85) && Nat.ble (a1 l) 255 && Nat.beq ((a1 l / 4 + 64) &&& 51) ((a1 l / 4) &&& 51) && Nat.beq ((a1 l / 4 + 128) &&& 51) ((a1 l / 4) &&& 51) && Nat.beq ((a1 l / 4 + 192) &&& 51) ((a1 l / 4) &&& 51)
def ckB (l : Nat) : Bool := Nat.ble (a2 l) 68 && Nat.ble (a2 l % 16) 4 && Nat.beq (a3 l) (cnt l.testBit 8)
theorem ckA_all : ((List.range 256).all ckA) = true := by decide +kernel
theorem ckB_all : ((List.range 256).all ckB) = true := by decide +kernel
def ckC (s : Nat) : Bool := (List.range 5).all fun t => Nat.beq ((s + 16 * t) &&& 15) (s &&& 15)
theorem ckC_all : ((List.range 80).all ckC) = true := by decide +kernel
def ckD (s : Nat) : Bool := Nat.beq (s &&& 63) s
theorem ckD_all : ((List.range 17).all ckD) = true := by decide +kernel
theorem ckA_l {l : Nat} (h : l < 256) : (l / 2) &&& 85 ≤ l ∧ (∀ t, t < 2 → (l / 2 + 128 * t) &&& 85 = (l / 2) &&& 85) ∧ a1 l ≤ 255 ∧ ∀ t, t < 4 → (a1 l / 4 + 64 * t) &&& 51 = (a1 l / 4) &&& 51 := by
  have q := List.all_eq_true.mp ckA_all l (List.mem_range.mpr h)
  unfold ckA at q
  simp only [Bool.and_eq_true, Nat.ble_eq, Nat.beq_eq] at q
  obtain ⟨⟨⟨⟨⟨q1, q2⟩, q3⟩, q4⟩, q5⟩, q6⟩ := q
  refine ⟨q1, fun t ht => ?_, q3, fun t ht => ?_⟩
  · rcases (show t = 0 ∨ t = 1 by omega) with rfl | rfl
    · rfl
    · exact q2
  · rcases (show t = 0 ∨ t = 1 ∨ t = 2 ∨ t = 3 by omega) with rfl | rfl | rfl | rfl
    · rfl
    · exact q4
    · exact q5
    · exact q6
theorem ckB_l {l : Nat} (h : l < 256) : a2 l ≤ 68 ∧ a2 l % 16 ≤ 4 ∧ a3 l = cnt l.testBit 8 := by
  have q := List.all_eq_true.mp ckB_all l (List.mem_range.mpr h)
  unfold ckB at q
  simp only [Bool.and_eq_true, Nat.ble_eq, Nat.beq_eq] at q
  exact ⟨q.1.1, q.1.2, q.2⟩
theorem ckC_s {s t : Nat} (h : s < 80) (ht : t < 5) : (s + 16 * t) &&& 15 = s &&& 15 := by
  have q := List.all_eq_true.mp ckC_all s (List.mem_range.mpr h)
  have q2 := List.all_eq_true.mp q t (List.mem_range.mpr ht)
  exact Nat.beq_eq.mp q2
theorem ckD_s {s : Nat} (h : s < 17) : s &&& 63 = s := Nat.beq_eq.mp (List.all_eq_true.mp ckD_all s (List.mem_range.mpr h))
theorem st_1 {h l : Nat} (hh : h < 256) (hl : l < 256) : ((256 * h + l) / 2) &&& 1431655765 = 256 * ((h / 2) &&& 85) + ((l / 2) &&& 85) := by
  have e : (256 * h + l) / 2 = 256 * (h / 2) + (l / 2 + 128 * (h % 2)) := by omega
  rw [e, show (1431655765 : Nat) = 256 * 5592405 + 85 from rfl, and8 (by omega) (by decide), (ckA_l hl).2.1 _ (by omega), show (5592405 : Nat) = 256 * 21845 + 85 from rfl, and8s (by omega) (by decide)]
theorem st_2 {h l : Nat} (hh : h < 256) (hl : l < 256) : ((256 * a1 h + a1 l) &&& 858993459) + (((256 * a1 h + a1 l) / 4) &&& 858993459) = 256 * a2 h + a2 l := by
  have b1 := (ckA_l hh).2.2.1
  have b2 := (ckA_l hl).2.2.1
  have e : (256 * a1 h + a1 l) / 4 = 256 * (a1 h / 4) + (a1 l / 4 + 64 * (a1 h % 4)) := by omega
  rw [e, show (858993459 : Nat) = 256 * 3355443 + 51 from rfl, and8 (by omega) (by decide), and8 (by omega) (by decide), (ckA_l hl).2.2.2 _ (by omega), show (3355443 : Nat) = 256 * 13107 + 51 from rfl, and8s (by omega) (by decide), and8s (by omega) (by decide)]
  unfold a2
  omega
theorem st_3 {h l : Nat} (hh : h < 256) (hl : l < 256) : ((256 * a2 h + a2 l) + (256 * a2 h + a2 l) / 16) &&& 252645135 = 256 * a3 h + a3 l := by
  have b1 := ckB_l hh
  have b2 := ckB_l hl
  have e : (256 * a2 h + a2 l) + (256 * a2 h + a2 l) / 16 = 256 * (a2 h + a2 h / 16) + ((a2 l + a2 l / 16) + 16 * (a2 h % 16)) := by omega
  rw [e, show (252645135 : Nat) = 256 * 986895 + 15 from rfl, and8 (by omega) (by decide), ckC_s (by omega) (by omega), show (986895 : Nat) = 256 * 3855 + 15 from rfl, and8s (by omega) (by decide)]
  rfl
theorem cnt_split (p : Nat → Bool) (m : Nat) : ∀ n, cnt p (m + n) = cnt p m + cnt (fun k => p (m + k)) n
  | 0 => rfl
  | n + 1 => by
    show cnt p (m + n) + _ = _ + (cnt (fun k => p (m + k)) n + _)
    rw [cnt_split p m n, Nat.add_assoc]
    rfl
theorem cnt_hl {h l : Nat} (hh : h < 256) (hl : l < 256) : cnt (256 * h + l).testBit 16 = a3 l + a3 h := by
  rw [(ckB_l hh).2.2, (ckB_l hl).2.2]
  have e : ∀ j, (256 * h + l).testBit j = if j < 8 then l.testBit j else h.testBit (j - 8) := fun j => Nat.testBit_two_pow_mul_add h (i := 8) hl j
  rw [show 16 = 8 + 8 from rfl, cnt_split]
  congr 1
  · exact cnt_congr (fun k hk => by rw [e, if_pos hk])
  · exact cnt_congr (fun k hk => by rw [e, if_neg (by omega), show 8 + k - 8 = k by omega])
theorem a3_le {l : Nat} (hl : l < 256) : a3 l ≤ 8 := by rw [(ckB_l hl).2.2]; exact cnt_le _ _
theorem us_k : ∀ k, k < 32 → (((nI k).toUInt32 &&& Int32.toUInt32 31).toBitVec % 32).toNat = k := by decide +kernel
theorem us_r {c k : Nat} (hc : c < 2 ^ 32) (hk : k < 32) : ((nI c).toUInt32 >>> ((nI k).toUInt32 &&& Int32.toUInt32 31)).toInt32 = nI (c / 2 ^ k) := pk_ushrN hc _ k (us_k k hk)
set_option maxRecDepth 100000 in
set_option maxHeartbeats 4000000 in
theorem c_bc_hl {g : GC} {d : Nat} {M : MI} {L : ML} {h l : Nat} (hh : h < 256) (hl : l < 256) : CfI g (d) yJ6_bitCount_0f7a4 cJ6_bitCount_0f7a4 1 .int [.int (nI (256 * h + l))] M L (nI (cnt (256 * h + l).testBit 16)) (M) (L) := by
  have b1 := (ckA_l hh).2.2.1
  have b2 := (ckA_l hl).2.2.1
  have c1 := (ckA_l hh).1
  have c2 := (ckA_l hl).1
  have d1 := (ckB_l hh).1
  have d2 := (ckB_l hl).1
  have e1 := a3_le hh
  have e2 := a3_le hl
  refine cfI_of (own := RJ6) (l := [some (.int (nI (256 * h + l)))]) 0 rfl rfl rfl (Nat.le_of_ble_eq_true rfl) ?_
  refine tm_iload_0 1 rfl dJ6_bitCount_0f7a4_0 ?_
  refine tm_iload_0 2 rfl dJ6_bitCount_0f7a4_1 ?_
  refine tm_iconst (1) rfl 3 rfl dJ6_bitCount_0f7a4_2 ?_
  refine tm_iushr 4 rfl dJ6_bitCount_0f7a4_3 ?_
  rw [show (1 : Int32) = nI 1 from rfl, us_r (by omega) (by decide)]
  refine tm_ldcw kc_J6_265 7 rfl dJ6_bitCount_0f7a4_4 ?_
  refine tm_iand 8 rfl dJ6_bitCount_0f7a4_7 ?_
  refine tm_isub 9 rfl dJ6_bitCount_0f7a4_8 ?_
  rw [show (1431655765 : Int32) = nI 1431655765 from rfl, fa_and, show (256 * h + l) / 2 ^ 1 = (256 * h + l) / 2 from rfl, st_1 hh hl, pk_sub (by omega), show 256 * h + l - (256 * (h / 2 &&& 85) + (l / 2 &&& 85)) = 256 * a1 h + a1 l by unfold a1; omega]
  refine tm_istore_0 (by decide) 10 rfl dJ6_bitCount_0f7a4_9 ?_
  refine tm_iload_0 11 rfl dJ6_bitCount_0f7a4_10 ?_
  refine tm_ldcw kc_J6_266 14 rfl dJ6_bitCount_0f7a4_11 ?_
  refine tm_iand 15 rfl dJ6_bitCount_0f7a4_14 ?_
  refine tm_iload_0 16 rfl dJ6_bitCount_0f7a4_15 ?_
  refine tm_iconst (2) rfl 17 rfl dJ6_bitCount_0f7a4_16 ?_
  refine tm_iushr 18 rfl dJ6_bitCount_0f7a4_17 ?_
  rw [show (2 : Int32) = nI 2 from rfl, us_r (by omega) (by decide)]
  refine tm_ldcw kc_J6_266 21 rfl dJ6_bitCount_0f7a4_18 ?_
  refine tm_iand 22 rfl dJ6_bitCount_0f7a4_21 ?_
  refine tm_iadd 23 rfl dJ6_bitCount_0f7a4_22 ?_
  rw [show (858993459 : Int32) = nI 858993459 from rfl, fa_and, fa_and, nI_add, show (256 * a1 h + a1 l) / 2 ^ 2 = (256 * a1 h + a1 l) / 4 from rfl, st_2 hh hl]
  refine tm_istore_0 (by decide) 24 rfl dJ6_bitCount_0f7a4_23 ?_
  refine tm_iload_0 25 rfl dJ6_bitCount_0f7a4_24 ?_
  refine tm_iload_0 26 rfl dJ6_bitCount_0f7a4_25 ?_
  refine tm_iconst (4) rfl 27 rfl dJ6_bitCount_0f7a4_26 ?_
  refine tm_iushr 28 rfl dJ6_bitCount_0f7a4_27 ?_
  rw [show (4 : Int32) = nI 4 from rfl, us_r (by omega) (by decide)]
  refine tm_iadd 29 rfl dJ6_bitCount_0f7a4_28 ?_
  refine tm_ldcw kc_J6_267 32 rfl dJ6_bitCount_0f7a4_29 ?_
  refine tm_iand 33 rfl dJ6_bitCount_0f7a4_32 ?_
  rw [nI_add, show (252645135 : Int32) = nI 252645135 from rfl, fa_and, show (256 * a2 h + a2 l) / 2 ^ 4 = (256 * a2 h + a2 l) / 16 from rfl, st_3 hh hl]
  refine tm_istore_0 (by decide) 34 rfl dJ6_bitCount_0f7a4_33 ?_
  refine tm_iload_0 35 rfl dJ6_bitCount_0f7a4_34 ?_
  refine tm_iload_0 36 rfl dJ6_bitCount_0f7a4_35 ?_
  refine tm_bipush (8) (by decide) 38 rfl dJ6_bitCount_0f7a4_36 ?_
  refine tm_iushr 39 rfl dJ6_bitCount_0f7a4_38 ?_
  rw [show (8 : Int32) = nI 8 from rfl, us_r (by omega) (by decide)]
  refine tm_iadd 40 rfl dJ6_bitCount_0f7a4_39 ?_
  rw [nI_add, show 256 * a3 h + a3 l + (256 * a3 h + a3 l) / 2 ^ 8 = 256 * a3 h + (a3 l + a3 h) by omega]
  refine tm_istore_0 (by decide) 41 rfl dJ6_bitCount_0f7a4_40 ?_
  refine tm_iload_0 42 rfl dJ6_bitCount_0f7a4_41 ?_
  refine tm_iload_0 43 rfl dJ6_bitCount_0f7a4_42 ?_
  refine tm_bipush (16) (by decide) 45 rfl dJ6_bitCount_0f7a4_43 ?_
  refine tm_iushr 46 rfl dJ6_bitCount_0f7a4_45 ?_
  rw [show (16 : Int32) = nI 16 from rfl, us_r (by omega) (by decide)]
  refine tm_iadd 47 rfl dJ6_bitCount_0f7a4_46 ?_
  rw [nI_add, show 256 * a3 h + (a3 l + a3 h) + (256 * a3 h + (a3 l + a3 h)) / 2 ^ 16 = 256 * a3 h + (a3 l + a3 h) by omega]
  refine tm_istore_0 (by decide) 48 rfl dJ6_bitCount_0f7a4_47 ?_
  refine tm_iload_0 49 rfl dJ6_bitCount_0f7a4_48 ?_
  refine tm_bipush (63) (by decide) 51 rfl dJ6_bitCount_0f7a4_49 ?_
  refine tm_iand 52 rfl dJ6_bitCount_0f7a4_51 ?_
  exact tm_iret (by rw [show (63 : Int32) = nI 63 from rfl, fa_and, show (63 : Nat) = 256 * 0 + 63 from rfl, and8 (by omega) (by decide), ckD_s (by omega), Nat.and_zero, cnt_hl hh hl]; simp) rfl rfl dJ6_bitCount_0f7a4_52

theorem c_J6_bitCount_0f7a4 {g : GC} {d : Nat} {M : MI} {L : ML} {x : Nat} (hx : x < 65536) : CfI g (d) yJ6_bitCount_0f7a4 cJ6_bitCount_0f7a4 1 .int [.int (nI x)] M L (nI (cnt x.testBit 16)) (M) (L) := by
  have h := c_bc_hl (g := g) (d := d) (M := M) (L := L) (h := x / 256) (l := x % 256) (by omega) (by omega)
  rwa [show 256 * (x / 256) + x % 256 = x by omega] at h
