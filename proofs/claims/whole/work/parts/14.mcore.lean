/-! the core of a state: n, CODE, KEPT, WEIGHTS, QUOTA; what calls do to it -/
abbrev AS : Type := Nat × Nat × Nat × (Nat → Int32) × Int32
def iN (x : Int32) : Nat := x.toInt.toNat
theorem iN_nI {k : Nat} (h : k < 2 ^ 31) : iN (nI k) = k := by unfold iN; rw [nI_toInt h]; rfl
def setb (n c k : Nat) (b : Bool) : Nat := bits (2 ^ n) (fun j => if j = k then b else c.testBit j)
def opN (n c : Nat) : Nat := bits (2 ^ n) (fun k => !c.testBit k)
def opVot (σ : AS) (x : Int32) : Int32 × AS := if decide (2 ≤ x.toInt ∧ x.toInt ≤ 4) = true then (nI σ.1, (iN x, 0, 0, fun _ => 0, 1)) else (-2, σ)
def opSay (σ : AS) (lot is : Int32) : Int32 × AS := if inN lot (2 ^ σ.1) = false then (-1, σ) else if inN is 2 = false then (-2, σ) else (bI (σ.2.1.testBit (iN lot)), (σ.1, setb σ.1 σ.2.1 (iN lot) (decide (is = 1)), σ.2.2))
def opCode (σ : AS) (x : Int32) : Int32 × AS := if inN x (2 ^ 2 ^ σ.1) = false then (-2, σ) else (nI σ.2.1, (σ.1, iN x, σ.2.2))
def opWgt (σ : AS) (v x : Int32) : Int32 × AS := if inN v σ.1 = false then (-1, σ) else if decide (-9 ≤ x.toInt ∧ x.toInt ≤ 9) = false then (-2, σ) else (σ.2.2.2.1 (iN v) + 100, (σ.1, σ.2.1, σ.2.2.1, upd σ.2.2.2.1 (iN v) x, σ.2.2.2.2))
def opQuo (σ : AS) (x : Int32) : Int32 × AS := if decide (-40 ≤ x.toInt ∧ x.toInt ≤ 40) = false then (-2, σ) else (σ.2.2.2.2 + 100, (σ.1, σ.2.1, σ.2.2.1, σ.2.2.2.1, x))
def setC (σ : AS) (c : Nat) : Int32 × AS := (nI c, (σ.1, c, σ.2.2))
def opWei (σ : AS) : Int32 × AS := setC σ (wgN σ.1 σ.2.2.2.1 σ.2.2.2.2)
def opDua (σ : AS) : Int32 × AS := setC σ (dlN σ.1 σ.2.1)
def opOpp (σ : AS) : Int32 × AS := setC σ (opN σ.1 σ.2.1)
def opTrn (σ : AS) (v : Int32) : Int32 × AS := if inN v σ.1 = false then (-1, σ) else setC σ (tnd σ.1 σ.2.1 (iN v))
def opExc (σ : AS) (i j : Int32) : Int32 × AS := if inN i σ.1 = false ∨ inN j σ.1 = false ∨ i = j then (-1, σ) else setC σ (chN σ.1 σ.2.1 (iN i) (iN j))
def opKeep (σ : AS) : Int32 × AS := (nI σ.2.1, (σ.1, σ.2.1, σ.2.1, σ.2.2.2))
/-- what holds of every core that is come to -/
def okS (σ : AS) : Prop := 2 ≤ σ.1 ∧ σ.1 ≤ 4 ∧ σ.2.1 < 2 ^ 2 ^ σ.1 ∧ σ.2.2.1 < 2 ^ 2 ^ σ.1 ∧ (∀ v, -9 ≤ (σ.2.2.2.1 v).toInt ∧ (σ.2.2.2.1 v).toInt ≤ 9) ∧ (∀ v, σ.1 ≤ v → σ.2.2.2.1 v = 0) ∧ -40 ≤ σ.2.2.2.2.toInt ∧ σ.2.2.2.2.toInt ≤ 40
def hasM (M : MI) (σ : AS) : Prop := M 55 0 = nI σ.1 ∧ M 55 1 = nI σ.2.1 ∧ M 55 2 = nI σ.2.2.1 ∧ M 55 3 = σ.2.2.2.2 ∧ ∀ v, v < 4 → M 55 (4 + v) = σ.2.2.2.1 v
def gRow (σ : AS) (f : Nat → Int32) : Nat → Int32 := fun k => if k = 0 then nI σ.1 else if k = 1 then nI σ.2.1 else if k = 2 then nI σ.2.2.1 else if k = 3 then σ.2.2.2.2 else if k < 8 then σ.2.2.2.1 (k - 4) else f k
def putM (M : MI) (σ : AS) : MI := sr M 55 (gRow σ (M 55))
theorem putM_55 (M : MI) (σ : AS) : putM M σ 55 = gRow σ (M 55) := sr_eq _ _ _
theorem putM_ne {M : MI} {σ : AS} {i : Nat} (h : i ≠ 55) : putM M σ i = M i := sr_ne h
theorem hasM_put (M : MI) (σ : AS) : hasM (putM M σ) σ := by
  refine ⟨?_, ?_, ?_, ?_, fun v hv => ?_⟩
  · rw [putM_55]; rfl
  · rw [putM_55]; rfl
  · rw [putM_55]; rfl
  · rw [putM_55]; rfl
  · rw [putM_55]
    unfold gRow
    rw [if_neg (by omega), if_neg (by omega), if_neg (by omega), if_neg (by omega), if_pos (by omega), show 4 + v - 4 = v by omega]
theorem gRow_eq {M : MI} {σ σ' : AS} {f : Nat → Int32} (h0 : f 0 = nI σ'.1) (h1 : f 1 = nI σ'.2.1) (h2 : f 2 = nI σ'.2.2.1) (h3 : f 3 = σ'.2.2.2.2) (h4 : ∀ v, v < 4 → f (4 + v) = σ'.2.2.2.1 v) (h5 : ∀ k, 8 ≤ k → f k = M 55 k) : sr M 55 f = putM M σ' := by
  unfold putM
  congr 1
  funext k
  unfold gRow
  by_cases e0 : k = 0
  · subst e0; exact h0
  · rw [if_neg e0]
    by_cases e1 : k = 1
    · subst e1; exact h1
    · rw [if_neg e1]
      by_cases e2 : k = 2
      · subst e2; exact h2
      · rw [if_neg e2]
        by_cases e3 : k = 3
        · subst e3; exact h3
        · rw [if_neg e3]
          by_cases e4 : k < 8
          · rw [if_pos e4]
            have := h4 (k - 4) (by omega)
            rwa [show 4 + (k - 4) = k by omega] at this
          · rw [if_neg e4]
            exact h5 k (by omega)
theorem sr_self (M : MI) (i : Nat) : sr M i (M i) = M := by
  funext j
  unfold sr
  by_cases h : j = i
  · rw [if_pos h, h]
  · rw [if_neg h]
theorem putM_self {M : MI} {σ : AS} (h : hasM M σ) : putM M σ = M := by
  rw [← gRow_eq (M := M) (σ := σ) (f := M 55) h.1 h.2.1 h.2.2.1 h.2.2.2.1 h.2.2.2.2 (fun _ _ => rfl)]
  exact sr_self M 55
theorem upd_eq (f : Nat → Int32) (k : Nat) (x : Int32) : upd f k x k = x := if_pos rfl
theorem upd_ne {f : Nat → Int32} {k j : Nat} {x : Int32} (h : j ≠ k) : upd f k x j = f j := if_neg h
theorem putM_c {M : MI} {σ : AS} (h : hasM M σ) (c : Nat) : s1 M 55 1 (nI c) = putM M (σ.1, c, σ.2.2) := by
  refine gRow_eq (σ := σ) ?_ ?_ ?_ ?_ (fun v hv => ?_) (fun k hk => ?_)
  · rw [upd_ne (by omega)]; exact h.1
  · exact upd_eq _ _ _
  · rw [upd_ne (by omega)]; exact h.2.2.1
  · rw [upd_ne (by omega)]; exact h.2.2.2.1
  · rw [upd_ne (by omega)]; exact h.2.2.2.2 v hv
  · rw [upd_ne (by omega)]
theorem putM_k {M : MI} {σ : AS} (h : hasM M σ) (c : Nat) : s1 M 55 2 (nI c) = putM M (σ.1, σ.2.1, c, σ.2.2.2) := by
  refine gRow_eq (σ := σ) ?_ ?_ ?_ ?_ (fun v hv => ?_) (fun k hk => ?_)
  · rw [upd_ne (by omega)]; exact h.1
  · rw [upd_ne (by omega)]; exact h.2.1
  · exact upd_eq _ _ _
  · rw [upd_ne (by omega)]; exact h.2.2.2.1
  · rw [upd_ne (by omega)]; exact h.2.2.2.2 v hv
  · rw [upd_ne (by omega)]
theorem putM_q {M : MI} {σ : AS} (h : hasM M σ) (x : Int32) : s1 M 55 3 x = putM M (σ.1, σ.2.1, σ.2.2.1, σ.2.2.2.1, x) := by
  refine gRow_eq (σ := σ) ?_ ?_ ?_ ?_ (fun v hv => ?_) (fun k hk => ?_)
  · rw [upd_ne (by omega)]; exact h.1
  · rw [upd_ne (by omega)]; exact h.2.1
  · rw [upd_ne (by omega)]; exact h.2.2.1
  · exact upd_eq _ _ _
  · rw [upd_ne (by omega)]; exact h.2.2.2.2 v hv
  · rw [upd_ne (by omega)]
theorem putM_w {M : MI} {σ : AS} (h : hasM M σ) {v : Nat} (hv : v < 4) (x : Int32) : s1 M 55 (4 + v) x = putM M (σ.1, σ.2.1, σ.2.2.1, upd σ.2.2.2.1 v x, σ.2.2.2.2) := by
  refine gRow_eq (σ := σ) ?_ ?_ ?_ ?_ (fun u hu => ?_) (fun k hk => ?_)
  · rw [upd_ne (by omega)]; exact h.1
  · rw [upd_ne (by omega)]; exact h.2.1
  · rw [upd_ne (by omega)]; exact h.2.2.1
  · rw [upd_ne (by omega)]; exact h.2.2.2.1
  · by_cases e : u = v
    · subst e
      rw [upd_eq]; exact (upd_eq _ _ _).symm
    · rw [upd_ne (by omega), h.2.2.2.2 u hu]; exact (upd_ne e).symm
  · rw [upd_ne (by omega)]
theorem wth_congr {w w2 : Nat → Int32} {k : Nat} : ∀ {n : Nat}, (∀ v, v < n → w v = w2 v) → wth w k n = wth w2 k n
  | 0, _ => rfl
  | n + 1, h => by
    unfold wth
    rw [wth_congr (fun v hv => h v (by omega)), h n (by omega)]
theorem wgN_congr {w w2 : Nat → Int32} {n : Nat} {q : Int32} (h : ∀ v, v < n → w v = w2 v) : wgN n w q = wgN n w2 q := bits_congr (fun k _ => by rw [wth_congr h])
theorem in2_of {x : Int32} (h : inN x 2 = true) : ∃ b : Bool, x = bI b := by
  obtain ⟨k, hk, rfl⟩ := inN_of h
  rcases (show k = 0 ∨ k = 1 by omega) with rfl | rfl
  · exact ⟨false, rfl⟩
  · exact ⟨true, rfl⟩
theorem dec_bI (b : Bool) : decide (bI b = 1) = b := by cases b <;> rfl
theorem okp {σ : AS} (h : okS σ) : σ.2.1 < 65536 := by
  have h1 : 2 ^ 2 ^ σ.1 ≤ 65536 := pow16 (pow4 h.2.1)
  have := h.2.2.1
  omega
theorem okp2 {σ : AS} (h : okS σ) : σ.2.2.1 < 65536 := by
  have h1 : 2 ^ 2 ^ σ.1 ≤ 65536 := pow16 (pow4 h.2.1)
  have := h.2.2.2.1
  omega
/-- the model's way to write a bit, as numbers -/
theorem say_m {n c k : Nat} (b : Bool) (h4 : n ≤ 4) (hc : c < 2 ^ 2 ^ n) (hk : k < 2 ^ n) : (nI c &&& (((1 : Int32) <<< (nI k &&& 31)) ^^^ (-1))) ||| (bI b <<< (nI k &&& 31)) = nI (setb n c k b) := by
  have h16 := pow4 h4
  have h65 : 2 ^ 2 ^ n ≤ 65536 := pow16 h16
  rw [sh_1 k (by omega), show (-1 : Int32) = nI (2 ^ 32 - 1) from rfl, fb_xorI, fa_and, bsh b (by omega), fa_or]
  congr 1
  have hs := bits_lt (fun j => if j = k then b else c.testBit j) (2 ^ n)
  have h2k : 2 ^ k < 2 ^ 2 ^ n := Nat.pow_lt_pow_right (by omega) hk
  refine bits_ext (N := 2 ^ n) (Nat.or_lt_two_pow (Nat.lt_of_le_of_lt Nat.and_le_left hc) ?_) hs (fun j hj => ?_)
  · split
    · exact h2k
    · exact Nat.two_pow_pos _
  · unfold setb
    rw [bits_test, Nat.testBit_or, Nat.testBit_and, Nat.testBit_xor, Nat.testBit_two_pow_sub_one]
    by_cases e : j = k
    · subst e
      cases b <;> simp [Nat.testBit_two_pow_self, hj, show j < 32 by omega]
    · have h1 : (2 ^ k).testBit j = false := Nat.testBit_two_pow_of_ne (fun q => e q.symm)
      cases b <;> simp [h1, hj, show j < 32 by omega, e]
def zW (M : MI) (x : Int32) (k : Nat) : MI := sr M 55 (fun j => if j = 0 then x else if j = 1 then 0 else if j = 2 then 0 else if j = 3 then 1 else if 4 ≤ j ∧ j < 4 + k then 0 else M 55 j)
theorem zW_0 (M : MI) (x : Int32) : s1 (s1 (s1 (s1 M 55 0 x) 55 1 0) 55 2 0) 55 3 1 = zW M x 0 := by
  funext i j
  simp only [s1_at]
  unfold zW sr
  by_cases hi : i = 55
  · subst hi
    simp only [true_and, if_true]
    by_cases h3 : j = 3
    · subst h3; rfl
    · by_cases h2 : j = 2
      · subst h2; rfl
      · by_cases h1 : j = 1
        · subst h1; rfl
        · by_cases h0 : j = 0
          · subst h0; rfl
          · simp [h0, h1, h2, h3]
            intro a b; omega
  · simp [hi]
theorem zW_s (M : MI) (x : Int32) (k : Nat) : s1 (zW M x k) 55 (4 + k) 0 = zW M x (k + 1) := by
  funext i j
  rw [s1_at]
  unfold zW sr
  by_cases hi : i = 55
  · subst hi
    simp only [true_and, if_true]
    by_cases e : j = 4 + k
    · subst e
      simp
      intro _ _
      omega
    · by_cases h : 4 ≤ j ∧ j < 4 + k
      · rw [if_neg e]
        have h' : 4 ≤ j ∧ j < 4 + (k + 1) := by omega
        simp [h, h']
      · rw [if_neg e]
        have h' : ¬ (4 ≤ j ∧ j < 4 + (k + 1)) := by omega
        simp only [h, h', if_false]
  · simp [hi]
theorem zW_4 (M : MI) (n : Nat) : zW M (nI n) 4 = putM M (n, 0, 0, fun _ => 0, 1) := by
  unfold zW
  refine gRow_eq (σ := (n, 0, 0, fun _ => 0, 1)) rfl rfl rfl rfl (fun v hv => ?_) (fun k hk => ?_)
  · rw [if_neg (by omega), if_neg (by omega), if_neg (by omega), if_neg (by omega), if_pos (by omega)]
  · rw [if_neg (by omega), if_neg (by omega), if_neg (by omega), if_neg (by omega), if_neg (by omega)]
set_option maxRecDepth 100000 in
set_option maxHeartbeats 4000000 in
theorem c_X10_starts {g : GC} {d : Nat} {M : MI} {L : ML} {k : Nat} : CfV g (d) yX10_starts cX10_starts 3 [rf g 54, .int (nI k)] M L (putM M (k, 0, 0, fun _ => 0, 1)) (L) := by
  refine cfV_of (own := RX10) (l := [some (rf g 54), some (.int (nI k)), none]) 1 rfl rfl rfl (Nat.le_of_ble_eq_true rfl) ?_
  refine tm_aload_0 1 rfl dX10_starts_0 ?_
  refine tm_getr fl_X10_11 rfl rfl 4 rfl dX10_starts_1 ?_
  refine tm_iconst (0) rfl 5 rfl dX10_starts_4 ?_
  refine tm_iload_1 6 rfl dX10_starts_5 ?_
  refine tm_ast rfl (ix := 0) ⟨by decide, by decide, by decide⟩ 7 rfl dX10_starts_6 ?_
  refine tm_aload_0 8 rfl dX10_starts_7 ?_
  refine tm_getr fl_X10_11 rfl rfl 11 rfl dX10_starts_8 ?_
  refine tm_iconst (1) rfl 12 rfl dX10_starts_11 ?_
  refine tm_iconst (0) rfl 13 rfl dX10_starts_12 ?_
  refine tm_ast rfl (ix := 1) ⟨by decide, by decide, by decide⟩ 14 rfl dX10_starts_13 ?_
  refine tm_aload_0 15 rfl dX10_starts_14 ?_
  refine tm_getr fl_X10_11 rfl rfl 18 rfl dX10_starts_15 ?_
  refine tm_iconst (2) rfl 19 rfl dX10_starts_18 ?_
  refine tm_iconst (0) rfl 20 rfl dX10_starts_19 ?_
  refine tm_ast rfl (ix := 2) ⟨by decide, by decide, by decide⟩ 21 rfl dX10_starts_20 ?_
  refine tm_aload_0 22 rfl dX10_starts_21 ?_
  refine tm_getr fl_X10_11 rfl rfl 25 rfl dX10_starts_22 ?_
  refine tm_iconst (3) rfl 26 rfl dX10_starts_25 ?_
  refine tm_iconst (1) rfl 27 rfl dX10_starts_26 ?_
  refine tm_ast rfl (ix := 3) ⟨by decide, by decide, by decide⟩ 28 rfl dX10_starts_27 ?_
  rw [zW_0]
  refine tm_iconst (0) rfl 29 rfl dX10_starts_28 ?_
  refine tm_istore_2 (by decide) rfl 30 rfl dX10_starts_29 ?_
  refine tm_loop (N := 4) (fun v => Tm g (d) RX10 cX10_starts 3 none (QV g (putM M (k, 0, 0, fun _ => 0, 1)) (L)) 30 [some (rf g 54), some (.int (nI k)), some (.int (nI v))] [] (zW M (nI k) v) (L)) (fun v hv ih => ?_) ?_
  · refine tm_iload_2 31 rfl dX10_starts_30 ?_
    refine tm_iconst (4) rfl 32 rfl dX10_starts_31 ?_
    refine tm_icmp_ge_f 35 (nI_ge hv (by decide)) rfl rfl dX10_starts_32 ?_
    refine tm_aload_0 36 rfl dX10_starts_35 ?_
    refine tm_getr fl_X10_11 rfl rfl 39 rfl dX10_starts_36 ?_
    refine tm_iconst (4) rfl 40 rfl dX10_starts_39 ?_
    refine tm_iload_2 41 rfl dX10_starts_40 ?_
    refine tm_iadd 42 rfl dX10_starts_41 ?_
    refine tm_iconst (0) rfl 43 rfl dX10_starts_42 ?_
    rw [show (4 : Int32) = nI 4 from rfl, nI_add]
    refine tm_ast rfl (ix := 4 + v) (ix_nI (by omega) (by decide)) 44 rfl dX10_starts_43 ?_
    refine tm_iinc_2 (nI (v + 1)) (iinc1 v) (by decide) rfl 47 rfl dX10_starts_44 ?_
    refine tm_goto 30 rfl dX10_starts_47 ?_
    rw [zW_s]
    exact ih
  · refine tm_iload_2 31 rfl dX10_starts_30 ?_
    refine tm_iconst (4) rfl 32 rfl dX10_starts_31 ?_
    refine tm_icmp_ge_t 50 (nI_le (Nat.le_refl 4) (by decide)) rfl dX10_starts_32 ?_
    exact tm_vret (zW_4 M k) rfl dX10_starts_50

theorem vot_1 {σ : AS} {x : Int32} (h : btw x.toInt64 2 4 = false) : opVot σ x = (-2, σ) := by
  rw [btw_ab 2 4 rfl rfl] at h
  unfold opVot
  rw [h]; rfl
theorem vot_2 {σ : AS} {x : Int32} (h : btw x.toInt64 2 4 = true) : ∃ k, 2 ≤ k ∧ k ≤ 4 ∧ x = nI k ∧ opVot σ x = (nI σ.1, (k, 0, 0, fun _ => 0, 1)) := by
  rw [btw_ab 2 4 rfl rfl] at h
  have h1 := of_decide_eq_true h
  refine ⟨iN x, by unfold iN; omega, by unfold iN; omega, ?_, ?_⟩
  · rw [fa_eq, nI_toInt (by unfold iN; omega)]; unfold iN; omega
  · unfold opVot
    rw [h]; rfl
set_option maxRecDepth 100000 in
set_option maxHeartbeats 4000000 in
theorem c_X10_voters {g : GC} {d : Nat} {M : MI} {L : ML} {σ : AS} (hM : hasM M σ) (hσ : okS σ) {x : Int32} : CfI g (d + 1) yX10_voters cX10_voters 3 .int [rf g 54, .int x] M L ((opVot σ x).1) (putM M (opVot σ x).2) (L) := by
  have hn := hM.1
  have h4 := hσ.2.1
  have h16 := pow4 h4
  have hp1 := Nat.two_pow_pos σ.1
  have hc := okp hσ
  refine cfI_of (own := RX10) (l := [some (rf g 54), some (.int x), none]) 1 rfl rfl rfl (Nat.le_of_ble_eq_true rfl) ?_
  refine tm_iload_1 1 rfl dX10_voters_0 ?_
  refine tm_i2l 2 rfl dX10_voters_1 ?_
  refine tm_ldc2 kl_X10_64 5 rfl dX10_voters_2 ?_
  refine tm_ldc2 kl_X10_66 8 rfl dX10_voters_5 ?_
  refine tm_callS_I (c_X10_in) ms_X10_in ml_X10_60 rfl rfl (Nat.le_of_ble_eq_true rfl) 11 rfl dX10_voters_8 ?_
  refine tm_if_neB 17 14 rfl rfl dX10_voters_11 (fun h11 => ?_) (fun h11 => ?_)
  · obtain ⟨k, hk1, hk2, rfl, hop⟩ := vot_2 (σ := σ) h11
    refine tm_aload_0 18 rfl dX10_voters_17 ?_
    refine tm_getr fl_X10_11 rfl rfl 21 rfl dX10_voters_18 ?_
    refine tm_iconst (0) rfl 22 rfl dX10_voters_21 ?_
    refine tm_ald rfl (ix := 0) ⟨by decide, by decide, by decide⟩ 23 rfl dX10_voters_22 ?_
    refine tm_istore_2 (by decide) rfl 24 rfl dX10_voters_23 ?_
    rw [hn]
    refine tm_aload_0 25 rfl dX10_voters_24 ?_
    refine tm_iload_1 26 rfl dX10_voters_25 ?_
    refine tm_callV_V (ci := 9) (c_X10_starts) mv_X10_starts ml_X10_52 rfl rfl rfl rfl rfl (Nat.le_of_ble_eq_true rfl) 29 rfl dX10_voters_26 ?_
    refine tm_iload_2 30 rfl dX10_voters_29 ?_
    exact tm_iret (by rw [hop]) (by rw [hop]) rfl dX10_voters_30
  · refine tm_bipush (-2) (by decide) 16 rfl dX10_voters_14 ?_
    exact tm_iret (by rw [vot_1 h11]) (by rw [vot_1 h11]; exact (putM_self hM).symm) rfl dX10_voters_16

theorem say_1 {σ : AS} {lot is : Int32} (h : inN lot (2 ^ σ.1) = false) : opSay σ lot is = (-1, σ) := by unfold opSay; rw [if_pos h]
theorem say_2 {σ : AS} {lot is : Int32} (h : inN lot (2 ^ σ.1) = true) (h2 : inN is 2 = false) : opSay σ lot is = (-2, σ) := by unfold opSay; rw [if_neg (by rw [h]; decide), if_pos h2]
theorem say_3 {σ : AS} {k : Nat} {b : Bool} (hk : k < 2 ^ 31) (h : inN (nI k) (2 ^ σ.1) = true) (h2 : inN (bI b) 2 = true) : opSay σ (nI k) (bI b) = (bI (σ.2.1.testBit k), (σ.1, setb σ.1 σ.2.1 k b, σ.2.2)) := by unfold opSay; rw [if_neg (by rw [h]; decide), if_neg (by rw [h2]; decide), iN_nI hk, dec_bI]
set_option maxRecDepth 100000 in
set_option maxHeartbeats 4000000 in
theorem c_X10_say {g : GC} {d : Nat} {M : MI} {L : ML} {σ : AS} (hM : hasM M σ) (hσ : okS σ) {x y : Int32} : CfI g (d + 2) yX10_say cX10_say 4 .int [rf g 54, .int x, .int y] M L ((opSay σ x y).1) (putM M (opSay σ x y).2) (L) := by
  have hn := hM.1
  have h4 := hσ.2.1
  have h16 := pow4 h4
  have hp1 := Nat.two_pow_pos σ.1
  have hc := okp hσ
  refine cfI_of (own := RX10) (l := [some (rf g 54), some (.int x), some (.int y), none]) 1 rfl rfl rfl (Nat.le_of_ble_eq_true rfl) ?_
  refine tm_aload_0 1 rfl dX10_say_0 ?_
  refine tm_iload_1 2 rfl dX10_say_1 ?_
  refine tm_callV_I (ci := 9) (c_X10_isLot hn h4) mv_X10_isLot ml_X10_68 rfl rfl rfl rfl rfl (Nat.le_of_ble_eq_true rfl) 5 rfl dX10_say_2 ?_
  refine tm_if_neB 10 8 rfl rfl dX10_say_5 (fun h5 => ?_) (fun h5 => ?_)
  · refine tm_iload_2 11 rfl dX10_say_10 ?_
    refine tm_i2l 12 rfl dX10_say_11 ?_
    refine tm_lconst 0 rfl 13 rfl dX10_say_12 ?_
    refine tm_lconst 1 rfl 14 rfl dX10_say_13 ?_
    refine tm_callS_I (c_X10_in) ms_X10_in ml_X10_60 rfl rfl (Nat.le_of_ble_eq_true rfl) 17 rfl dX10_say_14 ?_
    rw [btw_in (N := 2) rfl]
    refine tm_if_neB 23 20 rfl rfl dX10_say_17 (fun h17 => ?_) (fun h17 => ?_)
    · obtain ⟨k, hk, rfl⟩ := inN_of h5
      obtain ⟨b, rfl⟩ := in2_of h17
      refine tm_aload_0 24 rfl dX10_say_23 ?_
      refine tm_getr fl_X10_11 rfl rfl 27 rfl dX10_say_24 ?_
      refine tm_iconst (1) rfl 28 rfl dX10_say_27 ?_
      refine tm_ald rfl (ix := 1) ⟨by decide, by decide, by decide⟩ 29 rfl dX10_say_28 ?_
      refine tm_iload_1 30 rfl dX10_say_29 ?_
      refine tm_ishr 31 rfl dX10_say_30 ?_
      refine tm_iconst (1) rfl 32 rfl dX10_say_31 ?_
      refine tm_iand 33 rfl dX10_say_32 ?_
      rw [hM.2.1, bit_1 (by omega) (by omega)]
      refine tm_istore_3 (by decide) rfl 34 rfl dX10_say_33 ?_
      refine tm_aload_0 35 rfl dX10_say_34 ?_
      refine tm_getr fl_X10_11 rfl rfl 38 rfl dX10_say_35 ?_
      refine tm_iconst (1) rfl 39 rfl dX10_say_38 ?_
      refine tm_aload_0 40 rfl dX10_say_39 ?_
      refine tm_getr fl_X10_11 rfl rfl 43 rfl dX10_say_40 ?_
      refine tm_iconst (1) rfl 44 rfl dX10_say_43 ?_
      refine tm_ald rfl (ix := 1) ⟨by decide, by decide, by decide⟩ 45 rfl dX10_say_44 ?_
      refine tm_iconst (1) rfl 46 rfl dX10_say_45 ?_
      refine tm_iload_1 47 rfl dX10_say_46 ?_
      refine tm_ishl 48 rfl dX10_say_47 ?_
      refine tm_iconst (-1) rfl 49 rfl dX10_say_48 ?_
      refine tm_ixor 50 rfl dX10_say_49 ?_
      refine tm_iand 51 rfl dX10_say_50 ?_
      refine tm_iload_2 52 rfl dX10_say_51 ?_
      refine tm_iload_1 53 rfl dX10_say_52 ?_
      refine tm_ishl 54 rfl dX10_say_53 ?_
      refine tm_ior 55 rfl dX10_say_54 ?_
      rw [hM.2.1, say_m b h4 hσ.2.2.1 hk]
      refine tm_ast rfl (ix := 1) ⟨by decide, by decide, by decide⟩ 56 rfl dX10_say_55 ?_
      refine tm_iload_3 57 rfl dX10_say_56 ?_
      exact tm_iret (by rw [say_3 (by omega) h5 h17]) (by rw [say_3 (by omega) h5 h17]; exact putM_c hM _) rfl dX10_say_57
    · refine tm_bipush (-2) (by decide) 22 rfl dX10_say_20 ?_
      exact tm_iret (by rw [say_2 h5 h17]) (by rw [say_2 h5 h17]; exact (putM_self hM).symm) rfl dX10_say_22
  · refine tm_iconst (-1) rfl 9 rfl dX10_say_8 ?_
    exact tm_iret (by rw [say_1 h5]) (by rw [say_1 h5]; exact (putM_self hM).symm) rfl dX10_say_9

theorem cod_1 {σ : AS} {x : Int32} (h : inN x (2 ^ 2 ^ σ.1) = false) : opCode σ x = (-2, σ) := by unfold opCode; rw [if_pos h]
theorem cod_2 {σ : AS} {k : Nat} (hk : k < 2 ^ 31) (h : inN (nI k) (2 ^ 2 ^ σ.1) = true) : opCode σ (nI k) = (nI σ.2.1, (σ.1, k, σ.2.2)) := by unfold opCode; rw [if_neg (by rw [h]; decide), iN_nI hk]
theorem mst_1 {N : Nat} (h : 1 ≤ N) (h2 : N ≤ 65536) : ((nI (N - 1)).toInt64).toInt = (N : Int) - 1 := by rw [Int32.toInt_toInt64, nI_toInt (by omega)]; omega
theorem p65 {n : Nat} (h : n ≤ 4) : 2 ^ 2 ^ n ≤ 65536 := pow16 (pow4 h)
set_option maxRecDepth 100000 in
set_option maxHeartbeats 4000000 in
theorem c_X10_code {g : GC} {d : Nat} {M : MI} {L : ML} {σ : AS} (hM : hasM M σ) (hσ : okS σ) {x : Int32} : CfI g (d + 2) yX10_code cX10_code 3 .int [rf g 54, .int x] M L ((opCode σ x).1) (putM M (opCode σ x).2) (L) := by
  have hn := hM.1
  have h4 := hσ.2.1
  have h16 := pow4 h4
  have hp1 := Nat.two_pow_pos σ.1
  have hc := okp hσ
  have h65 := p65 h4
  refine cfI_of (own := RX10) (l := [some (rf g 54), some (.int x), none]) 1 rfl rfl rfl (Nat.le_of_ble_eq_true rfl) ?_
  refine tm_iload_1 1 rfl dX10_code_0 ?_
  refine tm_i2l 2 rfl dX10_code_1 ?_
  refine tm_lconst 0 rfl 3 rfl dX10_code_2 ?_
  refine tm_aload_0 4 rfl dX10_code_3 ?_
  refine tm_callV_I (ci := 9) (c_X10_most hn h4) mv_X10_most ml_X10_72 rfl rfl rfl rfl rfl (Nat.le_of_ble_eq_true rfl) 7 rfl dX10_code_4 ?_
  refine tm_i2l 8 rfl dX10_code_7 ?_
  refine tm_callS_I (c_X10_in) ms_X10_in ml_X10_60 rfl rfl (Nat.le_of_ble_eq_true rfl) 11 rfl dX10_code_8 ?_
  rw [btw_in (N := 2 ^ 2 ^ σ.1) (mst_1 (Nat.two_pow_pos _) h65)]
  refine tm_if_neB 17 14 rfl rfl dX10_code_11 (fun h11 => ?_) (fun h11 => ?_)
  · obtain ⟨k, hk, rfl⟩ := inN_of h11
    refine tm_aload_0 18 rfl dX10_code_17 ?_
    refine tm_getr fl_X10_11 rfl rfl 21 rfl dX10_code_18 ?_
    refine tm_iconst (1) rfl 22 rfl dX10_code_21 ?_
    refine tm_ald rfl (ix := 1) ⟨by decide, by decide, by decide⟩ 23 rfl dX10_code_22 ?_
    rw [hM.2.1]
    refine tm_istore_2 (by decide) rfl 24 rfl dX10_code_23 ?_
    refine tm_aload_0 25 rfl dX10_code_24 ?_
    refine tm_getr fl_X10_11 rfl rfl 28 rfl dX10_code_25 ?_
    refine tm_iconst (1) rfl 29 rfl dX10_code_28 ?_
    refine tm_iload_1 30 rfl dX10_code_29 ?_
    refine tm_ast rfl (ix := 1) ⟨by decide, by decide, by decide⟩ 31 rfl dX10_code_30 ?_
    refine tm_iload_2 32 rfl dX10_code_31 ?_
    exact tm_iret (by rw [cod_2 (by omega) h11]) (by rw [cod_2 (by omega) h11]; exact putM_c hM _) rfl dX10_code_32
  · refine tm_bipush (-2) (by decide) 16 rfl dX10_code_14 ?_
    exact tm_iret (by rw [cod_1 h11]) (by rw [cod_1 h11]; exact (putM_self hM).symm) rfl dX10_code_16

theorem wgt_1 {σ : AS} {v x : Int32} (h : inN v σ.1 = false) : opWgt σ v x = (-1, σ) := by unfold opWgt; rw [if_pos h]
theorem wgt_2 {σ : AS} {v x : Int32} (h : inN v σ.1 = true) (h2 : decide (-9 ≤ x.toInt ∧ x.toInt ≤ 9) = false) : opWgt σ v x = (-2, σ) := by unfold opWgt; rw [if_neg (by rw [h]; decide), if_pos h2]
theorem wgt_3 {σ : AS} {k : Nat} {x : Int32} (hk : k < 2 ^ 31) (h : inN (nI k) σ.1 = true) (h2 : decide (-9 ≤ x.toInt ∧ x.toInt ≤ 9) = true) : opWgt σ (nI k) x = (σ.2.2.2.1 k + 100, (σ.1, σ.2.1, σ.2.2.1, upd σ.2.2.2.1 k x, σ.2.2.2.2)) := by unfold opWgt; rw [if_neg (by rw [h]; decide), if_neg (by rw [h2]; decide), iN_nI hk]
theorem quo_1 {σ : AS} {x : Int32} (h2 : decide (-40 ≤ x.toInt ∧ x.toInt ≤ 40) = false) : opQuo σ x = (-2, σ) := by unfold opQuo; rw [if_pos h2]
theorem quo_2 {σ : AS} {x : Int32} (h2 : decide (-40 ≤ x.toInt ∧ x.toInt ≤ 40) = true) : opQuo σ x = (σ.2.2.2.2 + 100, (σ.1, σ.2.1, σ.2.2.1, σ.2.2.2.1, x)) := by unfold opQuo; rw [if_neg (by rw [h2]; decide)]
set_option maxRecDepth 100000 in
set_option maxHeartbeats 4000000 in
theorem c_X10_weight {g : GC} {d : Nat} {M : MI} {L : ML} {σ : AS} (hM : hasM M σ) (hσ : okS σ) {v x : Int32} : CfI g (d + 2) yX10_weight cX10_weight 4 .int [rf g 54, .int v, .int x] M L ((opWgt σ v x).1) (putM M (opWgt σ v x).2) (L) := by
  have hn := hM.1
  have h4 := hσ.2.1
  have h16 := pow4 h4
  have hp1 := Nat.two_pow_pos σ.1
  have hc := okp hσ
  refine cfI_of (own := RX10) (l := [some (rf g 54), some (.int v), some (.int x), none]) 1 rfl rfl rfl (Nat.le_of_ble_eq_true rfl) ?_
  refine tm_aload_0 1 rfl dX10_weight_0 ?_
  refine tm_iload_1 2 rfl dX10_weight_1 ?_
  refine tm_callV_I (ci := 9) (c_X10_isVoter hn h4 (by have := hσ.1; omega)) mv_X10_isVoter ml_X10_75 rfl rfl rfl rfl rfl (Nat.le_of_ble_eq_true rfl) 5 rfl dX10_weight_2 ?_
  refine tm_if_neB 10 8 rfl rfl dX10_weight_5 (fun h5 => ?_) (fun h5 => ?_)
  · refine tm_iload_2 11 rfl dX10_weight_10 ?_
    refine tm_i2l 12 rfl dX10_weight_11 ?_
    refine tm_ldc2 kl_X10_78 15 rfl dX10_weight_12 ?_
    refine tm_ldc2 kl_X10_80 18 rfl dX10_weight_15 ?_
    refine tm_callS_I (c_X10_in) ms_X10_in ml_X10_60 rfl rfl (Nat.le_of_ble_eq_true rfl) 21 rfl dX10_weight_18 ?_
    rw [btw_ab (-9) 9 rfl rfl]
    refine tm_if_neB 27 24 rfl rfl dX10_weight_21 (fun h21 => ?_) (fun h21 => ?_)
    · obtain ⟨k, hk, rfl⟩ := inN_of h5
      refine tm_aload_0 28 rfl dX10_weight_27 ?_
      refine tm_getr fl_X10_11 rfl rfl 31 rfl dX10_weight_28 ?_
      refine tm_iconst (4) rfl 32 rfl dX10_weight_31 ?_
      refine tm_iload_1 33 rfl dX10_weight_32 ?_
      refine tm_iadd 34 rfl dX10_weight_33 ?_
      rw [show (4 : Int32) = nI 4 from rfl, nI_add]
      refine tm_ald rfl (ix := 4 + k) (ix_nI (by omega) (by decide)) 35 rfl dX10_weight_34 ?_
      rw [hM.2.2.2.2 k (by omega)]
      refine tm_istore_3 (by decide) rfl 36 rfl dX10_weight_35 ?_
      refine tm_aload_0 37 rfl dX10_weight_36 ?_
      refine tm_getr fl_X10_11 rfl rfl 40 rfl dX10_weight_37 ?_
      refine tm_iconst (4) rfl 41 rfl dX10_weight_40 ?_
      refine tm_iload_1 42 rfl dX10_weight_41 ?_
      refine tm_iadd 43 rfl dX10_weight_42 ?_
      rw [show (4 : Int32) = nI 4 from rfl, nI_add]
      refine tm_iload_2 44 rfl dX10_weight_43 ?_
      refine tm_ast rfl (ix := 4 + k) (ix_nI (by omega) (by decide)) 45 rfl dX10_weight_44 ?_
      refine tm_iload_3 46 rfl dX10_weight_45 ?_
      refine tm_bipush (100) (by decide) 48 rfl dX10_weight_46 ?_
      refine tm_iadd 49 rfl dX10_weight_48 ?_
      exact tm_iret (by rw [wgt_3 (by omega) h5 h21]) (by rw [wgt_3 (by omega) h5 h21]; exact putM_w hM (by omega) _) rfl dX10_weight_49
    · refine tm_bipush (-2) (by decide) 26 rfl dX10_weight_24 ?_
      exact tm_iret (by rw [wgt_2 h5 h21]) (by rw [wgt_2 h5 h21]; exact (putM_self hM).symm) rfl dX10_weight_26
  · refine tm_iconst (-1) rfl 9 rfl dX10_weight_8 ?_
    exact tm_iret (by rw [wgt_1 h5]) (by rw [wgt_1 h5]; exact (putM_self hM).symm) rfl dX10_weight_9

set_option maxRecDepth 100000 in
set_option maxHeartbeats 4000000 in
theorem c_X10_quota {g : GC} {d : Nat} {M : MI} {L : ML} {σ : AS} (hM : hasM M σ) (hσ : okS σ) {x : Int32} : CfI g (d + 1) yX10_quota cX10_quota 3 .int [rf g 54, .int x] M L ((opQuo σ x).1) (putM M (opQuo σ x).2) (L) := by
  have hn := hM.1
  have h4 := hσ.2.1
  have h16 := pow4 h4
  have hp1 := Nat.two_pow_pos σ.1
  have hc := okp hσ
  refine cfI_of (own := RX10) (l := [some (rf g 54), some (.int x), none]) 1 rfl rfl rfl (Nat.le_of_ble_eq_true rfl) ?_
  refine tm_iload_1 1 rfl dX10_quota_0 ?_
  refine tm_i2l 2 rfl dX10_quota_1 ?_
  refine tm_ldc2 kl_X10_82 5 rfl dX10_quota_2 ?_
  refine tm_ldc2 kl_X10_84 8 rfl dX10_quota_5 ?_
  refine tm_callS_I (c_X10_in) ms_X10_in ml_X10_60 rfl rfl (Nat.le_of_ble_eq_true rfl) 11 rfl dX10_quota_8 ?_
  rw [btw_ab (-40) 40 rfl rfl]
  refine tm_if_neB 17 14 rfl rfl dX10_quota_11 (fun h11 => ?_) (fun h11 => ?_)
  · refine tm_aload_0 18 rfl dX10_quota_17 ?_
    refine tm_getr fl_X10_11 rfl rfl 21 rfl dX10_quota_18 ?_
    refine tm_iconst (3) rfl 22 rfl dX10_quota_21 ?_
    refine tm_ald rfl (ix := 3) ⟨by decide, by decide, by decide⟩ 23 rfl dX10_quota_22 ?_
    rw [hM.2.2.2.1]
    refine tm_istore_2 (by decide) rfl 24 rfl dX10_quota_23 ?_
    refine tm_aload_0 25 rfl dX10_quota_24 ?_
    refine tm_getr fl_X10_11 rfl rfl 28 rfl dX10_quota_25 ?_
    refine tm_iconst (3) rfl 29 rfl dX10_quota_28 ?_
    refine tm_iload_1 30 rfl dX10_quota_29 ?_
    refine tm_ast rfl (ix := 3) ⟨by decide, by decide, by decide⟩ 31 rfl dX10_quota_30 ?_
    refine tm_iload_2 32 rfl dX10_quota_31 ?_
    refine tm_bipush (100) (by decide) 34 rfl dX10_quota_32 ?_
    refine tm_iadd 35 rfl dX10_quota_34 ?_
    exact tm_iret (by rw [quo_2 h11]) (by rw [quo_2 h11]; exact putM_q hM _) rfl dX10_quota_35
  · refine tm_bipush (-2) (by decide) 16 rfl dX10_quota_14 ?_
    exact tm_iret (by rw [quo_1 h11]) (by rw [quo_1 h11]; exact (putM_self hM).symm) rfl dX10_quota_16

set_option maxRecDepth 100000 in
set_option maxHeartbeats 4000000 in
theorem c_X10_weigh {g : GC} {d : Nat} {M : MI} {L : ML} {σ : AS} (hM : hasM M σ) (hσ : okS σ) : CfI g (d + 2) yX10_weigh cX10_weigh 1 .int [rf g 54] M L ((opWei σ).1) (putM M (opWei σ).2) (L) := by
  have hn := hM.1
  have h4 := hσ.2.1
  have h16 := pow4 h4
  have hp1 := Nat.two_pow_pos σ.1
  have hc := okp hσ
  refine cfI_of (own := RX10) (l := [some (rf g 54)]) 0 rfl rfl rfl (Nat.le_of_ble_eq_true rfl) ?_
  refine tm_aload_0 1 rfl dX10_weigh_0 ?_
  refine tm_getr fl_X10_11 rfl rfl 4 rfl dX10_weigh_1 ?_
  refine tm_iconst (1) rfl 5 rfl dX10_weigh_4 ?_
  refine tm_aload_0 6 rfl dX10_weigh_5 ?_
  refine tm_callV_I (ci := 9) (c_X10_weighed hn h4) mv_X10_weighed ml_X10_94 rfl rfl rfl rfl rfl (Nat.le_of_ble_eq_true rfl) 9 rfl dX10_weigh_6 ?_
  rw [wgN_congr (w2 := σ.2.2.2.1) (fun v hv => hM.2.2.2.2 v (by omega)), hM.2.2.2.1]
  refine tm_ast rfl (ix := 1) ⟨by decide, by decide, by decide⟩ 10 rfl dX10_weigh_9 ?_
  rw [putM_c hM]
  refine tm_aload_0 11 rfl dX10_weigh_10 ?_
  refine tm_getr fl_X10_11 rfl rfl 14 rfl dX10_weigh_11 ?_
  refine tm_iconst (1) rfl 15 rfl dX10_weigh_14 ?_
  refine tm_ald rfl (ix := 1) ⟨by decide, by decide, by decide⟩ 16 rfl dX10_weigh_15 ?_
  exact tm_iret (by rw [putM_55]; rfl) rfl rfl dX10_weigh_16

set_option maxRecDepth 100000 in
set_option maxHeartbeats 4000000 in
theorem c_X10_keep {g : GC} {d : Nat} {M : MI} {L : ML} {σ : AS} (hM : hasM M σ) (hσ : okS σ) : CfI g (d) yX10_keep cX10_keep 1 .int [rf g 54] M L ((opKeep σ).1) (putM M (opKeep σ).2) (L) := by
  have hn := hM.1
  have h4 := hσ.2.1
  have h16 := pow4 h4
  have hp1 := Nat.two_pow_pos σ.1
  have hc := okp hσ
  refine cfI_of (own := RX10) (l := [some (rf g 54)]) 0 rfl rfl rfl (Nat.le_of_ble_eq_true rfl) ?_
  refine tm_aload_0 1 rfl dX10_keep_0 ?_
  refine tm_getr fl_X10_11 rfl rfl 4 rfl dX10_keep_1 ?_
  refine tm_iconst (2) rfl 5 rfl dX10_keep_4 ?_
  refine tm_aload_0 6 rfl dX10_keep_5 ?_
  refine tm_getr fl_X10_11 rfl rfl 9 rfl dX10_keep_6 ?_
  refine tm_iconst (1) rfl 10 rfl dX10_keep_9 ?_
  refine tm_ald rfl (ix := 1) ⟨by decide, by decide, by decide⟩ 11 rfl dX10_keep_10 ?_
  rw [hM.2.1]
  refine tm_ast rfl (ix := 2) ⟨by decide, by decide, by decide⟩ 12 rfl dX10_keep_11 ?_
  rw [putM_k hM]
  refine tm_aload_0 13 rfl dX10_keep_12 ?_
  refine tm_getr fl_X10_11 rfl rfl 16 rfl dX10_keep_13 ?_
  refine tm_iconst (1) rfl 17 rfl dX10_keep_16 ?_
  refine tm_ald rfl (ix := 1) ⟨by decide, by decide, by decide⟩ 18 rfl dX10_keep_17 ?_
  exact tm_iret (by rw [putM_55]; rfl) rfl rfl dX10_keep_18

theorem trn_1 {σ : AS} {v : Int32} (h : inN v σ.1 = false) : opTrn σ v = (-1, σ) := by unfold opTrn; rw [if_pos h]
theorem trn_2 {σ : AS} {k : Nat} (hk : k < 2 ^ 31) (h : inN (nI k) σ.1 = true) : opTrn σ (nI k) = (nI (tnd σ.1 σ.2.1 k), (σ.1, tnd σ.1 σ.2.1 k, σ.2.2)) := by unfold opTrn; rw [if_neg (by rw [h]; decide), iN_nI hk]; rfl
theorem exc_1 {σ : AS} {i j : Int32} (h : inN i σ.1 = false ∨ inN j σ.1 = false ∨ i = j) : opExc σ i j = (-1, σ) := by unfold opExc; rw [if_pos h]
theorem exc_2 {σ : AS} {i j : Nat} (hi : i < 2 ^ 31) (hj : j < 2 ^ 31) (h : inN (nI i) σ.1 = true) (h2 : inN (nI j) σ.1 = true) (h3 : ¬ nI i = nI j) : opExc σ (nI i) (nI j) = (nI (chN σ.1 σ.2.1 i j), (σ.1, chN σ.1 σ.2.1 i j, σ.2.2)) := by
  unfold opExc
  rw [if_neg (by rw [h, h2]; simp [h3]), iN_nI hi, iN_nI hj]; rfl
set_option maxRecDepth 100000 in
set_option maxHeartbeats 4000000 in
theorem c_X10_turn {g : GC} {d : Nat} {M : MI} {L : ML} {σ : AS} (hM : hasM M σ) (hσ : okS σ) {x : Int32} : CfI g (d + 2) yX10_turn cX10_turn 2 .int [rf g 54, .int x] M L ((opTrn σ x).1) (putM M (opTrn σ x).2) (L) := by
  have hn := hM.1
  have h4 := hσ.2.1
  have h16 := pow4 h4
  have hp1 := Nat.two_pow_pos σ.1
  have hc := okp hσ
  refine cfI_of (own := RX10) (l := [some (rf g 54), some (.int x)]) 0 rfl rfl rfl (Nat.le_of_ble_eq_true rfl) ?_
  refine tm_aload_0 1 rfl dX10_turn_0 ?_
  refine tm_iload_1 2 rfl dX10_turn_1 ?_
  refine tm_callV_I (ci := 9) (c_X10_isVoter hn h4 (by have := hσ.1; omega)) mv_X10_isVoter ml_X10_75 rfl rfl rfl rfl rfl (Nat.le_of_ble_eq_true rfl) 5 rfl dX10_turn_2 ?_
  refine tm_if_neB 10 8 rfl rfl dX10_turn_5 (fun h5 => ?_) (fun h5 => ?_)
  · obtain ⟨k, hk, rfl⟩ := inN_of h5
    refine tm_aload_0 11 rfl dX10_turn_10 ?_
    refine tm_getr fl_X10_11 rfl rfl 14 rfl dX10_turn_11 ?_
    refine tm_iconst (1) rfl 15 rfl dX10_turn_14 ?_
    refine tm_aload_0 16 rfl dX10_turn_15 ?_
    refine tm_aload_0 17 rfl dX10_turn_16 ?_
    refine tm_getr fl_X10_11 rfl rfl 20 rfl dX10_turn_17 ?_
    refine tm_iconst (1) rfl 21 rfl dX10_turn_20 ?_
    refine tm_ald rfl (ix := 1) ⟨by decide, by decide, by decide⟩ 22 rfl dX10_turn_21 ?_
    rw [hM.2.1]
    refine tm_iload_1 23 rfl dX10_turn_22 ?_
    refine tm_callV_I (ci := 9) (c_X10_turned hn h4 (c := σ.2.1) (by omega) hk) mv_X10_turned ml_X10_110 rfl rfl rfl rfl rfl (Nat.le_of_ble_eq_true rfl) 26 rfl dX10_turn_23 ?_
    refine tm_ast rfl (ix := 1) ⟨by decide, by decide, by decide⟩ 27 rfl dX10_turn_26 ?_
    rw [putM_c hM]
    refine tm_aload_0 28 rfl dX10_turn_27 ?_
    refine tm_getr fl_X10_11 rfl rfl 31 rfl dX10_turn_28 ?_
    refine tm_iconst (1) rfl 32 rfl dX10_turn_31 ?_
    refine tm_ald rfl (ix := 1) ⟨by decide, by decide, by decide⟩ 33 rfl dX10_turn_32 ?_
    exact tm_iret (by rw [trn_2 (by omega) h5, putM_55]; rfl) (by rw [trn_2 (by omega) h5]) rfl dX10_turn_33
  · refine tm_iconst (-1) rfl 9 rfl dX10_turn_8 ?_
    exact tm_iret (by rw [trn_1 h5]) (by rw [trn_1 h5]; exact (putM_self hM).symm) rfl dX10_turn_9

set_option maxRecDepth 100000 in
set_option maxHeartbeats 4000000 in
theorem c_X10_exchange {g : GC} {d : Nat} {M : MI} {L : ML} {σ : AS} (hM : hasM M σ) (hσ : okS σ) {x y : Int32} : CfI g (d + 2) yX10_exchange cX10_exchange 3 .int [rf g 54, .int x, .int y] M L ((opExc σ x y).1) (putM M (opExc σ x y).2) (L) := by
  have hn := hM.1
  have h4 := hσ.2.1
  have h16 := pow4 h4
  have hp1 := Nat.two_pow_pos σ.1
  have hc := okp hσ
  refine cfI_of (own := RX10) (l := [some (rf g 54), some (.int x), some (.int y)]) 0 rfl rfl rfl (Nat.le_of_ble_eq_true rfl) ?_
  refine tm_aload_0 1 rfl dX10_exchange_0 ?_
  refine tm_iload_1 2 rfl dX10_exchange_1 ?_
  refine tm_callV_I (ci := 9) (c_X10_isVoter hn h4 (by have := hσ.1; omega)) mv_X10_isVoter ml_X10_75 rfl rfl rfl rfl rfl (Nat.le_of_ble_eq_true rfl) 5 rfl dX10_exchange_2 ?_
  refine tm_if_eqB 21 8 rfl rfl dX10_exchange_5 (fun h5 => ?_) (fun h5 => ?_)
  · refine tm_iconst (-1) rfl 22 rfl dX10_exchange_21 ?_
    exact tm_iret (by first | rw [exc_1 (Or.inl h5)] | rw [exc_1 (Or.inr (Or.inl h13))] | rw [exc_1 (Or.inr (Or.inr h18))]) (by first | (rw [exc_1 (Or.inl h5)]; exact (putM_self hM).symm) | (rw [exc_1 (Or.inr (Or.inl h13))]; exact (putM_self hM).symm) | (rw [exc_1 (Or.inr (Or.inr h18))]; exact (putM_self hM).symm)) rfl dX10_exchange_22
  · refine tm_aload_0 9 rfl dX10_exchange_8 ?_
    refine tm_iload_2 10 rfl dX10_exchange_9 ?_
    refine tm_callV_I (ci := 9) (c_X10_isVoter hn h4 (by have := hσ.1; omega)) mv_X10_isVoter ml_X10_75 rfl rfl rfl rfl rfl (Nat.le_of_ble_eq_true rfl) 13 rfl dX10_exchange_10 ?_
    refine tm_if_eqB 21 16 rfl rfl dX10_exchange_13 (fun h13 => ?_) (fun h13 => ?_)
    · refine tm_iconst (-1) rfl 22 rfl dX10_exchange_21 ?_
      exact tm_iret (by first | rw [exc_1 (Or.inl h5)] | rw [exc_1 (Or.inr (Or.inl h13))] | rw [exc_1 (Or.inr (Or.inr h18))]) (by first | (rw [exc_1 (Or.inl h5)]; exact (putM_self hM).symm) | (rw [exc_1 (Or.inr (Or.inl h13))]; exact (putM_self hM).symm) | (rw [exc_1 (Or.inr (Or.inr h18))]; exact (putM_self hM).symm)) rfl dX10_exchange_22
    · refine tm_iload_1 17 rfl dX10_exchange_16 ?_
      refine tm_iload_2 18 rfl dX10_exchange_17 ?_
      refine tm_icmp_ne 23 21 rfl rfl dX10_exchange_18 (fun h18 => ?_) (fun h18 => ?_)
      · obtain ⟨i, hi, rfl⟩ := inN_of h5
        obtain ⟨j, hj, rfl⟩ := inN_of h13
        refine tm_aload_0 24 rfl dX10_exchange_23 ?_
        refine tm_getr fl_X10_11 rfl rfl 27 rfl dX10_exchange_24 ?_
        refine tm_iconst (1) rfl 28 rfl dX10_exchange_27 ?_
        refine tm_aload_0 29 rfl dX10_exchange_28 ?_
        refine tm_aload_0 30 rfl dX10_exchange_29 ?_
        refine tm_getr fl_X10_11 rfl rfl 33 rfl dX10_exchange_30 ?_
        refine tm_iconst (1) rfl 34 rfl dX10_exchange_33 ?_
        refine tm_ald rfl (ix := 1) ⟨by decide, by decide, by decide⟩ 35 rfl dX10_exchange_34 ?_
        rw [hM.2.1]
        refine tm_iload_1 36 rfl dX10_exchange_35 ?_
        refine tm_iload_2 37 rfl dX10_exchange_36 ?_
        refine tm_callV_I (ci := 9) (c_X10_changed hn h4 (c := σ.2.1) (by omega) hi hj) mv_X10_changed ml_X10_114 rfl rfl rfl rfl rfl (Nat.le_of_ble_eq_true rfl) 40 rfl dX10_exchange_37 ?_
        refine tm_ast rfl (ix := 1) ⟨by decide, by decide, by decide⟩ 41 rfl dX10_exchange_40 ?_
        rw [putM_c hM]
        refine tm_aload_0 42 rfl dX10_exchange_41 ?_
        refine tm_getr fl_X10_11 rfl rfl 45 rfl dX10_exchange_42 ?_
        refine tm_iconst (1) rfl 46 rfl dX10_exchange_45 ?_
        refine tm_ald rfl (ix := 1) ⟨by decide, by decide, by decide⟩ 47 rfl dX10_exchange_46 ?_
        exact tm_iret (by rw [exc_2 (by omega) (by omega) h5 h13 h18, putM_55]; rfl) (by rw [exc_2 (by omega) (by omega) h5 h13 h18]) rfl dX10_exchange_47
      · refine tm_iconst (-1) rfl 22 rfl dX10_exchange_21 ?_
        exact tm_iret (by first | rw [exc_1 (Or.inl h5)] | rw [exc_1 (Or.inr (Or.inl h13))] | rw [exc_1 (Or.inr (Or.inr h18))]) (by first | (rw [exc_1 (Or.inl h5)]; exact (putM_self hM).symm) | (rw [exc_1 (Or.inr (Or.inl h13))]; exact (putM_self hM).symm) | (rw [exc_1 (Or.inr (Or.inr h18))]; exact (putM_self hM).symm)) rfl dX10_exchange_22

