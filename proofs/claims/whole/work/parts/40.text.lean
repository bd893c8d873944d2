/-! texts: what stands at a place, and the class's taking of it -/
def sg (t : Nat → Int32) (s p : Nat) : Int32 := if p < s then t p else -1
def dB (x : Int32) : Bool := decide (48 ≤ x ∧ x ≤ 57)
theorem dB_1 {x : Int32} (h : ¬ x < 48) (h2 : ¬ 57 < x) : (1 : Int32) = bI (dB x) := by unfold dB; rw [decide_eq_true ⟨fa_of_nlt h, fa_of_nlt h2⟩]; rfl
theorem dB_2 {x : Int32} (h : x < 48) : (0 : Int32) = bI (dB x) := by unfold dB; rw [decide_eq_false (fun q => (fa_of_lt h).2.1 q.1)]; rfl
theorem dB_3 {x : Int32} (h : 57 < x) : (0 : Int32) = bI (dB x) := by unfold dB; rw [decide_eq_false (fun q => (fa_of_lt h).2.1 q.2)]; rfl
def txC (M : MI) (s : Nat) (t : Nat → Int32) (p : Nat) : Prop := M 23 1 = nI s ∧ s ≤ 100 ∧ (∀ i, i < s → M 24 i = t i) ∧ M 23 2 = nI p ∧ p ≤ 1000
theorem txC.pl {M : MI} {s p : Nat} {t : Nat → Int32} (h : txC M s t p) {p2 : Nat} (hp : p2 ≤ 1000) : txC (s1 M 23 2 (nI p2)) s t p2 := ⟨by rw [s1_nk (by decide)]; exact h.1, h.2.1, fun i hi => by rw [s1_ne (by decide)]; exact h.2.2.1 i hi, s1_eq _ _ _ _, hp⟩
theorem txC.ro {M : MI} {s p : Nat} {t : Nat → Int32} (h : txC M s t p) {j k : Nat} {x : Int32} (h1 : 23 ≠ j) (h2 : 24 ≠ j) : txC (s1 M j k x) s t p := ⟨by rw [s1_ne h1]; exact h.1, h.2.1, fun i hi => by rw [s1_ne h2]; exact h.2.2.1 i hi, by rw [s1_ne h1]; exact h.2.2.2.1, h.2.2.2.2⟩
theorem s1_tw (M : MI) (i k : Nat) (x y : Int32) : s1 (s1 M i k x) i k y = s1 M i k y := by
  funext j
  by_cases h : j = i
  · subst h
    funext u
    rw [s1_at, s1_at, s1_at]
    by_cases q : u = k <;> simp [q]
  · rw [s1_ne h, s1_ne h, s1_ne h]
theorem s1_me {M : MI} {i k : Nat} {x : Int32} (h : M i k = x) : s1 M i k x = M := by
  funext j
  by_cases e : j = i
  · subst e
    funext u
    rw [s1_at]
    by_cases q : u = k
    · subst q; simp [h]
    · simp [q]
  · rw [s1_ne e]
theorem s1_cm {M : MI} {i j k u : Nat} {x y : Int32} (h : i ≠ j) : s1 (s1 M i k x) j u y = s1 (s1 M j u y) i k x := by
  funext v w
  rw [s1_at, s1_at, s1_at, s1_at]
  by_cases e : v = j ∧ w = u
  · rw [if_pos e]
    by_cases e2 : v = i ∧ w = k
    · exact absurd (e2.1.symm.trans e.1) h
    · rw [if_neg e2, if_pos e]
  · rw [if_neg e]
    by_cases e2 : v = i ∧ w = k
    · rw [if_pos e2, if_pos e2]
    · rw [if_neg e2, if_neg e2, if_neg e]
set_option maxRecDepth 100000 in
set_option maxHeartbeats 4000000 in
theorem c_X5_sign {g : GC} {d : Nat} {M : MI} {L : ML} {s p : Nat} {t : Nat → Int32} (hT : txC M s t p) : CfI g (d) yX5_sign cX5_sign 1 .int [rf g 23] M L (sg t s p) (M) (L) := by
  have hs := hT.2.1
  have hp := hT.2.2.2.2
  refine cfI_of (own := RX5) (l := [some (rf g 23)]) 0 rfl rfl rfl (Nat.le_of_ble_eq_true rfl) ?_
  refine tm_aload_0 1 rfl dX5_sign_0 ?_
  refine tm_geti fl_X5_17 rfl rfl 4 rfl dX5_sign_1 ?_
  rw [hT.2.2.2.1]
  refine tm_aload_0 5 rfl dX5_sign_4 ?_
  refine tm_geti fl_X5_13 rfl rfl 8 rfl dX5_sign_5 ?_
  rw [hT.1]
  refine tm_icmp_ge 32 11 rfl rfl dX5_sign_8 (fun h8 => ?_) (fun h8 => ?_)
  · refine tm_iconst (-1) rfl 33 rfl dX5_sign_32 ?_
    exact tm_iret (by first | exact (if_pos hlt).symm | exact (if_neg (by have := nI_le_le h8 (by omega) (by omega); omega)).symm) rfl rfl dX5_sign_33
  · have hlt := nI_nle_lt h8 (by omega) (by omega)
    refine tm_aload_0 12 rfl dX5_sign_11 ?_
    refine tm_geti fl_X5_17 rfl rfl 15 rfl dX5_sign_12 ?_
    rw [hT.2.2.2.1]
    refine tm_bipush (100) (by decide) 17 rfl dX5_sign_15 ?_
    refine tm_icmp_ge_f 20 (nI_ge (b := 100) (by omega) (by decide)) rfl rfl dX5_sign_17 ?_
    refine tm_aload_0 21 rfl dX5_sign_20 ?_
    refine tm_getr fl_X5_9 rfl rfl 24 rfl dX5_sign_21 ?_
    refine tm_aload_0 25 rfl dX5_sign_24 ?_
    refine tm_geti fl_X5_17 rfl rfl 28 rfl dX5_sign_25 ?_
    rw [hT.2.2.2.1]
    refine tm_ald rfl (ix := p) (ix_nI (by omega) (by decide)) 29 rfl dX5_sign_28 ?_
    rw [hT.2.2.1 p hlt]
    refine tm_goto 33 rfl dX5_sign_29 ?_
    exact tm_iret (by first | exact (if_pos hlt).symm | exact (if_neg (by have := nI_le_le h8 (by omega) (by omega); omega)).symm) rfl rfl dX5_sign_33

set_option maxRecDepth 100000 in
set_option maxHeartbeats 4000000 in
theorem c_X5_isDigit {g : GC} {d : Nat} {M : MI} {L : ML} {s p : Nat} {t : Nat → Int32} (hT : txC M s t p) : CfI g (d + 1) yX5_isDigit cX5_isDigit 1 .boolean [rf g 23] M L (bI (dB (sg t s p))) (M) (L) := by
  refine cfI_of (own := RX5) (l := [some (rf g 23)]) 0 rfl rfl rfl (Nat.le_of_ble_eq_true rfl) ?_
  refine tm_aload_0 1 rfl dX5_isDigit_0 ?_
  refine tm_callV_I (ci := 4) (c_X5_sign hT) mv_X5_sign ml_X5_36 rfl rfl rfl rfl rfl (Nat.le_of_ble_eq_true rfl) 4 rfl dX5_isDigit_1 ?_
  refine tm_bipush (48) (by decide) 6 rfl dX5_isDigit_4 ?_
  refine tm_icmp_lt 22 9 rfl rfl dX5_isDigit_6 (fun h6 => ?_) (fun h6 => ?_)
  · refine tm_iconst (0) rfl 23 rfl dX5_isDigit_22 ?_
    exact tm_zret (by decide) (by first | exact dB_1 h6 h15 | exact dB_2 h6 | exact dB_3 h15) rfl rfl dX5_isDigit_23
  · refine tm_aload_0 10 rfl dX5_isDigit_9 ?_
    refine tm_callV_I (ci := 4) (c_X5_sign hT) mv_X5_sign ml_X5_36 rfl rfl rfl rfl rfl (Nat.le_of_ble_eq_true rfl) 13 rfl dX5_isDigit_10 ?_
    refine tm_bipush (57) (by decide) 15 rfl dX5_isDigit_13 ?_
    refine tm_icmp_gt 22 18 rfl rfl dX5_isDigit_15 (fun h15 => ?_) (fun h15 => ?_)
    · refine tm_iconst (0) rfl 23 rfl dX5_isDigit_22 ?_
      exact tm_zret (by decide) (by first | exact dB_1 h6 h15 | exact dB_2 h6 | exact dB_3 h15) rfl rfl dX5_isDigit_23
    · refine tm_iconst (1) rfl 19 rfl dX5_isDigit_18 ?_
      refine tm_goto 23 rfl dX5_isDigit_19 ?_
      exact tm_zret (by decide) (by first | exact dB_1 h6 h15 | exact dB_2 h6 | exact dB_3 h15) rfl rfl dX5_isDigit_23

set_option maxRecDepth 100000 in
set_option maxHeartbeats 4000000 in
theorem c_X5_takeDigit {g : GC} {d : Nat} {M : MI} {L : ML} {s p : Nat} {t : Nat → Int32} (hT : txC M s t p) {j c : Nat} (hj : shp j = some (.inr (0, 12, []))) (h23 : 23 ≠ j) (h24 : 24 ≠ j) (hc : c < 12) (hp9 : p < 1000) : CfI g (d + 2) yX5_takeDigit cX5_takeDigit 3 .boolean [rf g 23, rf g j, .int (nI c)] M L (bI (dB (sg t s p))) (if dB (sg t s p) = true then s1 (s1 M j c (sg t s p - 48)) 23 2 (nI (p + 1)) else M) (L) := by
  refine cfI_of (own := RX5) (l := [some (rf g 23), some (rf g j), some (.int (nI c))]) 0 rfl rfl rfl (Nat.le_of_ble_eq_true rfl) ?_
  refine tm_aload_0 1 rfl dX5_takeDigit_0 ?_
  refine tm_callV_I (ci := 4) (c_X5_isDigit hT) mv_X5_isDigit ml_X5_51 rfl rfl rfl rfl rfl (Nat.le_of_ble_eq_true rfl) 4 rfl dX5_takeDigit_1 ?_
  refine tm_if_neB 9 7 rfl rfl dX5_takeDigit_4 (fun h4 => ?_) (fun h4 => ?_)
  · refine tm_aload_1 10 rfl dX5_takeDigit_9 ?_
    refine tm_iload_2 11 rfl dX5_takeDigit_10 ?_
    refine tm_aload_0 12 rfl dX5_takeDigit_11 ?_
    refine tm_callV_I (ci := 4) (c_X5_sign hT) mv_X5_sign ml_X5_36 rfl rfl rfl rfl rfl (Nat.le_of_ble_eq_true rfl) 15 rfl dX5_takeDigit_12 ?_
    refine tm_bipush (48) (by decide) 17 rfl dX5_takeDigit_15 ?_
    refine tm_isub 18 rfl dX5_takeDigit_17 ?_
    refine tm_ast hj (ix := c) (ix_nI hc (by decide)) 19 rfl dX5_takeDigit_18 ?_
    refine tm_aload_0 20 rfl dX5_takeDigit_19 ?_
    refine tm_dup rfl 21 rfl dX5_takeDigit_20 ?_
    refine tm_geti fl_X5_17 rfl rfl 24 rfl dX5_takeDigit_21 ?_
    refine tm_iconst (1) rfl 25 rfl dX5_takeDigit_24 ?_
    refine tm_iadd 26 rfl dX5_takeDigit_25 ?_
    rw [s1_ne h23, hT.2.2.2.1, nI_1]
    refine tm_puti fl_X5_17 fw_4_2 rfl rfl rfl rfl 29 rfl dX5_takeDigit_26 ?_
    refine tm_iconst (1) rfl 30 rfl dX5_takeDigit_29 ?_
    exact tm_zret (by decide) (by rw [h4]; rfl) (if_pos h4).symm rfl dX5_takeDigit_30
  · refine tm_iconst (0) rfl 8 rfl dX5_takeDigit_7 ?_
    exact tm_zret (by decide) (by rw [h4]; rfl) (if_neg (by rw [h4]; decide)).symm rfl dX5_takeDigit_8

def nbE (t : Nat → Int32) (s p : Nat) : Nat := if dB (sg t s (p + 1)) = true then p + 2 else p + 1
def nbW (t : Nat → Int32) (s p : Nat) : Int32 := if dB (sg t s (p + 1)) = true then 10 * (sg t s p - 48) + sg t s (p + 1) - 48 else sg t s p - 48
theorem nb_1 {t : Nat → Int32} {s p : Nat} (h : dB (sg t s (p + 1)) = true) : nbE t s p = p + 2 ∧ nbW t s p = 10 * (sg t s p - 48) + sg t s (p + 1) - 48 := ⟨if_pos h, if_pos h⟩
theorem nb_2 {t : Nat → Int32} {s p : Nat} (h : dB (sg t s (p + 1)) = false) : nbE t s p = p + 1 ∧ nbW t s p = sg t s p - 48 := ⟨if_neg (by rw [h]; decide), if_neg (by rw [h]; decide)⟩
theorem nbE_b (t : Nat → Int32) (s p : Nat) : nbE t s p ≤ p + 2 := by unfold nbE; split <;> omega
def nb1 (t : Nat → Int32) (s p : Nat) : Nat := if sg t s p = 45 then p + 1 else p
def nbV (t : Nat → Int32) (s p : Nat) : Int32 := if sg t s p = 45 then -(nbW t s (p + 1)) else nbW t s p
set_option maxRecDepth 100000 in
set_option maxHeartbeats 4000000 in
theorem c_X5_takeNumber_m {g : GC} {d : Nat} {M : MI} {L : ML} {s p : Nat} {t : Nat → Int32} (hT : txC M s t p) {j c : Nat} (hj : shp j = some (.inr (0, 12, []))) (h23 : 23 ≠ j) (h24 : 24 ≠ j) (hc : c < 12) (hp9 : p < 990) (hm : sg t s p = 45) : CfI g (d + 2) yX5_takeNumber cX5_takeNumber 5 .boolean [rf g 23, rf g j, .int (nI c)] M L (bI (dB (sg t s (p + 1)))) (if dB (sg t s (p + 1)) = true then s1 (s1 M 23 2 (nI (nbE t s (p + 1)))) j c (-(nbW t s (p + 1))) else (s1 M 23 2 (nI (p + 1)))) (L) := by
  refine cfI_of (own := RX5) (l := [some (rf g 23), some (rf g j), some (.int (nI c)), none, none]) 2 rfl rfl rfl (Nat.le_of_ble_eq_true rfl) ?_
  refine tm_aload_0 1 rfl dX5_takeNumber_0 ?_
  refine tm_callV_I (ci := 4) (c_X5_sign hT) mv_X5_sign ml_X5_36 rfl rfl rfl rfl rfl (Nat.le_of_ble_eq_true rfl) 4 rfl dX5_takeNumber_1 ?_
  refine tm_bipush (45) (by decide) 6 rfl dX5_takeNumber_4 ?_
  refine tm_icmp_ne_f 9 (hm) rfl rfl dX5_takeNumber_6 ?_
  refine tm_iconst (1) rfl 10 rfl dX5_takeNumber_9 ?_
  refine tm_goto 14 rfl dX5_takeNumber_10 ?_
  refine tm_istore_3 (by decide) rfl 15 rfl dX5_takeNumber_14 ?_
  refine tm_iload_3 16 rfl dX5_takeNumber_15 ?_
  refine tm_if_eq_f 19 (by decide) rfl rfl dX5_takeNumber_16 ?_
  refine tm_aload_0 20 rfl dX5_takeNumber_19 ?_
  refine tm_dup rfl 21 rfl dX5_takeNumber_20 ?_
  refine tm_geti fl_X5_17 rfl rfl 24 rfl dX5_takeNumber_21 ?_
  refine tm_iconst (1) rfl 25 rfl dX5_takeNumber_24 ?_
  refine tm_iadd 26 rfl dX5_takeNumber_25 ?_
  rw [hT.2.2.2.1, nI_1]
  refine tm_puti fl_X5_17 fw_4_2 rfl rfl rfl rfl 29 rfl dX5_takeNumber_26 ?_
  refine tm_aload_0 30 rfl dX5_takeNumber_29 ?_
  refine tm_callV_I (ci := 4) (c_X5_isDigit (hT.pl (p2 := p + 1) (by omega))) mv_X5_isDigit ml_X5_51 rfl rfl rfl rfl rfl (Nat.le_of_ble_eq_true rfl) 33 rfl dX5_takeNumber_30 ?_
  refine tm_if_neB 38 36 rfl rfl dX5_takeNumber_33 (fun h33 => ?_) (fun h33 => ?_)
  · refine tm_aload_0 39 rfl dX5_takeNumber_38 ?_
    refine tm_callV_I (ci := 4) (c_X5_sign (hT.pl (p2 := p + 1) (by omega))) mv_X5_sign ml_X5_36 rfl rfl rfl rfl rfl (Nat.le_of_ble_eq_true rfl) 42 rfl dX5_takeNumber_39 ?_
    refine tm_bipush (48) (by decide) 44 rfl dX5_takeNumber_42 ?_
    refine tm_isub 45 rfl dX5_takeNumber_44 ?_
    refine tm_istore_4 (by decide) rfl 47 rfl dX5_takeNumber_45 ?_
    refine tm_aload_0 48 rfl dX5_takeNumber_47 ?_
    refine tm_dup rfl 49 rfl dX5_takeNumber_48 ?_
    refine tm_geti fl_X5_17 rfl rfl 52 rfl dX5_takeNumber_49 ?_
    refine tm_iconst (1) rfl 53 rfl dX5_takeNumber_52 ?_
    rw [s1_eq]
    refine tm_iadd 54 rfl dX5_takeNumber_53 ?_
    rw [nI_1]
    refine tm_puti fl_X5_17 fw_4_2 rfl rfl rfl rfl 57 rfl dX5_takeNumber_54 ?_
    rw [s1_tw]
    refine tm_aload_0 58 rfl dX5_takeNumber_57 ?_
    refine tm_callV_I (ci := 4) (c_X5_isDigit (hT.pl (p2 := p + 1 + 1) (by omega))) mv_X5_isDigit ml_X5_51 rfl rfl rfl rfl rfl (Nat.le_of_ble_eq_true rfl) 61 rfl dX5_takeNumber_58 ?_
    refine tm_if_eqB 89 64 rfl rfl dX5_takeNumber_61 (fun h61 => ?_) (fun h61 => ?_)
    · first | (have z := h61; rw [show dB (sg t s (p + 1 + 1)) = true from z] at z; rw [s1_tw]) | skip
      refine tm_aload_1 90 rfl dX5_takeNumber_89 ?_
      refine tm_iload_2 91 rfl dX5_takeNumber_90 ?_
      refine tm_iload_3 92 rfl dX5_takeNumber_91 ?_
      refine tm_if_eq_f 95 (by decide) rfl rfl dX5_takeNumber_92 ?_
      refine tm_iload_4 97 rfl dX5_takeNumber_95 ?_
      refine tm_ineg 98 rfl dX5_takeNumber_97 ?_
      refine tm_goto 103 rfl dX5_takeNumber_98 ?_
      refine tm_ast hj (ix := c) (ix_nI hc (by decide)) 104 rfl dX5_takeNumber_103 ?_
      refine tm_iconst (1) rfl 105 rfl dX5_takeNumber_104 ?_
      exact tm_zret (by decide) (by rw [h33]; rfl) (by rw [if_pos h33]; first | rw [(nb_1 (t := t) (s := s) (p := p + 1) h61).1, (nb_1 (t := t) (s := s) (p := p + 1) h61).2] | rw [(nb_2 (t := t) (s := s) (p := p + 1) h61).1, (nb_2 (t := t) (s := s) (p := p + 1) h61).2]) rfl dX5_takeNumber_105
    · refine tm_bipush (10) (by decide) 66 rfl dX5_takeNumber_64 ?_
      refine tm_iload_4 68 rfl dX5_takeNumber_66 ?_
      refine tm_imul 69 rfl dX5_takeNumber_68 ?_
      refine tm_aload_0 70 rfl dX5_takeNumber_69 ?_
      refine tm_callV_I (ci := 4) (c_X5_sign (hT.pl (p2 := p + 1 + 1) (by omega))) mv_X5_sign ml_X5_36 rfl rfl rfl rfl rfl (Nat.le_of_ble_eq_true rfl) 73 rfl dX5_takeNumber_70 ?_
      refine tm_iadd 74 rfl dX5_takeNumber_73 ?_
      refine tm_bipush (48) (by decide) 76 rfl dX5_takeNumber_74 ?_
      refine tm_isub 77 rfl dX5_takeNumber_76 ?_
      refine tm_istore_4 (by decide) rfl 79 rfl dX5_takeNumber_77 ?_
      refine tm_aload_0 80 rfl dX5_takeNumber_79 ?_
      refine tm_dup rfl 81 rfl dX5_takeNumber_80 ?_
      refine tm_geti fl_X5_17 rfl rfl 84 rfl dX5_takeNumber_81 ?_
      refine tm_iconst (1) rfl 85 rfl dX5_takeNumber_84 ?_
      rw [s1_eq]
      refine tm_iadd 86 rfl dX5_takeNumber_85 ?_
      rw [nI_1]
      refine tm_puti fl_X5_17 fw_4_2 rfl rfl rfl rfl 89 rfl dX5_takeNumber_86 ?_
      first | (have z := h61; rw [show dB (sg t s (p + 1 + 1)) = true from z] at z; rw [s1_tw]) | skip
      refine tm_aload_1 90 rfl dX5_takeNumber_89 ?_
      refine tm_iload_2 91 rfl dX5_takeNumber_90 ?_
      refine tm_iload_3 92 rfl dX5_takeNumber_91 ?_
      refine tm_if_eq_f 95 (by decide) rfl rfl dX5_takeNumber_92 ?_
      refine tm_iload_4 97 rfl dX5_takeNumber_95 ?_
      refine tm_ineg 98 rfl dX5_takeNumber_97 ?_
      refine tm_goto 103 rfl dX5_takeNumber_98 ?_
      refine tm_ast hj (ix := c) (ix_nI hc (by decide)) 104 rfl dX5_takeNumber_103 ?_
      refine tm_iconst (1) rfl 105 rfl dX5_takeNumber_104 ?_
      exact tm_zret (by decide) (by rw [h33]; rfl) (by rw [if_pos h33]; first | rw [(nb_1 (t := t) (s := s) (p := p + 1) h61).1, (nb_1 (t := t) (s := s) (p := p + 1) h61).2] | rw [(nb_2 (t := t) (s := s) (p := p + 1) h61).1, (nb_2 (t := t) (s := s) (p := p + 1) h61).2]) rfl dX5_takeNumber_105
  · refine tm_iconst (0) rfl 37 rfl dX5_takeNumber_36 ?_
    exact tm_zret (by decide) (by rw [h33]; rfl) (if_neg (by rw [h33]; decide)).symm rfl dX5_takeNumber_37

set_option maxRecDepth 100000 in
set_option maxHeartbeats 4000000 in
theorem c_X5_takeNumber_p {g : GC} {d : Nat} {M : MI} {L : ML} {s p : Nat} {t : Nat → Int32} (hT : txC M s t p) {j c : Nat} (hj : shp j = some (.inr (0, 12, []))) (h23 : 23 ≠ j) (h24 : 24 ≠ j) (hc : c < 12) (hp9 : p < 990) (hm : ¬ sg t s p = 45) : CfI g (d + 2) yX5_takeNumber cX5_takeNumber 5 .boolean [rf g 23, rf g j, .int (nI c)] M L (bI (dB (sg t s (p)))) (if dB (sg t s (p)) = true then s1 (s1 M 23 2 (nI (nbE t s (p)))) j c (nbW t s (p)) else M) (L) := by
  refine cfI_of (own := RX5) (l := [some (rf g 23), some (rf g j), some (.int (nI c)), none, none]) 2 rfl rfl rfl (Nat.le_of_ble_eq_true rfl) ?_
  refine tm_aload_0 1 rfl dX5_takeNumber_0 ?_
  refine tm_callV_I (ci := 4) (c_X5_sign hT) mv_X5_sign ml_X5_36 rfl rfl rfl rfl rfl (Nat.le_of_ble_eq_true rfl) 4 rfl dX5_takeNumber_1 ?_
  refine tm_bipush (45) (by decide) 6 rfl dX5_takeNumber_4 ?_
  refine tm_icmp_ne_t 13 (hm) rfl dX5_takeNumber_6 ?_
  refine tm_iconst (0) rfl 14 rfl dX5_takeNumber_13 ?_
  refine tm_istore_3 (by decide) rfl 15 rfl dX5_takeNumber_14 ?_
  refine tm_iload_3 16 rfl dX5_takeNumber_15 ?_
  refine tm_if_eq_t 29 (by decide) rfl dX5_takeNumber_16 ?_
  refine tm_aload_0 30 rfl dX5_takeNumber_29 ?_
  refine tm_callV_I (ci := 4) (c_X5_isDigit hT) mv_X5_isDigit ml_X5_51 rfl rfl rfl rfl rfl (Nat.le_of_ble_eq_true rfl) 33 rfl dX5_takeNumber_30 ?_
  refine tm_if_neB 38 36 rfl rfl dX5_takeNumber_33 (fun h33 => ?_) (fun h33 => ?_)
  · refine tm_aload_0 39 rfl dX5_takeNumber_38 ?_
    refine tm_callV_I (ci := 4) (c_X5_sign hT) mv_X5_sign ml_X5_36 rfl rfl rfl rfl rfl (Nat.le_of_ble_eq_true rfl) 42 rfl dX5_takeNumber_39 ?_
    refine tm_bipush (48) (by decide) 44 rfl dX5_takeNumber_42 ?_
    refine tm_isub 45 rfl dX5_takeNumber_44 ?_
    refine tm_istore_4 (by decide) rfl 47 rfl dX5_takeNumber_45 ?_
    refine tm_aload_0 48 rfl dX5_takeNumber_47 ?_
    refine tm_dup rfl 49 rfl dX5_takeNumber_48 ?_
    refine tm_geti fl_X5_17 rfl rfl 52 rfl dX5_takeNumber_49 ?_
    refine tm_iconst (1) rfl 53 rfl dX5_takeNumber_52 ?_
    rw [hT.2.2.2.1]
    refine tm_iadd 54 rfl dX5_takeNumber_53 ?_
    rw [nI_1]
    refine tm_puti fl_X5_17 fw_4_2 rfl rfl rfl rfl 57 rfl dX5_takeNumber_54 ?_
    skip
    refine tm_aload_0 58 rfl dX5_takeNumber_57 ?_
    refine tm_callV_I (ci := 4) (c_X5_isDigit (hT.pl (p2 := p + 1) (by omega))) mv_X5_isDigit ml_X5_51 rfl rfl rfl rfl rfl (Nat.le_of_ble_eq_true rfl) 61 rfl dX5_takeNumber_58 ?_
    refine tm_if_eqB 89 64 rfl rfl dX5_takeNumber_61 (fun h61 => ?_) (fun h61 => ?_)
    · first | (have z := h61; rw [show dB (sg t s (p + 1)) = true from z] at z; rw [s1_tw]) | skip
      refine tm_aload_1 90 rfl dX5_takeNumber_89 ?_
      refine tm_iload_2 91 rfl dX5_takeNumber_90 ?_
      refine tm_iload_3 92 rfl dX5_takeNumber_91 ?_
      refine tm_if_eq_t 101 (by decide) rfl dX5_takeNumber_92 ?_
      refine tm_iload_4 103 rfl dX5_takeNumber_101 ?_
      refine tm_ast hj (ix := c) (ix_nI hc (by decide)) 104 rfl dX5_takeNumber_103 ?_
      refine tm_iconst (1) rfl 105 rfl dX5_takeNumber_104 ?_
      exact tm_zret (by decide) (by rw [h33]; rfl) (by rw [if_pos h33]; first | rw [(nb_1 (t := t) (s := s) (p := p) h61).1, (nb_1 (t := t) (s := s) (p := p) h61).2] | rw [(nb_2 (t := t) (s := s) (p := p) h61).1, (nb_2 (t := t) (s := s) (p := p) h61).2]) rfl dX5_takeNumber_105
    · refine tm_bipush (10) (by decide) 66 rfl dX5_takeNumber_64 ?_
      refine tm_iload_4 68 rfl dX5_takeNumber_66 ?_
      refine tm_imul 69 rfl dX5_takeNumber_68 ?_
      refine tm_aload_0 70 rfl dX5_takeNumber_69 ?_
      refine tm_callV_I (ci := 4) (c_X5_sign (hT.pl (p2 := p + 1) (by omega))) mv_X5_sign ml_X5_36 rfl rfl rfl rfl rfl (Nat.le_of_ble_eq_true rfl) 73 rfl dX5_takeNumber_70 ?_
      refine tm_iadd 74 rfl dX5_takeNumber_73 ?_
      refine tm_bipush (48) (by decide) 76 rfl dX5_takeNumber_74 ?_
      refine tm_isub 77 rfl dX5_takeNumber_76 ?_
      refine tm_istore_4 (by decide) rfl 79 rfl dX5_takeNumber_77 ?_
      refine tm_aload_0 80 rfl dX5_takeNumber_79 ?_
      refine tm_dup rfl 81 rfl dX5_takeNumber_80 ?_
      refine tm_geti fl_X5_17 rfl rfl 84 rfl dX5_takeNumber_81 ?_
      refine tm_iconst (1) rfl 85 rfl dX5_takeNumber_84 ?_
      rw [s1_eq]
      refine tm_iadd 86 rfl dX5_takeNumber_85 ?_
      rw [nI_1]
      refine tm_puti fl_X5_17 fw_4_2 rfl rfl rfl rfl 89 rfl dX5_takeNumber_86 ?_
      first | (have z := h61; rw [show dB (sg t s (p + 1)) = true from z] at z; rw [s1_tw]) | skip
      refine tm_aload_1 90 rfl dX5_takeNumber_89 ?_
      refine tm_iload_2 91 rfl dX5_takeNumber_90 ?_
      refine tm_iload_3 92 rfl dX5_takeNumber_91 ?_
      refine tm_if_eq_t 101 (by decide) rfl dX5_takeNumber_92 ?_
      refine tm_iload_4 103 rfl dX5_takeNumber_101 ?_
      refine tm_ast hj (ix := c) (ix_nI hc (by decide)) 104 rfl dX5_takeNumber_103 ?_
      refine tm_iconst (1) rfl 105 rfl dX5_takeNumber_104 ?_
      exact tm_zret (by decide) (by rw [h33]; rfl) (by rw [if_pos h33]; first | rw [(nb_1 (t := t) (s := s) (p := p) h61).1, (nb_1 (t := t) (s := s) (p := p) h61).2] | rw [(nb_2 (t := t) (s := s) (p := p) h61).1, (nb_2 (t := t) (s := s) (p := p) h61).2]) rfl dX5_takeNumber_105
  · refine tm_iconst (0) rfl 37 rfl dX5_takeNumber_36 ?_
    exact tm_zret (by decide) (by rw [h33]; rfl) (if_neg (by rw [h33]; decide)).symm rfl dX5_takeNumber_37

theorem c_X5_takeNumber {g : GC} {d : Nat} {M : MI} {L : ML} {s p : Nat} {t : Nat → Int32} (hT : txC M s t p) {j c : Nat} (hj : shp j = some (.inr (0, 12, []))) (h23 : 23 ≠ j) (h24 : 24 ≠ j) (hc : c < 12) (hp9 : p < 990) : CfI g (d + 2) yX5_takeNumber cX5_takeNumber 5 .boolean [rf g 23, rf g j, .int (nI c)] M L (bI (dB (sg t s (nb1 t s p)))) (if dB (sg t s (nb1 t s p)) = true then s1 (s1 M 23 2 (nI (nbE t s (nb1 t s p)))) j c (nbV t s p) else s1 M 23 2 (nI (nb1 t s p))) L := by
  by_cases h : sg t s p = 45
  · rw [show nb1 t s p = p + 1 from if_pos h, show nbV t s p = -(nbW t s (p + 1)) from if_pos h]
    exact c_X5_takeNumber_m hT hj h23 h24 hc hp9 h
  · rw [show nb1 t s p = p from if_neg h, show nbV t s p = nbW t s p from if_neg h, s1_me hT.2.2.2.1]
    exact c_X5_takeNumber_p hT hj h23 h24 hc hp9 h
def ltV (t : Nat → Int32) (s p : Nat) : Nat → Int32
  | 0 => 0
  | d + 1 => ltV t s p d ||| ((1 : Int32) <<< ((sg t s (p + d) - 48) &&& 31))
def ltJ (t : Nat → Int32) (s p m : Nat) : Nat := fa_first (fun d => !dB (sg t s (p + d))) m
theorem ltJ_1 {t : Nat → Int32} {s p m d : Nat} (hd : d < m) (hP : ∀ j, j < d → dB (sg t s (p + j)) = true) (h : dB (sg t s (p + d)) = false) : ltJ t s p m = d := first_eq hd (by rw [h]; rfl) (fun j hj => by rw [hP j hj]; rfl)
theorem ltJ_2 {t : Nat → Int32} {s p m : Nat} (hP : ∀ j, j < m → dB (sg t s (p + j)) = true) : ltJ t s p m = m := by
  have a := fa_first_le (fun d => !dB (sg t s (p + d))) m
  have b := first_no (p := fun d => !dB (sg t s (p + d))) (N := m) (fun j hj => by rw [hP j hj]; rfl)
  unfold ltJ
  omega
theorem ltJ_le (t : Nat → Int32) (s p m : Nat) : ltJ t s p m ≤ m := fa_first_le _ _
theorem ltJ_d {t : Nat → Int32} {s p m j : Nat} (hj : j < ltJ t s p m) : dB (sg t s (p + j)) = true := by
  have := fa_first_no (fun d => !dB (sg t s (p + d))) m j hj
  simpa using this
theorem lt_mem (M : MI) (c : Nat) (x y a b : Int32) : s1 (s1 (s1 (s1 M 26 c x) 23 2 a) 26 c y) 23 2 b = s1 (s1 M 26 c y) 23 2 b := by
  rw [s1_cm (M := s1 M 26 c x) (i := 23) (j := 26) (by decide), s1_tw, s1_tw]
set_option maxRecDepth 100000 in
set_option maxHeartbeats 4000000 in
theorem c_X5_takeLot {g : GC} {d : Nat} {M : MI} {L : ML} {s p : Nat} {t : Nat → Int32} (hT : txC M s t p) {c : Nat} (hc : c < 12) (hp9 : p < 990) : CfV g (d + 2) yX5_takeLot cX5_takeLot 3 [rf g 23, .int (nI c)] M L (s1 (s1 M 26 c (ltV t s p (ltJ t s p 4))) 23 2 (nI (p + ltJ t s p 4))) (L) := by
  refine cfV_of (own := RX5) (l := [some (rf g 23), some (.int (nI c)), none]) 1 rfl rfl rfl (Nat.le_of_ble_eq_true rfl) ?_
  refine tm_aload_0 1 rfl dX5_takeLot_0 ?_
  refine tm_getr fl_X5_23 rfl rfl 4 rfl dX5_takeLot_1 ?_
  refine tm_iload_1 5 rfl dX5_takeLot_4 ?_
  refine tm_iconst (0) rfl 6 rfl dX5_takeLot_5 ?_
  refine tm_ast rfl (ix := c) (ix_nI hc (by decide)) 7 rfl dX5_takeLot_6 ?_
  refine tm_iconst (0) rfl 8 rfl dX5_takeLot_7 ?_
  refine tm_istore_2 (by decide) rfl 9 rfl dX5_takeLot_8 ?_
  refine tm_mem (M := s1 (s1 M 26 c (ltV t s p 0)) 23 2 (nI (p + 0))) (s1_me (by rw [s1_ne (by decide)]; exact hT.2.2.2.1)) rfl ?_
  refine tm_loopE (N := 4) (fun dd => ∀ j, j < dd → dB (sg t s (p + j)) = true) (fun dd => Tm g (d + 2) RX5 cX5_takeLot 3 none (QV g (s1 (s1 M 26 c (ltV t s p (ltJ t s p 4))) 23 2 (nI (p + ltJ t s p 4))) (L)) 9 [some (rf g 23), some (.int (nI c)), some (.int (nI dd))] [] (s1 (s1 M 26 c (ltV t s p dd)) 23 2 (nI (p + dd))) (L)) (fun u hu => absurd hu (by omega)) (fun dd hk hP ih => ?_) (fun hPN => ?_)
  · refine tm_iload_2 10 rfl dX5_takeLot_9 ?_
    refine tm_iconst (4) rfl 11 rfl dX5_takeLot_10 ?_
    refine tm_icmp_ge_f 14 (nI_ge (b := 4) hk (by decide)) rfl rfl dX5_takeLot_11 ?_
    refine tm_aload_0 15 rfl dX5_takeLot_14 ?_
    refine tm_callV_I (ci := 4) (c_X5_isDigit ((hT.ro (j := 26) (k := c) (x := ltV t s p dd) (by decide) (by decide)).pl (p2 := p + dd) (by omega))) mv_X5_isDigit ml_X5_51 rfl rfl rfl rfl rfl (Nat.le_of_ble_eq_true rfl) 18 rfl dX5_takeLot_15 ?_
    refine tm_if_eqB 55 21 rfl rfl dX5_takeLot_18 (fun h18 => ?_) (fun h18 => ?_)
    · exact tm_vret (by first | (have z : dB (sg t s (p + dd)) = false := h18; rw [ltJ_1 hk hP z]) | rw [ltJ_2 hPN]) rfl dX5_takeLot_55
    · refine tm_aload_0 22 rfl dX5_takeLot_21 ?_
      refine tm_getr fl_X5_23 rfl rfl 25 rfl dX5_takeLot_22 ?_
      refine tm_iload_1 26 rfl dX5_takeLot_25 ?_
      refine tm_dup2 rfl rfl 27 rfl dX5_takeLot_26 ?_
      refine tm_ald rfl (ix := c) (ix_nI hc (by decide)) 28 rfl dX5_takeLot_27 ?_
      rw [s1_ne (by decide), s1_eq]
      refine tm_iconst (1) rfl 29 rfl dX5_takeLot_28 ?_
      refine tm_aload_0 30 rfl dX5_takeLot_29 ?_
      refine tm_callV_I (ci := 4) (c_X5_sign ((hT.ro (j := 26) (k := c) (x := ltV t s p dd) (by decide) (by decide)).pl (p2 := p + dd) (by omega))) mv_X5_sign ml_X5_36 rfl rfl rfl rfl rfl (Nat.le_of_ble_eq_true rfl) 33 rfl dX5_takeLot_30 ?_
      refine tm_bipush (48) (by decide) 35 rfl dX5_takeLot_33 ?_
      refine tm_isub 36 rfl dX5_takeLot_35 ?_
      refine tm_ishl 37 rfl dX5_takeLot_36 ?_
      refine tm_ior 38 rfl dX5_takeLot_37 ?_
      refine tm_ast rfl (ix := c) (ix_nI hc (by decide)) 39 rfl dX5_takeLot_38 ?_
      refine tm_aload_0 40 rfl dX5_takeLot_39 ?_
      refine tm_dup rfl 41 rfl dX5_takeLot_40 ?_
      refine tm_geti fl_X5_17 rfl rfl 44 rfl dX5_takeLot_41 ?_
      refine tm_iconst (1) rfl 45 rfl dX5_takeLot_44 ?_
      rw [s1_ne (by decide), s1_eq]
      refine tm_iadd 46 rfl dX5_takeLot_45 ?_
      rw [nI_1]
      refine tm_puti fl_X5_17 fw_4_2 rfl rfl rfl rfl 49 rfl dX5_takeLot_46 ?_
      refine tm_iinc_2 (nI (dd + 1)) (iinc1 dd) (by decide) rfl 52 rfl dX5_takeLot_49 ?_
      refine tm_goto 9 rfl dX5_takeLot_52 ?_
      rw [lt_mem]
      exact ih (lt_s1 hP h18)
  · refine tm_iload_2 10 rfl dX5_takeLot_9 ?_
    refine tm_iconst (4) rfl 11 rfl dX5_takeLot_10 ?_
    refine tm_icmp_ge_t 55 (by decide) rfl dX5_takeLot_11 ?_
    exact tm_vret (by first | (have z : dB (sg t s (p + dd)) = false := h18; rw [ltJ_1 hk hP z]) | rw [ltJ_2 hPN]) rfl dX5_takeLot_55

