/-! clauses -/
def kd (x : Int32) : Nat := if x = 110 ∨ x = 116 then 1 else if x = 43 ∨ x = 45 then 2 else if x = 119 then 3 else if x = 113 then 4 else if x = 120 then 5 else if x = 103 ∨ x = 100 ∨ x = 111 ∨ x = 107 then 6 else 0
theorem kd_0 {x : Int32} (h : kd x = 0) : x ≠ 110 ∧ x ≠ 116 ∧ x ≠ 43 ∧ x ≠ 45 ∧ x ≠ 119 ∧ x ≠ 113 ∧ x ≠ 120 ∧ x ≠ 103 ∧ x ≠ 100 ∧ x ≠ 111 ∧ x ≠ 107 := by
  refine ⟨?_, ?_, ?_, ?_, ?_, ?_, ?_, ?_, ?_, ?_, ?_⟩ <;> (intro q; subst q; exact absurd h (by decide))
theorem kd_n {x : Int32} (h : ¬ kd x = 0) : x = 110 ∨ x = 116 ∨ x = 43 ∨ x = 45 ∨ x = 119 ∨ x = 113 ∨ x = 120 ∨ x = 103 ∨ x = 100 ∨ x = 111 ∨ x = 107 := by
  unfold kd at h
  by_cases h1 : x = 110 ∨ x = 116
  · rcases h1 with q | q <;> simp [q]
  · rw [if_neg h1] at h
    by_cases h2 : x = 43 ∨ x = 45
    · rcases h2 with q | q <;> simp [q]
    · rw [if_neg h2] at h
      by_cases h3 : x = 119
      · simp [h3]
      · rw [if_neg h3] at h
        by_cases h4 : x = 113
        · simp [h4]
        · rw [if_neg h4] at h
          by_cases h5 : x = 120
          · simp [h5]
          · rw [if_neg h5] at h
            by_cases h6 : x = 103 ∨ x = 100 ∨ x = 111 ∨ x = 107
            · rcases h6 with q | q | q | q <;> simp [q]
            · rw [if_neg h6] at h; exact absurd rfl h
def okK (K : Nat) (t : Nat → Int32) (s p : Nat) : Bool := match K with
  | 1 => dB (sg t s (p + 1))
  | 2 => true
  | 3 => dB (sg t s (p + 1)) && dB (sg t s (nb1 t s (p + 2)))
  | 4 => dB (sg t s (nb1 t s (p + 1)))
  | 5 => dB (sg t s (p + 1)) && dB (sg t s (p + 2))
  | 6 => true
  | _ => false
def enK (K : Nat) (t : Nat → Int32) (s p : Nat) : Nat := match K with
  | 1 => if dB (sg t s (p + 1)) = true then p + 2 else p + 1
  | 2 => p + 1 + ltJ t s (p + 1) 4
  | 3 => if dB (sg t s (p + 1)) = true then (if dB (sg t s (nb1 t s (p + 2))) = true then nbE t s (nb1 t s (p + 2)) else nb1 t s (p + 2)) else p + 1
  | 4 => if dB (sg t s (nb1 t s (p + 1))) = true then nbE t s (nb1 t s (p + 1)) else nb1 t s (p + 1)
  | 5 => if dB (sg t s (p + 1)) = true then (if dB (sg t s (p + 2)) = true then p + 3 else p + 2) else p + 1
  | 6 => p + 1
  | _ => p
def fsK (K : Nat) (t : Nat → Int32) (s p : Nat) : Int32 := match K with
  | 2 => ltV t s (p + 1) (ltJ t s (p + 1) 4)
  | 4 => nbV t s (p + 1)
  | _ => sg t s (p + 1) - 48
def scK (K : Nat) (t : Nat → Int32) (s p : Nat) : Int32 := match K with
  | 3 => nbV t s (p + 2)
  | _ => sg t s (p + 2) - 48
theorem nb1_b (t : Nat → Int32) (s p : Nat) : p ≤ nb1 t s p ∧ nb1 t s p ≤ p + 1 := by unfold nb1; split <;> omega
theorem enK_b (K : Nat) (t : Nat → Int32) (s p : Nat) : enK K t s p ≤ p + 5 := by
  have a := nb1_b t s (p + 1)
  have b := nb1_b t s (p + 2)
  have c := nbE_b t s (nb1 t s (p + 1))
  have e := nbE_b t s (nb1 t s (p + 2))
  have f := ltJ_le t s (p + 1) 4
  unfold enK
  split
  · split <;> omega
  · omega
  · split
    · split <;> omega
    · omega
  · split <;> omega
  · split
    · split <;> omega
    · omega
  · omega
  · omega
def frT (c : Nat) (M M' : MI) : Prop := ∀ i k, ¬ ((i = 23 ∧ k = 2) ∨ (25 ≤ i ∧ i ≤ 27 ∧ k = c)) → M' i k = M i k
theorem frT.rf {c : Nat} {M : MI} : frT c M M := fun _ _ _ => rfl
theorem frT.s1 {c : Nat} {M M' : MI} (h : frT c M M') {i k : Nat} (hi : (i = 23 ∧ k = 2) ∨ (25 ≤ i ∧ i ≤ 27 ∧ k = c)) (x : Int32) : frT c M (s1 M' i k x) := fun j u q => by
  rw [s1_at, if_neg (fun z => q (by rw [z.1, z.2]; exact hi))]
  exact h j u q
def clQ (K : Nat) (t : Nat → Int32) (s p c : Nat) (M : MI) (r : Int32) (M' : MI) : Prop := r = bI (okK K t s p) ∧ M' 23 2 = nI (enK K t s p) ∧ M' 25 c = sg t s p ∧ (okK K t s p = true → (1 ≤ K ∧ K ≤ 5 → M' 26 c = fsK K t s p) ∧ (K = 3 ∨ K = 5 → M' 27 c = scK K t s p)) ∧ frT c M M'
theorem lk_d : ∀ (l : List (Int × Int)) (d k : Int), (l.all (fun a => decide (¬ a.1 = k))) = true → Op.lookupswitch.offset l d k = d
  | [], _, _, _ => rfl
  | a :: r, d, k, h => by
    rw [List.all_cons, Bool.and_eq_true] at h
    show (if a.1 = k then a.2 else Op.lookupswitch.offset r d k) = d
    rw [if_neg (of_decide_eq_true h.1), lk_d r d k h.2]
theorem lk_ne {x : Int32} {a : Int} {b : Int32} (hb : b.toInt = a) (h : x ≠ b) : decide (¬ a = x.toInt) = true := decide_eq_true (fun q => h (by rw [fa_eq, hb, q]))
set_option maxRecDepth 100000 in
set_option maxHeartbeats 4000000 in
theorem c_X5_takeClause_110 {g : GC} {d : Nat} {M : MI} {L : ML} {s p : Nat} {t : Nat → Int32} (hT : txC M s t p) (hk : sg t s p = 110) {c : Nat} (hc : c < 12) (hp9 : p < 900) : CrI g (d + 3) yX5_takeClause cX5_takeClause 3 .boolean [rf g 23, .int (nI c)] M L (fun r M' L' => L' = L ∧ clQ 1 t s p c M r M') := by
  refine crI_of (own := RX5) (l := [some (rf g 23), some (.int (nI c)), none]) 1 rfl rfl rfl (Nat.le_of_ble_eq_true rfl) ?_
  refine tm_aload_0 1 rfl dX5_takeClause_0 ?_
  refine tm_callV_I (ci := 4) (c_X5_sign hT) mv_X5_sign ml_X5_36 rfl rfl rfl rfl rfl (Nat.le_of_ble_eq_true rfl) 4 rfl dX5_takeClause_1 ?_
  rw [hk]
  refine tm_istore_2 (by decide) rfl 5 rfl dX5_takeClause_4 ?_
  refine tm_aload_0 6 rfl dX5_takeClause_5 ?_
  refine tm_getr fl_X5_20 rfl rfl 9 rfl dX5_takeClause_6 ?_
  refine tm_iload_1 10 rfl dX5_takeClause_9 ?_
  refine tm_iload_2 11 rfl dX5_takeClause_10 ?_
  refine tm_ast rfl (ix := c) (ix_nI hc (by decide)) 12 rfl dX5_takeClause_11 ?_
  refine tm_iload_2 13 rfl dX5_takeClause_12 ?_
  refine tm_look (off := 99) 112 (by decide +kernel) (by decide +kernel) rfl dX5_takeClause_13 ?_
  refine tm_aload_0 113 rfl dX5_takeClause_112 ?_
  refine tm_dup rfl 114 rfl dX5_takeClause_113 ?_
  refine tm_geti fl_X5_17 rfl rfl 117 rfl dX5_takeClause_114 ?_
  refine tm_iconst (1) rfl 118 rfl dX5_takeClause_117 ?_
  refine tm_iadd 119 rfl dX5_takeClause_118 ?_
  rw [s1_ne (by decide), hT.2.2.2.1, nI_1]
  refine tm_puti fl_X5_17 fw_4_2 rfl rfl rfl rfl 122 rfl dX5_takeClause_119 ?_
  refine tm_aload_0 123 rfl dX5_takeClause_122 ?_
  refine tm_aload_0 124 rfl dX5_takeClause_123 ?_
  refine tm_getr fl_X5_23 rfl rfl 127 rfl dX5_takeClause_124 ?_
  refine tm_iload_1 128 rfl dX5_takeClause_127 ?_
  refine tm_callV_I (ci := 4) (c_X5_takeDigit (j := 26) (c := c) ((hT.ro (j := 25) (k := c) (x := 110) (by decide) (by decide)).pl (p2 := p + 1) (by omega)) (by rfl) (by decide) (by decide) hc (by omega)) mv_X5_takeDigit ml_X5_40 rfl rfl rfl rfl rfl (Nat.le_of_ble_eq_true rfl) 131 rfl dX5_takeClause_128 ?_
  exact tm_zretR (bI_01 _) (by cases q : dB (sg t s (p + 1)) with | false => exact ⟨rfl, by simp [okK, bI, q], by simp [enK, q, s1_at], by rw [hk]; simp [s1_at], fun z => by simp [okK, bI, q] at z, ((frT.rf).s1 (Or.inr ⟨by decide, by decide, rfl⟩) _).s1 (Or.inl ⟨rfl, rfl⟩) _⟩ | true => exact ⟨rfl, by simp [okK, bI, q], by simp [enK, q, s1_at], by rw [hk]; simp [s1_at], fun _ => ⟨fun _ => by simp [fsK, s1_at], fun z => absurd z (by decide)⟩, ((((frT.rf).s1 (Or.inr ⟨by decide, by decide, rfl⟩) _).s1 (Or.inl ⟨rfl, rfl⟩) _).s1 (Or.inr ⟨by decide, by decide, rfl⟩) _).s1 (Or.inl ⟨rfl, rfl⟩) _⟩) dX5_takeClause_131

set_option maxRecDepth 100000 in
set_option maxHeartbeats 4000000 in
theorem c_X5_takeClause_116 {g : GC} {d : Nat} {M : MI} {L : ML} {s p : Nat} {t : Nat → Int32} (hT : txC M s t p) (hk : sg t s p = 116) {c : Nat} (hc : c < 12) (hp9 : p < 900) : CrI g (d + 3) yX5_takeClause cX5_takeClause 3 .boolean [rf g 23, .int (nI c)] M L (fun r M' L' => L' = L ∧ clQ 1 t s p c M r M') := by
  refine crI_of (own := RX5) (l := [some (rf g 23), some (.int (nI c)), none]) 1 rfl rfl rfl (Nat.le_of_ble_eq_true rfl) ?_
  refine tm_aload_0 1 rfl dX5_takeClause_0 ?_
  refine tm_callV_I (ci := 4) (c_X5_sign hT) mv_X5_sign ml_X5_36 rfl rfl rfl rfl rfl (Nat.le_of_ble_eq_true rfl) 4 rfl dX5_takeClause_1 ?_
  rw [hk]
  refine tm_istore_2 (by decide) rfl 5 rfl dX5_takeClause_4 ?_
  refine tm_aload_0 6 rfl dX5_takeClause_5 ?_
  refine tm_getr fl_X5_20 rfl rfl 9 rfl dX5_takeClause_6 ?_
  refine tm_iload_1 10 rfl dX5_takeClause_9 ?_
  refine tm_iload_2 11 rfl dX5_takeClause_10 ?_
  refine tm_ast rfl (ix := c) (ix_nI hc (by decide)) 12 rfl dX5_takeClause_11 ?_
  refine tm_iload_2 13 rfl dX5_takeClause_12 ?_
  refine tm_look (off := 99) 112 (by decide +kernel) (by decide +kernel) rfl dX5_takeClause_13 ?_
  refine tm_aload_0 113 rfl dX5_takeClause_112 ?_
  refine tm_dup rfl 114 rfl dX5_takeClause_113 ?_
  refine tm_geti fl_X5_17 rfl rfl 117 rfl dX5_takeClause_114 ?_
  refine tm_iconst (1) rfl 118 rfl dX5_takeClause_117 ?_
  refine tm_iadd 119 rfl dX5_takeClause_118 ?_
  rw [s1_ne (by decide), hT.2.2.2.1, nI_1]
  refine tm_puti fl_X5_17 fw_4_2 rfl rfl rfl rfl 122 rfl dX5_takeClause_119 ?_
  refine tm_aload_0 123 rfl dX5_takeClause_122 ?_
  refine tm_aload_0 124 rfl dX5_takeClause_123 ?_
  refine tm_getr fl_X5_23 rfl rfl 127 rfl dX5_takeClause_124 ?_
  refine tm_iload_1 128 rfl dX5_takeClause_127 ?_
  refine tm_callV_I (ci := 4) (c_X5_takeDigit (j := 26) (c := c) ((hT.ro (j := 25) (k := c) (x := 116) (by decide) (by decide)).pl (p2 := p + 1) (by omega)) (by rfl) (by decide) (by decide) hc (by omega)) mv_X5_takeDigit ml_X5_40 rfl rfl rfl rfl rfl (Nat.le_of_ble_eq_true rfl) 131 rfl dX5_takeClause_128 ?_
  exact tm_zretR (bI_01 _) (by cases q : dB (sg t s (p + 1)) with | false => exact ⟨rfl, by simp [okK, bI, q], by simp [enK, q, s1_at], by rw [hk]; simp [s1_at], fun z => by simp [okK, bI, q] at z, ((frT.rf).s1 (Or.inr ⟨by decide, by decide, rfl⟩) _).s1 (Or.inl ⟨rfl, rfl⟩) _⟩ | true => exact ⟨rfl, by simp [okK, bI, q], by simp [enK, q, s1_at], by rw [hk]; simp [s1_at], fun _ => ⟨fun _ => by simp [fsK, s1_at], fun z => absurd z (by decide)⟩, ((((frT.rf).s1 (Or.inr ⟨by decide, by decide, rfl⟩) _).s1 (Or.inl ⟨rfl, rfl⟩) _).s1 (Or.inr ⟨by decide, by decide, rfl⟩) _).s1 (Or.inl ⟨rfl, rfl⟩) _⟩) dX5_takeClause_131

set_option maxRecDepth 100000 in
set_option maxHeartbeats 4000000 in
theorem c_X5_takeClause_43 {g : GC} {d : Nat} {M : MI} {L : ML} {s p : Nat} {t : Nat → Int32} (hT : txC M s t p) (hk : sg t s p = 43) {c : Nat} (hc : c < 12) (hp9 : p < 900) : CrI g (d + 3) yX5_takeClause cX5_takeClause 3 .boolean [rf g 23, .int (nI c)] M L (fun r M' L' => L' = L ∧ clQ 2 t s p c M r M') := by
  refine crI_of (own := RX5) (l := [some (rf g 23), some (.int (nI c)), none]) 1 rfl rfl rfl (Nat.le_of_ble_eq_true rfl) ?_
  refine tm_aload_0 1 rfl dX5_takeClause_0 ?_
  refine tm_callV_I (ci := 4) (c_X5_sign hT) mv_X5_sign ml_X5_36 rfl rfl rfl rfl rfl (Nat.le_of_ble_eq_true rfl) 4 rfl dX5_takeClause_1 ?_
  rw [hk]
  refine tm_istore_2 (by decide) rfl 5 rfl dX5_takeClause_4 ?_
  refine tm_aload_0 6 rfl dX5_takeClause_5 ?_
  refine tm_getr fl_X5_20 rfl rfl 9 rfl dX5_takeClause_6 ?_
  refine tm_iload_1 10 rfl dX5_takeClause_9 ?_
  refine tm_iload_2 11 rfl dX5_takeClause_10 ?_
  refine tm_ast rfl (ix := c) (ix_nI hc (by decide)) 12 rfl dX5_takeClause_11 ?_
  refine tm_iload_2 13 rfl dX5_takeClause_12 ?_
  refine tm_look (off := 119) 132 (by decide +kernel) (by decide +kernel) rfl dX5_takeClause_13 ?_
  refine tm_aload_0 133 rfl dX5_takeClause_132 ?_
  refine tm_dup rfl 134 rfl dX5_takeClause_133 ?_
  refine tm_geti fl_X5_17 rfl rfl 137 rfl dX5_takeClause_134 ?_
  refine tm_iconst (1) rfl 138 rfl dX5_takeClause_137 ?_
  refine tm_iadd 139 rfl dX5_takeClause_138 ?_
  rw [s1_ne (by decide), hT.2.2.2.1, nI_1]
  refine tm_puti fl_X5_17 fw_4_2 rfl rfl rfl rfl 142 rfl dX5_takeClause_139 ?_
  refine tm_aload_0 143 rfl dX5_takeClause_142 ?_
  refine tm_iload_1 144 rfl dX5_takeClause_143 ?_
  refine tm_callV_V (ci := 4) (c_X5_takeLot (c := c) ((hT.ro (j := 25) (k := c) (x := 43) (by decide) (by decide)).pl (p2 := p + 1) (by omega)) hc (by omega)) mv_X5_takeLot ml_X5_44 rfl rfl rfl rfl rfl (Nat.le_of_ble_eq_true rfl) 147 rfl dX5_takeClause_144 ?_
  refine tm_iconst (1) rfl 148 rfl dX5_takeClause_147 ?_
  exact tm_zretR (by decide) ⟨rfl, rfl, by simp [enK, s1_at], by rw [hk]; simp [s1_at], fun _ => ⟨fun _ => by simp [fsK, s1_at], fun z => absurd z (by decide)⟩, ((((frT.rf).s1 (Or.inr ⟨by decide, by decide, rfl⟩) _).s1 (Or.inl ⟨rfl, rfl⟩) _).s1 (Or.inr ⟨by decide, by decide, rfl⟩) _).s1 (Or.inl ⟨rfl, rfl⟩) _⟩ dX5_takeClause_148

set_option maxRecDepth 100000 in
set_option maxHeartbeats 4000000 in
theorem c_X5_takeClause_45 {g : GC} {d : Nat} {M : MI} {L : ML} {s p : Nat} {t : Nat → Int32} (hT : txC M s t p) (hk : sg t s p = 45) {c : Nat} (hc : c < 12) (hp9 : p < 900) : CrI g (d + 3) yX5_takeClause cX5_takeClause 3 .boolean [rf g 23, .int (nI c)] M L (fun r M' L' => L' = L ∧ clQ 2 t s p c M r M') := by
  refine crI_of (own := RX5) (l := [some (rf g 23), some (.int (nI c)), none]) 1 rfl rfl rfl (Nat.le_of_ble_eq_true rfl) ?_
  refine tm_aload_0 1 rfl dX5_takeClause_0 ?_
  refine tm_callV_I (ci := 4) (c_X5_sign hT) mv_X5_sign ml_X5_36 rfl rfl rfl rfl rfl (Nat.le_of_ble_eq_true rfl) 4 rfl dX5_takeClause_1 ?_
  rw [hk]
  refine tm_istore_2 (by decide) rfl 5 rfl dX5_takeClause_4 ?_
  refine tm_aload_0 6 rfl dX5_takeClause_5 ?_
  refine tm_getr fl_X5_20 rfl rfl 9 rfl dX5_takeClause_6 ?_
  refine tm_iload_1 10 rfl dX5_takeClause_9 ?_
  refine tm_iload_2 11 rfl dX5_takeClause_10 ?_
  refine tm_ast rfl (ix := c) (ix_nI hc (by decide)) 12 rfl dX5_takeClause_11 ?_
  refine tm_iload_2 13 rfl dX5_takeClause_12 ?_
  refine tm_look (off := 119) 132 (by decide +kernel) (by decide +kernel) rfl dX5_takeClause_13 ?_
  refine tm_aload_0 133 rfl dX5_takeClause_132 ?_
  refine tm_dup rfl 134 rfl dX5_takeClause_133 ?_
  refine tm_geti fl_X5_17 rfl rfl 137 rfl dX5_takeClause_134 ?_
  refine tm_iconst (1) rfl 138 rfl dX5_takeClause_137 ?_
  refine tm_iadd 139 rfl dX5_takeClause_138 ?_
  rw [s1_ne (by decide), hT.2.2.2.1, nI_1]
  refine tm_puti fl_X5_17 fw_4_2 rfl rfl rfl rfl 142 rfl dX5_takeClause_139 ?_
  refine tm_aload_0 143 rfl dX5_takeClause_142 ?_
  refine tm_iload_1 144 rfl dX5_takeClause_143 ?_
  refine tm_callV_V (ci := 4) (c_X5_takeLot (c := c) ((hT.ro (j := 25) (k := c) (x := 45) (by decide) (by decide)).pl (p2 := p + 1) (by omega)) hc (by omega)) mv_X5_takeLot ml_X5_44 rfl rfl rfl rfl rfl (Nat.le_of_ble_eq_true rfl) 147 rfl dX5_takeClause_144 ?_
  refine tm_iconst (1) rfl 148 rfl dX5_takeClause_147 ?_
  exact tm_zretR (by decide) ⟨rfl, rfl, by simp [enK, s1_at], by rw [hk]; simp [s1_at], fun _ => ⟨fun _ => by simp [fsK, s1_at], fun z => absurd z (by decide)⟩, ((((frT.rf).s1 (Or.inr ⟨by decide, by decide, rfl⟩) _).s1 (Or.inl ⟨rfl, rfl⟩) _).s1 (Or.inr ⟨by decide, by decide, rfl⟩) _).s1 (Or.inl ⟨rfl, rfl⟩) _⟩ dX5_takeClause_148

set_option maxRecDepth 100000 in
set_option maxHeartbeats 4000000 in
theorem c_X5_takeClause_119 {g : GC} {d : Nat} {M : MI} {L : ML} {s p : Nat} {t : Nat → Int32} (hT : txC M s t p) (hk : sg t s p = 119) {c : Nat} (hc : c < 12) (hp9 : p < 900) : CrI g (d + 3) yX5_takeClause cX5_takeClause 3 .boolean [rf g 23, .int (nI c)] M L (fun r M' L' => L' = L ∧ clQ 3 t s p c M r M') := by
  refine crI_of (own := RX5) (l := [some (rf g 23), some (.int (nI c)), none]) 1 rfl rfl rfl (Nat.le_of_ble_eq_true rfl) ?_
  refine tm_aload_0 1 rfl dX5_takeClause_0 ?_
  refine tm_callV_I (ci := 4) (c_X5_sign hT) mv_X5_sign ml_X5_36 rfl rfl rfl rfl rfl (Nat.le_of_ble_eq_true rfl) 4 rfl dX5_takeClause_1 ?_
  rw [hk]
  refine tm_istore_2 (by decide) rfl 5 rfl dX5_takeClause_4 ?_
  refine tm_aload_0 6 rfl dX5_takeClause_5 ?_
  refine tm_getr fl_X5_20 rfl rfl 9 rfl dX5_takeClause_6 ?_
  refine tm_iload_1 10 rfl dX5_takeClause_9 ?_
  refine tm_iload_2 11 rfl dX5_takeClause_10 ?_
  refine tm_ast rfl (ix := c) (ix_nI hc (by decide)) 12 rfl dX5_takeClause_11 ?_
  refine tm_iload_2 13 rfl dX5_takeClause_12 ?_
  refine tm_look (off := 136) 149 (by decide +kernel) (by decide +kernel) rfl dX5_takeClause_13 ?_
  refine tm_aload_0 150 rfl dX5_takeClause_149 ?_
  refine tm_dup rfl 151 rfl dX5_takeClause_150 ?_
  refine tm_geti fl_X5_17 rfl rfl 154 rfl dX5_takeClause_151 ?_
  refine tm_iconst (1) rfl 155 rfl dX5_takeClause_154 ?_
  refine tm_iadd 156 rfl dX5_takeClause_155 ?_
  rw [s1_ne (by decide), hT.2.2.2.1, nI_1]
  refine tm_puti fl_X5_17 fw_4_2 rfl rfl rfl rfl 159 rfl dX5_takeClause_156 ?_
  refine tm_aload_0 160 rfl dX5_takeClause_159 ?_
  refine tm_aload_0 161 rfl dX5_takeClause_160 ?_
  refine tm_getr fl_X5_23 rfl rfl 164 rfl dX5_takeClause_161 ?_
  refine tm_iload_1 165 rfl dX5_takeClause_164 ?_
  refine tm_callV_I (ci := 4) (c_X5_takeDigit (j := 26) (c := c) ((hT.ro (j := 25) (k := c) (x := 119) (by decide) (by decide)).pl (p2 := p + 1) (by omega)) (by rfl) (by decide) (by decide) hc (by omega)) mv_X5_takeDigit ml_X5_40 rfl rfl rfl rfl rfl (Nat.le_of_ble_eq_true rfl) 168 rfl dX5_takeClause_165 ?_
  refine tm_if_eqB 187 171 rfl rfl dX5_takeClause_168 (fun h168 => ?_) (fun h168 => ?_)
  · refine tm_iconst (0) rfl 188 rfl dX5_takeClause_187 ?_
    first | rw [if_pos h180] | rw [if_neg (show ¬ dB (sg t s (nb1 t s (p + 1 + 1))) = true from by rw [h180]; decide)] | rw [if_neg (show ¬ dB (sg t s (p + 1)) = true from by rw [h168]; decide)]
    exact tm_zretR (by decide) (by first | (have z : dB (sg t s (nb1 t s (p + 1 + 1))) = true := h180; exact ⟨rfl, by simp [okK, bI, h168, z], by simp [enK, h168, z, s1_at], by rw [hk]; simp [s1_at], fun _ => ⟨fun _ => by simp [fsK, s1_at], fun _ => by simp [scK, s1_at]⟩, ((((((frT.rf).s1 (Or.inr ⟨by decide, by decide, rfl⟩) _).s1 (Or.inl ⟨rfl, rfl⟩) _).s1 (Or.inr ⟨by decide, by decide, rfl⟩) _).s1 (Or.inl ⟨rfl, rfl⟩) _).s1 (Or.inl ⟨rfl, rfl⟩) _).s1 (Or.inr ⟨by decide, by decide, rfl⟩) _⟩) | (have z : dB (sg t s (nb1 t s (p + 1 + 1))) = false := h180; exact ⟨rfl, by simp [okK, bI, h168, z], by simp [enK, h168, z, s1_at], by rw [hk]; simp [s1_at], fun y => by simp [okK, bI, h168, z] at y, (((((frT.rf).s1 (Or.inr ⟨by decide, by decide, rfl⟩) _).s1 (Or.inl ⟨rfl, rfl⟩) _).s1 (Or.inr ⟨by decide, by decide, rfl⟩) _).s1 (Or.inl ⟨rfl, rfl⟩) _).s1 (Or.inl ⟨rfl, rfl⟩) _⟩) | exact ⟨rfl, by simp [okK, bI, h168], by simp [enK, h168, s1_at], by rw [hk]; simp [s1_at], fun y => by simp [okK, bI, h168] at y, ((frT.rf).s1 (Or.inr ⟨by decide, by decide, rfl⟩) _).s1 (Or.inl ⟨rfl, rfl⟩) _⟩) dX5_takeClause_188
  · rw [if_pos h168]
    refine tm_aload_0 172 rfl dX5_takeClause_171 ?_
    refine tm_aload_0 173 rfl dX5_takeClause_172 ?_
    refine tm_getr fl_X5_26 rfl rfl 176 rfl dX5_takeClause_173 ?_
    refine tm_iload_1 177 rfl dX5_takeClause_176 ?_
    refine tm_callV_I (ci := 4) (c_X5_takeNumber (j := 27) (c := c) ((((hT.ro (j := 25) (k := c) (x := 119) (by decide) (by decide)).pl (p2 := p + 1) (by omega)).ro (j := 26) (k := c) (x := sg t s (p + 1) - 48) (by decide) (by decide)).pl (p2 := p + 1 + 1) (by omega)) (by rfl) (by decide) (by decide) hc (by omega)) mv_X5_takeNumber ml_X5_48 rfl rfl rfl rfl rfl (Nat.le_of_ble_eq_true rfl) 180 rfl dX5_takeClause_177 ?_
    refine tm_if_eqB 187 183 rfl rfl dX5_takeClause_180 (fun h180 => ?_) (fun h180 => ?_)
    · refine tm_iconst (0) rfl 188 rfl dX5_takeClause_187 ?_
      first | rw [if_pos h180] | rw [if_neg (show ¬ dB (sg t s (nb1 t s (p + 1 + 1))) = true from by rw [h180]; decide)] | rw [if_neg (show ¬ dB (sg t s (p + 1)) = true from by rw [h168]; decide)]
      exact tm_zretR (by decide) (by first | (have z : dB (sg t s (nb1 t s (p + 1 + 1))) = true := h180; exact ⟨rfl, by simp [okK, bI, h168, z], by simp [enK, h168, z, s1_at], by rw [hk]; simp [s1_at], fun _ => ⟨fun _ => by simp [fsK, s1_at], fun _ => by simp [scK, s1_at]⟩, ((((((frT.rf).s1 (Or.inr ⟨by decide, by decide, rfl⟩) _).s1 (Or.inl ⟨rfl, rfl⟩) _).s1 (Or.inr ⟨by decide, by decide, rfl⟩) _).s1 (Or.inl ⟨rfl, rfl⟩) _).s1 (Or.inl ⟨rfl, rfl⟩) _).s1 (Or.inr ⟨by decide, by decide, rfl⟩) _⟩) | (have z : dB (sg t s (nb1 t s (p + 1 + 1))) = false := h180; exact ⟨rfl, by simp [okK, bI, h168, z], by simp [enK, h168, z, s1_at], by rw [hk]; simp [s1_at], fun y => by simp [okK, bI, h168, z] at y, (((((frT.rf).s1 (Or.inr ⟨by decide, by decide, rfl⟩) _).s1 (Or.inl ⟨rfl, rfl⟩) _).s1 (Or.inr ⟨by decide, by decide, rfl⟩) _).s1 (Or.inl ⟨rfl, rfl⟩) _).s1 (Or.inl ⟨rfl, rfl⟩) _⟩) | exact ⟨rfl, by simp [okK, bI, h168], by simp [enK, h168, s1_at], by rw [hk]; simp [s1_at], fun y => by simp [okK, bI, h168] at y, ((frT.rf).s1 (Or.inr ⟨by decide, by decide, rfl⟩) _).s1 (Or.inl ⟨rfl, rfl⟩) _⟩) dX5_takeClause_188
    · refine tm_iconst (1) rfl 184 rfl dX5_takeClause_183 ?_
      refine tm_goto 188 rfl dX5_takeClause_184 ?_
      first | rw [if_pos h180] | rw [if_neg (show ¬ dB (sg t s (nb1 t s (p + 1 + 1))) = true from by rw [h180]; decide)] | rw [if_neg (show ¬ dB (sg t s (p + 1)) = true from by rw [h168]; decide)]
      exact tm_zretR (by decide) (by first | (have z : dB (sg t s (nb1 t s (p + 1 + 1))) = true := h180; exact ⟨rfl, by simp [okK, bI, h168, z], by simp [enK, h168, z, s1_at], by rw [hk]; simp [s1_at], fun _ => ⟨fun _ => by simp [fsK, s1_at], fun _ => by simp [scK, s1_at]⟩, ((((((frT.rf).s1 (Or.inr ⟨by decide, by decide, rfl⟩) _).s1 (Or.inl ⟨rfl, rfl⟩) _).s1 (Or.inr ⟨by decide, by decide, rfl⟩) _).s1 (Or.inl ⟨rfl, rfl⟩) _).s1 (Or.inl ⟨rfl, rfl⟩) _).s1 (Or.inr ⟨by decide, by decide, rfl⟩) _⟩) | (have z : dB (sg t s (nb1 t s (p + 1 + 1))) = false := h180; exact ⟨rfl, by simp [okK, bI, h168, z], by simp [enK, h168, z, s1_at], by rw [hk]; simp [s1_at], fun y => by simp [okK, bI, h168, z] at y, (((((frT.rf).s1 (Or.inr ⟨by decide, by decide, rfl⟩) _).s1 (Or.inl ⟨rfl, rfl⟩) _).s1 (Or.inr ⟨by decide, by decide, rfl⟩) _).s1 (Or.inl ⟨rfl, rfl⟩) _).s1 (Or.inl ⟨rfl, rfl⟩) _⟩) | exact ⟨rfl, by simp [okK, bI, h168], by simp [enK, h168, s1_at], by rw [hk]; simp [s1_at], fun y => by simp [okK, bI, h168] at y, ((frT.rf).s1 (Or.inr ⟨by decide, by decide, rfl⟩) _).s1 (Or.inl ⟨rfl, rfl⟩) _⟩) dX5_takeClause_188

set_option maxRecDepth 100000 in
set_option maxHeartbeats 4000000 in
theorem c_X5_takeClause_113 {g : GC} {d : Nat} {M : MI} {L : ML} {s p : Nat} {t : Nat → Int32} (hT : txC M s t p) (hk : sg t s p = 113) {c : Nat} (hc : c < 12) (hp9 : p < 900) : CrI g (d + 3) yX5_takeClause cX5_takeClause 3 .boolean [rf g 23, .int (nI c)] M L (fun r M' L' => L' = L ∧ clQ 4 t s p c M r M') := by
  refine crI_of (own := RX5) (l := [some (rf g 23), some (.int (nI c)), none]) 1 rfl rfl rfl (Nat.le_of_ble_eq_true rfl) ?_
  refine tm_aload_0 1 rfl dX5_takeClause_0 ?_
  refine tm_callV_I (ci := 4) (c_X5_sign hT) mv_X5_sign ml_X5_36 rfl rfl rfl rfl rfl (Nat.le_of_ble_eq_true rfl) 4 rfl dX5_takeClause_1 ?_
  rw [hk]
  refine tm_istore_2 (by decide) rfl 5 rfl dX5_takeClause_4 ?_
  refine tm_aload_0 6 rfl dX5_takeClause_5 ?_
  refine tm_getr fl_X5_20 rfl rfl 9 rfl dX5_takeClause_6 ?_
  refine tm_iload_1 10 rfl dX5_takeClause_9 ?_
  refine tm_iload_2 11 rfl dX5_takeClause_10 ?_
  refine tm_ast rfl (ix := c) (ix_nI hc (by decide)) 12 rfl dX5_takeClause_11 ?_
  refine tm_iload_2 13 rfl dX5_takeClause_12 ?_
  refine tm_look (off := 176) 189 (by decide +kernel) (by decide +kernel) rfl dX5_takeClause_13 ?_
  refine tm_aload_0 190 rfl dX5_takeClause_189 ?_
  refine tm_dup rfl 191 rfl dX5_takeClause_190 ?_
  refine tm_geti fl_X5_17 rfl rfl 194 rfl dX5_takeClause_191 ?_
  refine tm_iconst (1) rfl 195 rfl dX5_takeClause_194 ?_
  refine tm_iadd 196 rfl dX5_takeClause_195 ?_
  rw [s1_ne (by decide), hT.2.2.2.1, nI_1]
  refine tm_puti fl_X5_17 fw_4_2 rfl rfl rfl rfl 199 rfl dX5_takeClause_196 ?_
  refine tm_aload_0 200 rfl dX5_takeClause_199 ?_
  refine tm_aload_0 201 rfl dX5_takeClause_200 ?_
  refine tm_getr fl_X5_23 rfl rfl 204 rfl dX5_takeClause_201 ?_
  refine tm_iload_1 205 rfl dX5_takeClause_204 ?_
  refine tm_callV_I (ci := 4) (c_X5_takeNumber (j := 26) (c := c) ((hT.ro (j := 25) (k := c) (x := 113) (by decide) (by decide)).pl (p2 := p + 1) (by omega)) (by rfl) (by decide) (by decide) hc (by omega)) mv_X5_takeNumber ml_X5_48 rfl rfl rfl rfl rfl (Nat.le_of_ble_eq_true rfl) 208 rfl dX5_takeClause_205 ?_
  exact tm_zretR (bI_01 _) (by cases q : dB (sg t s (nb1 t s (p + 1))) with | false => exact ⟨rfl, by simp [okK, bI, q], by simp [enK, q, s1_at], by rw [hk]; simp [s1_at], fun z => by simp [okK, bI, q] at z, (((frT.rf).s1 (Or.inr ⟨by decide, by decide, rfl⟩) _).s1 (Or.inl ⟨rfl, rfl⟩) _).s1 (Or.inl ⟨rfl, rfl⟩) _⟩ | true => exact ⟨rfl, by simp [okK, bI, q], by simp [enK, q, s1_at], by rw [hk]; simp [s1_at], fun _ => ⟨fun _ => by simp [fsK, s1_at], fun z => absurd z (by decide)⟩, ((((frT.rf).s1 (Or.inr ⟨by decide, by decide, rfl⟩) _).s1 (Or.inl ⟨rfl, rfl⟩) _).s1 (Or.inl ⟨rfl, rfl⟩) _).s1 (Or.inr ⟨by decide, by decide, rfl⟩) _⟩) dX5_takeClause_208

set_option maxRecDepth 100000 in
set_option maxHeartbeats 4000000 in
theorem c_X5_takeClause_120 {g : GC} {d : Nat} {M : MI} {L : ML} {s p : Nat} {t : Nat → Int32} (hT : txC M s t p) (hk : sg t s p = 120) {c : Nat} (hc : c < 12) (hp9 : p < 900) : CrI g (d + 3) yX5_takeClause cX5_takeClause 3 .boolean [rf g 23, .int (nI c)] M L (fun r M' L' => L' = L ∧ clQ 5 t s p c M r M') := by
  refine crI_of (own := RX5) (l := [some (rf g 23), some (.int (nI c)), none]) 1 rfl rfl rfl (Nat.le_of_ble_eq_true rfl) ?_
  refine tm_aload_0 1 rfl dX5_takeClause_0 ?_
  refine tm_callV_I (ci := 4) (c_X5_sign hT) mv_X5_sign ml_X5_36 rfl rfl rfl rfl rfl (Nat.le_of_ble_eq_true rfl) 4 rfl dX5_takeClause_1 ?_
  rw [hk]
  refine tm_istore_2 (by decide) rfl 5 rfl dX5_takeClause_4 ?_
  refine tm_aload_0 6 rfl dX5_takeClause_5 ?_
  refine tm_getr fl_X5_20 rfl rfl 9 rfl dX5_takeClause_6 ?_
  refine tm_iload_1 10 rfl dX5_takeClause_9 ?_
  refine tm_iload_2 11 rfl dX5_takeClause_10 ?_
  refine tm_ast rfl (ix := c) (ix_nI hc (by decide)) 12 rfl dX5_takeClause_11 ?_
  refine tm_iload_2 13 rfl dX5_takeClause_12 ?_
  refine tm_look (off := 196) 209 (by decide +kernel) (by decide +kernel) rfl dX5_takeClause_13 ?_
  refine tm_aload_0 210 rfl dX5_takeClause_209 ?_
  refine tm_dup rfl 211 rfl dX5_takeClause_210 ?_
  refine tm_geti fl_X5_17 rfl rfl 214 rfl dX5_takeClause_211 ?_
  refine tm_iconst (1) rfl 215 rfl dX5_takeClause_214 ?_
  refine tm_iadd 216 rfl dX5_takeClause_215 ?_
  rw [s1_ne (by decide), hT.2.2.2.1, nI_1]
  refine tm_puti fl_X5_17 fw_4_2 rfl rfl rfl rfl 219 rfl dX5_takeClause_216 ?_
  refine tm_aload_0 220 rfl dX5_takeClause_219 ?_
  refine tm_aload_0 221 rfl dX5_takeClause_220 ?_
  refine tm_getr fl_X5_23 rfl rfl 224 rfl dX5_takeClause_221 ?_
  refine tm_iload_1 225 rfl dX5_takeClause_224 ?_
  refine tm_callV_I (ci := 4) (c_X5_takeDigit (j := 26) (c := c) ((hT.ro (j := 25) (k := c) (x := 120) (by decide) (by decide)).pl (p2 := p + 1) (by omega)) (by rfl) (by decide) (by decide) hc (by omega)) mv_X5_takeDigit ml_X5_40 rfl rfl rfl rfl rfl (Nat.le_of_ble_eq_true rfl) 228 rfl dX5_takeClause_225 ?_
  refine tm_if_eqB 247 231 rfl rfl dX5_takeClause_228 (fun h228 => ?_) (fun h228 => ?_)
  · refine tm_iconst (0) rfl 248 rfl dX5_takeClause_247 ?_
    first | rw [if_pos h240] | rw [if_neg (show ¬ dB (sg t s (p + 1 + 1)) = true from by rw [h240]; decide)] | rw [if_neg (show ¬ dB (sg t s (p + 1)) = true from by rw [h228]; decide)]
    exact tm_zretR (by decide) (by first | (have z : dB (sg t s (p + 1 + 1)) = true := h240; exact ⟨rfl, by simp [okK, bI, h228, z], by simp [enK, h228, z, s1_at], by rw [hk]; simp [s1_at], fun _ => ⟨fun _ => by simp [fsK, s1_at], fun _ => by simp [scK, s1_at]⟩, ((((((frT.rf).s1 (Or.inr ⟨by decide, by decide, rfl⟩) _).s1 (Or.inl ⟨rfl, rfl⟩) _).s1 (Or.inr ⟨by decide, by decide, rfl⟩) _).s1 (Or.inl ⟨rfl, rfl⟩) _).s1 (Or.inr ⟨by decide, by decide, rfl⟩) _).s1 (Or.inl ⟨rfl, rfl⟩) _⟩) | (have z : dB (sg t s (p + 1 + 1)) = false := h240; exact ⟨rfl, by simp [okK, bI, h228, z], by simp [enK, h228, z, s1_at], by rw [hk]; simp [s1_at], fun y => by simp [okK, bI, h228, z] at y, ((((frT.rf).s1 (Or.inr ⟨by decide, by decide, rfl⟩) _).s1 (Or.inl ⟨rfl, rfl⟩) _).s1 (Or.inr ⟨by decide, by decide, rfl⟩) _).s1 (Or.inl ⟨rfl, rfl⟩) _⟩) | exact ⟨rfl, by simp [okK, bI, h228], by simp [enK, h228, s1_at], by rw [hk]; simp [s1_at], fun y => by simp [okK, bI, h228] at y, ((frT.rf).s1 (Or.inr ⟨by decide, by decide, rfl⟩) _).s1 (Or.inl ⟨rfl, rfl⟩) _⟩) dX5_takeClause_248
  · rw [if_pos h228]
    refine tm_aload_0 232 rfl dX5_takeClause_231 ?_
    refine tm_aload_0 233 rfl dX5_takeClause_232 ?_
    refine tm_getr fl_X5_26 rfl rfl 236 rfl dX5_takeClause_233 ?_
    refine tm_iload_1 237 rfl dX5_takeClause_236 ?_
    refine tm_callV_I (ci := 4) (c_X5_takeDigit (j := 27) (c := c) ((((hT.ro (j := 25) (k := c) (x := 120) (by decide) (by decide)).pl (p2 := p + 1) (by omega)).ro (j := 26) (k := c) (x := sg t s (p + 1) - 48) (by decide) (by decide)).pl (p2 := p + 1 + 1) (by omega)) (by rfl) (by decide) (by decide) hc (by omega)) mv_X5_takeDigit ml_X5_40 rfl rfl rfl rfl rfl (Nat.le_of_ble_eq_true rfl) 240 rfl dX5_takeClause_237 ?_
    refine tm_if_eqB 247 243 rfl rfl dX5_takeClause_240 (fun h240 => ?_) (fun h240 => ?_)
    · refine tm_iconst (0) rfl 248 rfl dX5_takeClause_247 ?_
      first | rw [if_pos h240] | rw [if_neg (show ¬ dB (sg t s (p + 1 + 1)) = true from by rw [h240]; decide)] | rw [if_neg (show ¬ dB (sg t s (p + 1)) = true from by rw [h228]; decide)]
      exact tm_zretR (by decide) (by first | (have z : dB (sg t s (p + 1 + 1)) = true := h240; exact ⟨rfl, by simp [okK, bI, h228, z], by simp [enK, h228, z, s1_at], by rw [hk]; simp [s1_at], fun _ => ⟨fun _ => by simp [fsK, s1_at], fun _ => by simp [scK, s1_at]⟩, ((((((frT.rf).s1 (Or.inr ⟨by decide, by decide, rfl⟩) _).s1 (Or.inl ⟨rfl, rfl⟩) _).s1 (Or.inr ⟨by decide, by decide, rfl⟩) _).s1 (Or.inl ⟨rfl, rfl⟩) _).s1 (Or.inr ⟨by decide, by decide, rfl⟩) _).s1 (Or.inl ⟨rfl, rfl⟩) _⟩) | (have z : dB (sg t s (p + 1 + 1)) = false := h240; exact ⟨rfl, by simp [okK, bI, h228, z], by simp [enK, h228, z, s1_at], by rw [hk]; simp [s1_at], fun y => by simp [okK, bI, h228, z] at y, ((((frT.rf).s1 (Or.inr ⟨by decide, by decide, rfl⟩) _).s1 (Or.inl ⟨rfl, rfl⟩) _).s1 (Or.inr ⟨by decide, by decide, rfl⟩) _).s1 (Or.inl ⟨rfl, rfl⟩) _⟩) | exact ⟨rfl, by simp [okK, bI, h228], by simp [enK, h228, s1_at], by rw [hk]; simp [s1_at], fun y => by simp [okK, bI, h228] at y, ((frT.rf).s1 (Or.inr ⟨by decide, by decide, rfl⟩) _).s1 (Or.inl ⟨rfl, rfl⟩) _⟩) dX5_takeClause_248
    · refine tm_iconst (1) rfl 244 rfl dX5_takeClause_243 ?_
      refine tm_goto 248 rfl dX5_takeClause_244 ?_
      first | rw [if_pos h240] | rw [if_neg (show ¬ dB (sg t s (p + 1 + 1)) = true from by rw [h240]; decide)] | rw [if_neg (show ¬ dB (sg t s (p + 1)) = true from by rw [h228]; decide)]
      exact tm_zretR (by decide) (by first | (have z : dB (sg t s (p + 1 + 1)) = true := h240; exact ⟨rfl, by simp [okK, bI, h228, z], by simp [enK, h228, z, s1_at], by rw [hk]; simp [s1_at], fun _ => ⟨fun _ => by simp [fsK, s1_at], fun _ => by simp [scK, s1_at]⟩, ((((((frT.rf).s1 (Or.inr ⟨by decide, by decide, rfl⟩) _).s1 (Or.inl ⟨rfl, rfl⟩) _).s1 (Or.inr ⟨by decide, by decide, rfl⟩) _).s1 (Or.inl ⟨rfl, rfl⟩) _).s1 (Or.inr ⟨by decide, by decide, rfl⟩) _).s1 (Or.inl ⟨rfl, rfl⟩) _⟩) | (have z : dB (sg t s (p + 1 + 1)) = false := h240; exact ⟨rfl, by simp [okK, bI, h228, z], by simp [enK, h228, z, s1_at], by rw [hk]; simp [s1_at], fun y => by simp [okK, bI, h228, z] at y, ((((frT.rf).s1 (Or.inr ⟨by decide, by decide, rfl⟩) _).s1 (Or.inl ⟨rfl, rfl⟩) _).s1 (Or.inr ⟨by decide, by decide, rfl⟩) _).s1 (Or.inl ⟨rfl, rfl⟩) _⟩) | exact ⟨rfl, by simp [okK, bI, h228], by simp [enK, h228, s1_at], by rw [hk]; simp [s1_at], fun y => by simp [okK, bI, h228] at y, ((frT.rf).s1 (Or.inr ⟨by decide, by decide, rfl⟩) _).s1 (Or.inl ⟨rfl, rfl⟩) _⟩) dX5_takeClause_248

set_option maxRecDepth 100000 in
set_option maxHeartbeats 4000000 in
theorem c_X5_takeClause_103 {g : GC} {d : Nat} {M : MI} {L : ML} {s p : Nat} {t : Nat → Int32} (hT : txC M s t p) (hk : sg t s p = 103) {c : Nat} (hc : c < 12) (hp9 : p < 900) : CrI g (d + 3) yX5_takeClause cX5_takeClause 3 .boolean [rf g 23, .int (nI c)] M L (fun r M' L' => L' = L ∧ clQ 6 t s p c M r M') := by
  refine crI_of (own := RX5) (l := [some (rf g 23), some (.int (nI c)), none]) 1 rfl rfl rfl (Nat.le_of_ble_eq_true rfl) ?_
  refine tm_aload_0 1 rfl dX5_takeClause_0 ?_
  refine tm_callV_I (ci := 4) (c_X5_sign hT) mv_X5_sign ml_X5_36 rfl rfl rfl rfl rfl (Nat.le_of_ble_eq_true rfl) 4 rfl dX5_takeClause_1 ?_
  rw [hk]
  refine tm_istore_2 (by decide) rfl 5 rfl dX5_takeClause_4 ?_
  refine tm_aload_0 6 rfl dX5_takeClause_5 ?_
  refine tm_getr fl_X5_20 rfl rfl 9 rfl dX5_takeClause_6 ?_
  refine tm_iload_1 10 rfl dX5_takeClause_9 ?_
  refine tm_iload_2 11 rfl dX5_takeClause_10 ?_
  refine tm_ast rfl (ix := c) (ix_nI hc (by decide)) 12 rfl dX5_takeClause_11 ?_
  refine tm_iload_2 13 rfl dX5_takeClause_12 ?_
  refine tm_look (off := 236) 249 (by decide +kernel) (by decide +kernel) rfl dX5_takeClause_13 ?_
  refine tm_aload_0 250 rfl dX5_takeClause_249 ?_
  refine tm_dup rfl 251 rfl dX5_takeClause_250 ?_
  refine tm_geti fl_X5_17 rfl rfl 254 rfl dX5_takeClause_251 ?_
  refine tm_iconst (1) rfl 255 rfl dX5_takeClause_254 ?_
  refine tm_iadd 256 rfl dX5_takeClause_255 ?_
  rw [s1_ne (by decide), hT.2.2.2.1, nI_1]
  refine tm_puti fl_X5_17 fw_4_2 rfl rfl rfl rfl 259 rfl dX5_takeClause_256 ?_
  refine tm_iconst (1) rfl 260 rfl dX5_takeClause_259 ?_
  exact tm_zretR (by decide) ⟨rfl, rfl, by simp [enK, s1_at], by rw [hk]; simp [s1_at], fun _ => ⟨fun z => absurd z (by decide), fun z => absurd z (by decide)⟩, ((frT.rf).s1 (Or.inr ⟨by decide, by decide, rfl⟩) _).s1 (Or.inl ⟨rfl, rfl⟩) _⟩ dX5_takeClause_260

set_option maxRecDepth 100000 in
set_option maxHeartbeats 4000000 in
theorem c_X5_takeClause_100 {g : GC} {d : Nat} {M : MI} {L : ML} {s p : Nat} {t : Nat → Int32} (hT : txC M s t p) (hk : sg t s p = 100) {c : Nat} (hc : c < 12) (hp9 : p < 900) : CrI g (d + 3) yX5_takeClause cX5_takeClause 3 .boolean [rf g 23, .int (nI c)] M L (fun r M' L' => L' = L ∧ clQ 6 t s p c M r M') := by
  refine crI_of (own := RX5) (l := [some (rf g 23), some (.int (nI c)), none]) 1 rfl rfl rfl (Nat.le_of_ble_eq_true rfl) ?_
  refine tm_aload_0 1 rfl dX5_takeClause_0 ?_
  refine tm_callV_I (ci := 4) (c_X5_sign hT) mv_X5_sign ml_X5_36 rfl rfl rfl rfl rfl (Nat.le_of_ble_eq_true rfl) 4 rfl dX5_takeClause_1 ?_
  rw [hk]
  refine tm_istore_2 (by decide) rfl 5 rfl dX5_takeClause_4 ?_
  refine tm_aload_0 6 rfl dX5_takeClause_5 ?_
  refine tm_getr fl_X5_20 rfl rfl 9 rfl dX5_takeClause_6 ?_
  refine tm_iload_1 10 rfl dX5_takeClause_9 ?_
  refine tm_iload_2 11 rfl dX5_takeClause_10 ?_
  refine tm_ast rfl (ix := c) (ix_nI hc (by decide)) 12 rfl dX5_takeClause_11 ?_
  refine tm_iload_2 13 rfl dX5_takeClause_12 ?_
  refine tm_look (off := 236) 249 (by decide +kernel) (by decide +kernel) rfl dX5_takeClause_13 ?_
  refine tm_aload_0 250 rfl dX5_takeClause_249 ?_
  refine tm_dup rfl 251 rfl dX5_takeClause_250 ?_
  refine tm_geti fl_X5_17 rfl rfl 254 rfl dX5_takeClause_251 ?_
  refine tm_iconst (1) rfl 255 rfl dX5_takeClause_254 ?_
  refine tm_iadd 256 rfl dX5_takeClause_255 ?_
  rw [s1_ne (by decide), hT.2.2.2.1, nI_1]
  refine tm_puti fl_X5_17 fw_4_2 rfl rfl rfl rfl 259 rfl dX5_takeClause_256 ?_
  refine tm_iconst (1) rfl 260 rfl dX5_takeClause_259 ?_
  exact tm_zretR (by decide) ⟨rfl, rfl, by simp [enK, s1_at], by rw [hk]; simp [s1_at], fun _ => ⟨fun z => absurd z (by decide), fun z => absurd z (by decide)⟩, ((frT.rf).s1 (Or.inr ⟨by decide, by decide, rfl⟩) _).s1 (Or.inl ⟨rfl, rfl⟩) _⟩ dX5_takeClause_260

set_option maxRecDepth 100000 in
set_option maxHeartbeats 4000000 in
theorem c_X5_takeClause_111 {g : GC} {d : Nat} {M : MI} {L : ML} {s p : Nat} {t : Nat → Int32} (hT : txC M s t p) (hk : sg t s p = 111) {c : Nat} (hc : c < 12) (hp9 : p < 900) : CrI g (d + 3) yX5_takeClause cX5_takeClause 3 .boolean [rf g 23, .int (nI c)] M L (fun r M' L' => L' = L ∧ clQ 6 t s p c M r M') := by
  refine crI_of (own := RX5) (l := [some (rf g 23), some (.int (nI c)), none]) 1 rfl rfl rfl (Nat.le_of_ble_eq_true rfl) ?_
  refine tm_aload_0 1 rfl dX5_takeClause_0 ?_
  refine tm_callV_I (ci := 4) (c_X5_sign hT) mv_X5_sign ml_X5_36 rfl rfl rfl rfl rfl (Nat.le_of_ble_eq_true rfl) 4 rfl dX5_takeClause_1 ?_
  rw [hk]
  refine tm_istore_2 (by decide) rfl 5 rfl dX5_takeClause_4 ?_
  refine tm_aload_0 6 rfl dX5_takeClause_5 ?_
  refine tm_getr fl_X5_20 rfl rfl 9 rfl dX5_takeClause_6 ?_
  refine tm_iload_1 10 rfl dX5_takeClause_9 ?_
  refine tm_iload_2 11 rfl dX5_takeClause_10 ?_
  refine tm_ast rfl (ix := c) (ix_nI hc (by decide)) 12 rfl dX5_takeClause_11 ?_
  refine tm_iload_2 13 rfl dX5_takeClause_12 ?_
  refine tm_look (off := 236) 249 (by decide +kernel) (by decide +kernel) rfl dX5_takeClause_13 ?_
  refine tm_aload_0 250 rfl dX5_takeClause_249 ?_
  refine tm_dup rfl 251 rfl dX5_takeClause_250 ?_
  refine tm_geti fl_X5_17 rfl rfl 254 rfl dX5_takeClause_251 ?_
  refine tm_iconst (1) rfl 255 rfl dX5_takeClause_254 ?_
  refine tm_iadd 256 rfl dX5_takeClause_255 ?_
  rw [s1_ne (by decide), hT.2.2.2.1, nI_1]
  refine tm_puti fl_X5_17 fw_4_2 rfl rfl rfl rfl 259 rfl dX5_takeClause_256 ?_
  refine tm_iconst (1) rfl 260 rfl dX5_takeClause_259 ?_
  exact tm_zretR (by decide) ⟨rfl, rfl, by simp [enK, s1_at], by rw [hk]; simp [s1_at], fun _ => ⟨fun z => absurd z (by decide), fun z => absurd z (by decide)⟩, ((frT.rf).s1 (Or.inr ⟨by decide, by decide, rfl⟩) _).s1 (Or.inl ⟨rfl, rfl⟩) _⟩ dX5_takeClause_260

set_option maxRecDepth 100000 in
set_option maxHeartbeats 4000000 in
theorem c_X5_takeClause_107 {g : GC} {d : Nat} {M : MI} {L : ML} {s p : Nat} {t : Nat → Int32} (hT : txC M s t p) (hk : sg t s p = 107) {c : Nat} (hc : c < 12) (hp9 : p < 900) : CrI g (d + 3) yX5_takeClause cX5_takeClause 3 .boolean [rf g 23, .int (nI c)] M L (fun r M' L' => L' = L ∧ clQ 6 t s p c M r M') := by
  refine crI_of (own := RX5) (l := [some (rf g 23), some (.int (nI c)), none]) 1 rfl rfl rfl (Nat.le_of_ble_eq_true rfl) ?_
  refine tm_aload_0 1 rfl dX5_takeClause_0 ?_
  refine tm_callV_I (ci := 4) (c_X5_sign hT) mv_X5_sign ml_X5_36 rfl rfl rfl rfl rfl (Nat.le_of_ble_eq_true rfl) 4 rfl dX5_takeClause_1 ?_
  rw [hk]
  refine tm_istore_2 (by decide) rfl 5 rfl dX5_takeClause_4 ?_
  refine tm_aload_0 6 rfl dX5_takeClause_5 ?_
  refine tm_getr fl_X5_20 rfl rfl 9 rfl dX5_takeClause_6 ?_
  refine tm_iload_1 10 rfl dX5_takeClause_9 ?_
  refine tm_iload_2 11 rfl dX5_takeClause_10 ?_
  refine tm_ast rfl (ix := c) (ix_nI hc (by decide)) 12 rfl dX5_takeClause_11 ?_
  refine tm_iload_2 13 rfl dX5_takeClause_12 ?_
  refine tm_look (off := 236) 249 (by decide +kernel) (by decide +kernel) rfl dX5_takeClause_13 ?_
  refine tm_aload_0 250 rfl dX5_takeClause_249 ?_
  refine tm_dup rfl 251 rfl dX5_takeClause_250 ?_
  refine tm_geti fl_X5_17 rfl rfl 254 rfl dX5_takeClause_251 ?_
  refine tm_iconst (1) rfl 255 rfl dX5_takeClause_254 ?_
  refine tm_iadd 256 rfl dX5_takeClause_255 ?_
  rw [s1_ne (by decide), hT.2.2.2.1, nI_1]
  refine tm_puti fl_X5_17 fw_4_2 rfl rfl rfl rfl 259 rfl dX5_takeClause_256 ?_
  refine tm_iconst (1) rfl 260 rfl dX5_takeClause_259 ?_
  exact tm_zretR (by decide) ⟨rfl, rfl, by simp [enK, s1_at], by rw [hk]; simp [s1_at], fun _ => ⟨fun z => absurd z (by decide), fun z => absurd z (by decide)⟩, ((frT.rf).s1 (Or.inr ⟨by decide, by decide, rfl⟩) _).s1 (Or.inl ⟨rfl, rfl⟩) _⟩ dX5_takeClause_260

set_option maxRecDepth 100000 in
set_option maxHeartbeats 4000000 in
theorem c_X5_takeClause_no {g : GC} {d : Nat} {M : MI} {L : ML} {s p : Nat} {t : Nat → Int32} (hT : txC M s t p) (hk : kd (sg t s p) = 0) {c : Nat} (hc : c < 12) (hp9 : p < 900) : CrI g (d + 3) yX5_takeClause cX5_takeClause 3 .boolean [rf g 23, .int (nI c)] M L (fun r M' L' => L' = L ∧ clQ 0 t s p c M r M') := by
  refine crI_of (own := RX5) (l := [some (rf g 23), some (.int (nI c)), none]) 1 rfl rfl rfl (Nat.le_of_ble_eq_true rfl) ?_
  refine tm_aload_0 1 rfl dX5_takeClause_0 ?_
  refine tm_callV_I (ci := 4) (c_X5_sign hT) mv_X5_sign ml_X5_36 rfl rfl rfl rfl rfl (Nat.le_of_ble_eq_true rfl) 4 rfl dX5_takeClause_1 ?_
  refine tm_istore_2 (by decide) rfl 5 rfl dX5_takeClause_4 ?_
  refine tm_aload_0 6 rfl dX5_takeClause_5 ?_
  refine tm_getr fl_X5_20 rfl rfl 9 rfl dX5_takeClause_6 ?_
  refine tm_iload_1 10 rfl dX5_takeClause_9 ?_
  refine tm_iload_2 11 rfl dX5_takeClause_10 ?_
  refine tm_ast rfl (ix := c) (ix_nI hc (by decide)) 12 rfl dX5_takeClause_11 ?_
  refine tm_iload_2 13 rfl dX5_takeClause_12 ?_
  refine tm_look (off := 248) 261 (by decide +kernel) (lk_d _ _ _ (by obtain ⟨n1, n2, n3, n4, n5, n6, n7, n8, n9, n10, n11⟩ := kd_0 hk; simp only [List.all_cons, List.all_nil, Bool.and_true, Bool.and_eq_true]; exact ⟨lk_ne rfl n3, lk_ne rfl n4, lk_ne rfl n9, lk_ne rfl n8, lk_ne rfl n11, lk_ne rfl n1, lk_ne rfl n10, lk_ne rfl n6, lk_ne rfl n2, lk_ne rfl n5, lk_ne rfl n7⟩)) rfl dX5_takeClause_13 ?_
  refine tm_iconst (0) rfl 262 rfl dX5_takeClause_261 ?_
  exact tm_zretR (by decide) ⟨rfl, rfl, by rw [s1_ne (by decide)]; exact hT.2.2.2.1, s1_eq _ _ _ _, (fun z => by cases z), (frT.rf).s1 (Or.inr ⟨by decide, by decide, rfl⟩) _⟩ dX5_takeClause_262

theorem c_X5_takeClause {g : GC} {d : Nat} {M : MI} {L : ML} {s p : Nat} {t : Nat → Int32} (hT : txC M s t p) {c : Nat} (hc : c < 12) (hp9 : p < 900) : CrI g (d + 3) yX5_takeClause cX5_takeClause 3 .boolean [rf g 23, .int (nI c)] M L (fun r M' L' => L' = L ∧ clQ (kd (sg t s p)) t s p c M r M') := by
  by_cases h : kd (sg t s p) = 0
  · rw [h]; exact c_X5_takeClause_no hT h hc hp9
  · rcases kd_n h with q | q | q | q | q | q | q | q | q | q | q
    · rw [show kd (sg t s p) = 1 by rw [q]; decide]; exact c_X5_takeClause_110 hT q hc hp9
    · rw [show kd (sg t s p) = 1 by rw [q]; decide]; exact c_X5_takeClause_116 hT q hc hp9
    · rw [show kd (sg t s p) = 2 by rw [q]; decide]; exact c_X5_takeClause_43 hT q hc hp9
    · rw [show kd (sg t s p) = 2 by rw [q]; decide]; exact c_X5_takeClause_45 hT q hc hp9
    · rw [show kd (sg t s p) = 3 by rw [q]; decide]; exact c_X5_takeClause_119 hT q hc hp9
    · rw [show kd (sg t s p) = 4 by rw [q]; decide]; exact c_X5_takeClause_113 hT q hc hp9
    · rw [show kd (sg t s p) = 5 by rw [q]; decide]; exact c_X5_takeClause_120 hT q hc hp9
    · rw [show kd (sg t s p) = 6 by rw [q]; decide]; exact c_X5_takeClause_103 hT q hc hp9
    · rw [show kd (sg t s p) = 6 by rw [q]; decide]; exact c_X5_takeClause_100 hT q hc hp9
    · rw [show kd (sg t s p) = 6 by rw [q]; decide]; exact c_X5_takeClause_111 hT q hc hp9
    · rw [show kd (sg t s p) = 6 by rw [q]; decide]; exact c_X5_takeClause_107 hT q hc hp9
