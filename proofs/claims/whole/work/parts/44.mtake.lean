/-! the model's taking of a text -/
def txM (M : MI) (s : Nat) (t : Nat → Int32) (p : Nat) : Prop := M 54 9 = nI s ∧ s ≤ 100 ∧ (∀ i, i < s → M 61 i = t i) ∧ M 54 10 = nI p ∧ p ≤ 1000
theorem txM.pl {M : MI} {s p : Nat} {t : Nat → Int32} (h : txM M s t p) {p2 : Nat} (hp : p2 ≤ 1000) : txM (s1 M 54 10 (nI p2)) s t p2 := ⟨by rw [s1_nk (by decide)]; exact h.1, h.2.1, fun i hi => by rw [s1_ne (by decide)]; exact h.2.2.1 i hi, s1_eq _ _ _ _, hp⟩
theorem txM.nu {M : MI} {s p : Nat} {t : Nat → Int32} (h : txM M s t p) {k : Nat} (x : Int32) (h1 : 9 ≠ k) (h2 : 10 ≠ k) : txM (s1 M 54 k x) s t p := ⟨by rw [s1_nk h1]; exact h.1, h.2.1, fun i hi => by rw [s1_ne (by decide)]; exact h.2.2.1 i hi, by rw [s1_nk h2]; exact h.2.2.2.1, h.2.2.2.2⟩
theorem txM.ro {M : MI} {s p : Nat} {t : Nat → Int32} (h : txM M s t p) {k : Nat} (x : Int32) : txM (s1 M 62 k x) s t p := ⟨by rw [s1_ne (by decide)]; exact h.1, h.2.1, fun i hi => by rw [s1_ne (by decide)]; exact h.2.2.1 i hi, by rw [s1_ne (by decide)]; exact h.2.2.2.1, h.2.2.2.2⟩
def frD (M M' : MI) : Prop := ∀ i k, ¬ ((i = 54 ∧ (k = 10 ∨ k = 12 ∨ k = 13)) ∨ i = 62) → M' i k = M i k
theorem frD.rf {M : MI} : frD M M := fun _ _ _ => rfl
theorem frD.tr {M M1 M2 : MI} (h : frD M M1) (h2 : frD M1 M2) : frD M M2 := fun i k q => (h2 i k q).trans (h i k q)
theorem frD.s1 {M M' : MI} (h : frD M M') {i k : Nat} (hi : (i = 54 ∧ (k = 10 ∨ k = 12 ∨ k = 13)) ∨ i = 62) (x : Int32) : frD M (s1 M' i k x) := fun j u q => by
  rw [s1_at, if_neg (fun z => q (by rw [z.1, z.2]; exact hi))]
  exact h j u q
def frN (M M' : MI) : Prop := ∀ i k, ¬ (i = 54 ∧ (k = 10 ∨ k = 13)) → M' i k = M i k
theorem frN.rf {M : MI} : frN M M := fun _ _ _ => rfl
theorem frN.s1 {M M' : MI} (h : frN M M') {i k : Nat} (hi : i = 54 ∧ (k = 10 ∨ k = 13)) (x : Int32) : frN M (s1 M' i k x) := fun j u q => by
  rw [s1_at, if_neg (fun z => q (by rw [z.1, z.2]; exact hi))]
  exact h j u q
theorem frD.N {M M' : MI} (h : frN M M') : frD M M' := fun i k q => h i k (fun z => q (by omega))
theorem txM.D {M M1 : MI} {s p p2 : Nat} {t : Nat → Int32} (h : txM M s t p) (f : frD M M1) (e : M1 54 10 = nI p2) (hb : p2 ≤ 1000) : txM M1 s t p2 := ⟨by rw [f 54 9 (by omega)]; exact h.1, h.2.1, fun i hi => by rw [f 61 i (by omega)]; exact h.2.2.1 i hi, e, hb⟩
theorem dB_in (x : Int32) : btw x.toInt64 48 57 = dB x := by
  rw [btw_ab 48 57 rfl rfl]
  unfold dB
  apply decide_eq_decide.mpr
  rw [fa_le, fa_le, show (48 : Int32).toInt = 48 from rfl, show (57 : Int32).toInt = 57 from rfl]
set_option maxRecDepth 100000 in
set_option maxHeartbeats 4000000 in
theorem c_X10_here {g : GC} {d : Nat} {M : MI} {L : ML} {s p : Nat} {t : Nat → Int32} (hT : txM M s t p) : CfI g (d) yX10_here cX10_here 1 .int [rf g 54] M L (sg t s p) (M) (L) := by
  have hs := hT.2.1
  have hp := hT.2.2.2.2
  refine cfI_of (own := RX10) (l := [some (rf g 54)]) 0 rfl rfl rfl (Nat.le_of_ble_eq_true rfl) ?_
  refine tm_aload_0 1 rfl dX10_here_0 ?_
  refine tm_geti fl_X10_184 rfl rfl 4 rfl dX10_here_1 ?_
  rw [hT.2.2.2.1]
  refine tm_aload_0 5 rfl dX10_here_4 ?_
  refine tm_geti fl_X10_181 rfl rfl 8 rfl dX10_here_5 ?_
  rw [hT.1]
  refine tm_icmp_ge 23 11 rfl rfl dX10_here_8 (fun h8 => ?_) (fun h8 => ?_)
  · refine tm_iconst (-1) rfl 24 rfl dX10_here_23 ?_
    exact tm_iret (by first | exact (if_pos hlt).symm | exact (if_neg (by have := nI_le_le h8 (by omega) (by omega); omega)).symm) rfl rfl dX10_here_24
  · have hlt := nI_nle_lt h8 (by omega) (by omega)
    refine tm_aload_0 12 rfl dX10_here_11 ?_
    refine tm_getr fl_X10_31 rfl rfl 15 rfl dX10_here_12 ?_
    refine tm_aload_0 16 rfl dX10_here_15 ?_
    refine tm_geti fl_X10_184 rfl rfl 19 rfl dX10_here_16 ?_
    rw [hT.2.2.2.1]
    refine tm_ald rfl (ix := p) (ix_nI (by omega) (by decide)) 20 rfl dX10_here_19 ?_
    rw [hT.2.2.1 p hlt]
    refine tm_goto 24 rfl dX10_here_20 ?_
    exact tm_iret (by first | exact (if_pos hlt).symm | exact (if_neg (by have := nI_le_le h8 (by omega) (by omega); omega)).symm) rfl rfl dX10_here_24

set_option maxRecDepth 100000 in
set_option maxHeartbeats 4000000 in
theorem c_X10_isDigit {g : GC} {d : Nat} {M : MI} {L : ML} {s p : Nat} {t : Nat → Int32} (hT : txM M s t p) : CfI g (d + 1) yX10_isDigit cX10_isDigit 1 .boolean [rf g 54] M L (bI (dB (sg t s p))) (M) (L) := by
  refine cfI_of (own := RX10) (l := [some (rf g 54)]) 0 rfl rfl rfl (Nat.le_of_ble_eq_true rfl) ?_
  refine tm_aload_0 1 rfl dX10_isDigit_0 ?_
  refine tm_callV_I (ci := 9) (c_X10_here hT) mv_X10_here ml_X10_187 rfl rfl rfl rfl rfl (Nat.le_of_ble_eq_true rfl) 4 rfl dX10_isDigit_1 ?_
  refine tm_i2l 5 rfl dX10_isDigit_4 ?_
  refine tm_ldc2 kl_X10_190 8 rfl dX10_isDigit_5 ?_
  refine tm_ldc2 kl_X10_192 11 rfl dX10_isDigit_8 ?_
  refine tm_callS_I (c_X10_in) ms_X10_in ml_X10_60 rfl rfl (Nat.le_of_ble_eq_true rfl) 14 rfl dX10_isDigit_11 ?_
  exact tm_zret (bI_01 _) (by rw [dB_in]) rfl rfl dX10_isDigit_14

def tkI (t : Nat → Int32) (s p : Nat) (M Mx : MI) (k : Nat) : Prop := txM Mx s t (p + k) ∧ Mx 54 12 = nI k ∧ (∀ j, j < k → dB (sg t s (p + j)) = true) ∧ (∀ j, j < k → Mx 62 j = sg t s (p + j) - 48) ∧ frD M Mx ∧ Mx 54 13 = M 54 13
def tkQ (t : Nat → Int32) (s p m : Nat) (M M' : MI) : Prop := M' 54 12 = nI (ltJ t s p m) ∧ M' 54 10 = nI (p + ltJ t s p m) ∧ (∀ j, j < ltJ t s p m → M' 62 j = sg t s (p + j) - 48) ∧ frD M M'
theorem tk_s {t : Nat → Int32} {s p k : Nat} {M Mx : MI} (h : tkI t s p M Mx k) (hd : dB (sg t s (p + k)) = true) (hk : k < 4) (hp : p < 900) : tkI t s p M (s1 (s1 (s1 Mx 62 k (sg t s (p + k) - 48)) 54 12 (nI (k + 1))) 54 10 (nI (p + k + 1))) (k + 1) := by
  obtain ⟨h1, h2, h3, h4, h5, h6⟩ := h
  refine ⟨((h1.ro _).nu _ (by decide) (by decide)).pl (p2 := p + k + 1) (by omega), by rw [s1_nk (by decide), s1_eq], fun j hj => ?_, fun j hj => ?_, ((h5.s1 (Or.inr rfl) _).s1 (by decide) _).s1 (by decide) _, by rw [s1_nk (by decide), s1_nk (by decide), s1_ne (by decide)]; exact h6⟩
  · rcases Nat.lt_succ_iff_lt_or_eq.mp hj with z | z
    · exact h3 j z
    · subst z; exact hd
  · rw [s1_ne (by decide), s1_ne (by decide)]
    rcases Nat.lt_succ_iff_lt_or_eq.mp hj with z | z
    · rw [s1_nk (by omega)]; exact h4 j z
    · subst z; rw [s1_eq]
theorem tk_e {t : Nat → Int32} {s p m k : Nat} {M Mx : MI} (h : tkI t s p M Mx k) (e : ltJ t s p m = k) : tkQ t s p m M Mx := by
  unfold tkQ
  rw [e]
  exact ⟨h.2.1, h.1.2.2.2.1, h.2.2.2.1, h.2.2.2.2.1⟩
set_option maxRecDepth 100000 in
set_option maxHeartbeats 4000000 in
theorem c_X10_takes {g : GC} {d : Nat} {M : MI} {L : ML} {s p : Nat} {t : Nat → Int32} (hT : txM M s t p) {m : Nat} (hm : m ≤ 4) (hp9 : p < 900) : CrV g (d + 2) yX10_takes cX10_takes 2 [rf g 54, .int (nI m)] M L (fun M' L' => L' = L ∧ tkQ t s p m M M') := by
  refine crV_of (own := RX10) (l := [some (rf g 54), some (.int (nI m))]) 0 rfl rfl rfl (Nat.le_of_ble_eq_true rfl) ?_
  refine tm_aload_0 1 rfl dX10_takes_0 ?_
  refine tm_iconst (0) rfl 2 rfl dX10_takes_1 ?_
  refine tm_puti fl_X10_194 fw_9_12 rfl rfl rfl rfl 5 rfl dX10_takes_2 ?_
  refine (tm_loop (N := m) (fun k => ∀ (Mx : MI), (tkI t s p M Mx k) → Tm g (d + 2) RX10 cX10_takes 2 none (QVr g (fun M' L' => L' = L ∧ tkQ t s p m M M')) 5 [some (rf g 54), some (.int (nI m))] [] Mx (L)) (fun k hk ih Mx hI => ?_) (fun Mx hI => ?_)) _ ?_
  · refine tm_aload_0 6 rfl dX10_takes_5 ?_
    refine tm_geti fl_X10_194 rfl rfl 9 rfl dX10_takes_6 ?_
    rw [hI.2.1]
    refine tm_iload_1 10 rfl dX10_takes_9 ?_
    refine tm_icmp_ge_f 13 (nI_ge hk (by omega)) rfl rfl dX10_takes_10 ?_
    refine tm_aload_0 14 rfl dX10_takes_13 ?_
    refine tm_callV_I (ci := 9) (c_X10_isDigit hI.1) mv_X10_isDigit ml_X10_197 rfl rfl rfl rfl rfl (Nat.le_of_ble_eq_true rfl) 17 rfl dX10_takes_14 ?_
    refine tm_if_eqB 59 20 rfl rfl dX10_takes_17 (fun h17 => ?_) (fun h17 => ?_)
    · exact tm_vretR (by first | (have z : dB (sg t s (p + k)) = false := h17; exact ⟨rfl, tk_e hI (ltJ_1 hk hI.2.2.1 z)⟩) | exact ⟨rfl, tk_e hI (ltJ_2 hI.2.2.1)⟩) dX10_takes_59
    · refine tm_aload_0 21 rfl dX10_takes_20 ?_
      refine tm_getr fl_X10_34 rfl rfl 24 rfl dX10_takes_21 ?_
      refine tm_aload_0 25 rfl dX10_takes_24 ?_
      refine tm_geti fl_X10_194 rfl rfl 28 rfl dX10_takes_25 ?_
      rw [hI.2.1]
      refine tm_aload_0 29 rfl dX10_takes_28 ?_
      refine tm_callV_I (ci := 9) (c_X10_here hI.1) mv_X10_here ml_X10_187 rfl rfl rfl rfl rfl (Nat.le_of_ble_eq_true rfl) 32 rfl dX10_takes_29 ?_
      refine tm_bipush (48) (by decide) 34 rfl dX10_takes_32 ?_
      refine tm_isub 35 rfl dX10_takes_34 ?_
      refine tm_ast rfl (ix := k) (ix_nI (by omega) (by decide)) 36 rfl dX10_takes_35 ?_
      refine tm_aload_0 37 rfl dX10_takes_36 ?_
      refine tm_dup rfl 38 rfl dX10_takes_37 ?_
      refine tm_geti fl_X10_194 rfl rfl 41 rfl dX10_takes_38 ?_
      rw [s1_ne (by decide), hI.2.1]
      refine tm_iconst (1) rfl 42 rfl dX10_takes_41 ?_
      refine tm_iadd 43 rfl dX10_takes_42 ?_
      rw [nI_1]
      refine tm_puti fl_X10_194 fw_9_12 rfl rfl rfl rfl 46 rfl dX10_takes_43 ?_
      refine tm_aload_0 47 rfl dX10_takes_46 ?_
      refine tm_dup rfl 48 rfl dX10_takes_47 ?_
      refine tm_geti fl_X10_184 rfl rfl 51 rfl dX10_takes_48 ?_
      rw [((hI.1.ro _).nu _ (by decide) (by decide)).2.2.2.1]
      refine tm_iconst (1) rfl 52 rfl dX10_takes_51 ?_
      refine tm_iadd 53 rfl dX10_takes_52 ?_
      rw [nI_1]
      refine tm_puti fl_X10_184 fw_9_10 rfl rfl rfl rfl 56 rfl dX10_takes_53 ?_
      refine tm_goto 5 rfl dX10_takes_56 ?_
      exact ih _ (tk_s hI h17 (by omega) hp9)
  · refine tm_aload_0 6 rfl dX10_takes_5 ?_
    refine tm_geti fl_X10_194 rfl rfl 9 rfl dX10_takes_6 ?_
    rw [hI.2.1]
    refine tm_iload_1 10 rfl dX10_takes_9 ?_
    refine tm_icmp_ge_t 59 (nI_le (Nat.le_refl _) (by omega)) rfl dX10_takes_10 ?_
    exact tm_vretR (by first | (have z : dB (sg t s (p + k)) = false := h17; exact ⟨rfl, tk_e hI (ltJ_1 hk hI.2.2.1 z)⟩) | exact ⟨rfl, tk_e hI (ltJ_2 hI.2.2.1)⟩) dX10_takes_59
  · exact ⟨hT.nu _ (by decide) (by decide), s1_eq _ _ _ _, fun j hj => absurd hj (by omega), fun j hj => absurd hj (by omega), frD.rf.s1 (by decide) _, s1_nk (by decide)⟩

def nuQ (t : Nat → Int32) (s p : Nat) (M : MI) (r : Int32) (M' : MI) : Prop := r = bI (dB (sg t s (nb1 t s p))) ∧ M' 54 10 = nI (if dB (sg t s (nb1 t s p)) = true then nbE t s (nb1 t s p) else nb1 t s p) ∧ (dB (sg t s (nb1 t s p)) = true → M' 54 13 = nbV t s p) ∧ frN M M'
theorem m10 (a : Int32) : 10 * 0 + a - 48 = a - 48 := by rw [show (10 : Int32) * 0 = 0 from rfl, Int32.zero_add]
set_option maxRecDepth 100000 in
set_option maxHeartbeats 4000000 in
theorem c_X10_hasNumber_m {g : GC} {d : Nat} {M : MI} {L : ML} {s p : Nat} {t : Nat → Int32} (hT : txM M s t p) (hp9 : p < 900) (hm : sg t s p = 45) : CrI g (d + 2) yX10_hasNumber cX10_hasNumber 3 .boolean [rf g 54] M L (fun r M' L' => L' = L ∧ nuQ t s p M r M') := by
  refine crI_of (own := RX10) (l := [some (rf g 54), none, none]) 2 rfl rfl rfl (Nat.le_of_ble_eq_true rfl) ?_
  refine tm_aload_0 1 rfl dX10_hasNumber_0 ?_
  refine tm_callV_I (ci := 9) (c_X10_here hT) mv_X10_here ml_X10_187 rfl rfl rfl rfl rfl (Nat.le_of_ble_eq_true rfl) 4 rfl dX10_hasNumber_1 ?_
  refine tm_bipush (45) (by decide) 6 rfl dX10_hasNumber_4 ?_
  rw [hm]
  refine tm_icmp_ne_f 9 (by decide) rfl rfl dX10_hasNumber_6 ?_
  refine tm_iconst (1) rfl 10 rfl dX10_hasNumber_9 ?_
  refine tm_goto 14 rfl dX10_hasNumber_10 ?_
  refine tm_istore_1 (by decide) rfl 15 rfl dX10_hasNumber_14 ?_
  refine tm_aload_0 16 rfl dX10_hasNumber_15 ?_
  refine tm_dup rfl 17 rfl dX10_hasNumber_16 ?_
  refine tm_geti fl_X10_184 rfl rfl 20 rfl dX10_hasNumber_17 ?_
  rw [hT.2.2.2.1]
  refine tm_iload_1 21 rfl dX10_hasNumber_20 ?_
  refine tm_if_eq_f 24 (by decide) rfl rfl dX10_hasNumber_21 ?_
  refine tm_iconst (1) rfl 25 rfl dX10_hasNumber_24 ?_
  refine tm_goto 29 rfl dX10_hasNumber_25 ?_
  refine tm_iadd 30 rfl dX10_hasNumber_29 ?_
  rw [nI_1]
  refine tm_puti fl_X10_184 fw_9_10 rfl rfl rfl rfl 33 rfl dX10_hasNumber_30 ?_
  refine tm_aload_0 34 rfl dX10_hasNumber_33 ?_
  refine tm_iconst (0) rfl 35 rfl dX10_hasNumber_34 ?_
  refine tm_puti fl_X10_200 fw_9_13 rfl rfl rfl rfl 38 rfl dX10_hasNumber_35 ?_
  refine tm_iconst (0) rfl 39 rfl dX10_hasNumber_38 ?_
  refine tm_istore_2 (by decide) rfl 40 rfl dX10_hasNumber_39 ?_
  refine tm_iload_2 41 rfl dX10_hasNumber_40 ?_
  refine tm_iconst (2) rfl 42 rfl dX10_hasNumber_41 ?_
  refine tm_icmp_ge_f 45 (by decide) rfl rfl dX10_hasNumber_42 ?_
  refine tm_aload_0 46 rfl dX10_hasNumber_45 ?_
  refine tm_callV_I (ci := 9) (c_X10_isDigit ((hT.pl (p2 := p + 1) (by omega)).nu (k := 13) 0 (by decide) (by decide))) mv_X10_isDigit ml_X10_197 rfl rfl rfl rfl rfl (Nat.le_of_ble_eq_true rfl) 49 rfl dX10_hasNumber_46 ?_
  refine tm_if_eqB 87 52 rfl rfl dX10_hasNumber_49 (fun h49 => ?_) (fun h49 => ?_)
  · have hE : nb1 t s p = p + 1 := if_pos hm
    have z0 : dB (sg t s (p + 1)) = false := h49
    refine tm_aload_0 88 rfl dX10_hasNumber_87 ?_
    refine tm_iload_1 89 rfl dX10_hasNumber_88 ?_
    refine tm_if_eq_f 92 (by decide) rfl rfl dX10_hasNumber_89 ?_
    refine tm_aload_0 93 rfl dX10_hasNumber_92 ?_
    refine tm_geti fl_X10_200 rfl rfl 96 rfl dX10_hasNumber_93 ?_
    refine tm_ineg 97 rfl dX10_hasNumber_96 ?_
    refine tm_goto 104 rfl dX10_hasNumber_97 ?_
    refine tm_puti fl_X10_200 fw_9_13 rfl rfl rfl rfl 107 rfl dX10_hasNumber_104 ?_
    refine tm_iload_2 108 rfl dX10_hasNumber_107 ?_
    refine tm_if_le_t 115 (by decide) rfl dX10_hasNumber_108 ?_
    refine tm_iconst (0) rfl 116 rfl dX10_hasNumber_115 ?_
    exact tm_zretR (by decide) ⟨rfl, by rw [hE, z0]; rfl, by rw [hE, z0]; simp [s1_at], (fun q => by rw [hE, z0] at q; exact Bool.noConfusion q), (((frN.rf).s1 (by decide) _).s1 (by decide) _).s1 (by decide) _⟩ dX10_hasNumber_116
  · have y0 := h49
    refine tm_aload_0 53 rfl dX10_hasNumber_52 ?_
    refine tm_bipush (10) (by decide) 55 rfl dX10_hasNumber_53 ?_
    refine tm_aload_0 56 rfl dX10_hasNumber_55 ?_
    refine tm_geti fl_X10_200 rfl rfl 59 rfl dX10_hasNumber_56 ?_
    rw [s1_eq]
    refine tm_imul 60 rfl dX10_hasNumber_59 ?_
    refine tm_aload_0 61 rfl dX10_hasNumber_60 ?_
    refine tm_callV_I (ci := 9) (c_X10_here ((hT.pl (p2 := p + 1) (by omega)).nu (k := 13) 0 (by decide) (by decide))) mv_X10_here ml_X10_187 rfl rfl rfl rfl rfl (Nat.le_of_ble_eq_true rfl) 64 rfl dX10_hasNumber_61 ?_
    refine tm_iadd 65 rfl dX10_hasNumber_64 ?_
    refine tm_bipush (48) (by decide) 67 rfl dX10_hasNumber_65 ?_
    refine tm_isub 68 rfl dX10_hasNumber_67 ?_
    rw [m10]
    refine tm_puti fl_X10_200 fw_9_13 rfl rfl rfl rfl 71 rfl dX10_hasNumber_68 ?_
    refine tm_iinc_2 _ rfl (by decide) rfl 74 rfl dX10_hasNumber_71 ?_
    refine tm_aload_0 75 rfl dX10_hasNumber_74 ?_
    refine tm_dup rfl 76 rfl dX10_hasNumber_75 ?_
    refine tm_geti fl_X10_184 rfl rfl 79 rfl dX10_hasNumber_76 ?_
    rw [(((hT.pl (p2 := p + 1) (by omega)).nu (k := 13) 0 (by decide) (by decide)).nu (k := 13) _ (by decide) (by decide)).2.2.2.1]
    refine tm_iconst (1) rfl 80 rfl dX10_hasNumber_79 ?_
    refine tm_iadd 81 rfl dX10_hasNumber_80 ?_
    rw [nI_1]
    refine tm_puti fl_X10_184 fw_9_10 rfl rfl rfl rfl 84 rfl dX10_hasNumber_81 ?_
    refine tm_goto 40 rfl dX10_hasNumber_84 ?_
    refine tm_iload_2 41 rfl dX10_hasNumber_40 ?_
    refine tm_iconst (2) rfl 42 rfl dX10_hasNumber_41 ?_
    refine tm_icmp_ge_f 45 (by decide) rfl rfl dX10_hasNumber_42 ?_
    refine tm_aload_0 46 rfl dX10_hasNumber_45 ?_
    refine tm_callV_I (ci := 9) (c_X10_isDigit ((((hT.pl (p2 := p + 1) (by omega)).nu (k := 13) 0 (by decide) (by decide)).nu (k := 13) (sg t s (p + 1) - 48) (by decide) (by decide)).pl (p2 := p + 1 + 1) (by omega))) mv_X10_isDigit ml_X10_197 rfl rfl rfl rfl rfl (Nat.le_of_ble_eq_true rfl) 49 rfl dX10_hasNumber_46 ?_
    refine tm_if_eqB 87 52 rfl rfl dX10_hasNumber_49 (fun h49 => ?_) (fun h49 => ?_)
    · have hE : nb1 t s p = p + 1 := if_pos hm
      have z0 : dB (sg t s (p + 1)) = true := y0
      have z1 : dB (sg t s (p + 1 + 1)) = false := h49
      refine tm_aload_0 88 rfl dX10_hasNumber_87 ?_
      refine tm_iload_1 89 rfl dX10_hasNumber_88 ?_
      refine tm_if_eq_f 92 (by decide) rfl rfl dX10_hasNumber_89 ?_
      refine tm_aload_0 93 rfl dX10_hasNumber_92 ?_
      refine tm_geti fl_X10_200 rfl rfl 96 rfl dX10_hasNumber_93 ?_
      refine tm_ineg 97 rfl dX10_hasNumber_96 ?_
      refine tm_goto 104 rfl dX10_hasNumber_97 ?_
      refine tm_puti fl_X10_200 fw_9_13 rfl rfl rfl rfl 107 rfl dX10_hasNumber_104 ?_
      refine tm_iload_2 108 rfl dX10_hasNumber_107 ?_
      refine tm_if_le_f 111 (by decide) rfl rfl dX10_hasNumber_108 ?_
      refine tm_iconst (1) rfl 112 rfl dX10_hasNumber_111 ?_
      refine tm_goto 116 rfl dX10_hasNumber_112 ?_
      exact tm_zretR (by decide) ⟨rfl, by rw [hE, z0]; rfl, by rw [hE, if_pos z0, (nb_2 z1).1]; simp [s1_at], fun _ => by unfold nbV; rw [if_pos hm, (nb_2 z1).2]; simp [s1_at], (((((frN.rf).s1 (by decide) _).s1 (by decide) _).s1 (by decide) _).s1 (by decide) _).s1 (by decide) _⟩ dX10_hasNumber_116
    · have y1 := h49
      refine tm_aload_0 53 rfl dX10_hasNumber_52 ?_
      refine tm_bipush (10) (by decide) 55 rfl dX10_hasNumber_53 ?_
      refine tm_aload_0 56 rfl dX10_hasNumber_55 ?_
      refine tm_geti fl_X10_200 rfl rfl 59 rfl dX10_hasNumber_56 ?_
      rw [s1_nk (by decide), s1_eq]
      refine tm_imul 60 rfl dX10_hasNumber_59 ?_
      refine tm_aload_0 61 rfl dX10_hasNumber_60 ?_
      refine tm_callV_I (ci := 9) (c_X10_here ((((hT.pl (p2 := p + 1) (by omega)).nu (k := 13) 0 (by decide) (by decide)).nu (k := 13) (sg t s (p + 1) - 48) (by decide) (by decide)).pl (p2 := p + 1 + 1) (by omega))) mv_X10_here ml_X10_187 rfl rfl rfl rfl rfl (Nat.le_of_ble_eq_true rfl) 64 rfl dX10_hasNumber_61 ?_
      refine tm_iadd 65 rfl dX10_hasNumber_64 ?_
      refine tm_bipush (48) (by decide) 67 rfl dX10_hasNumber_65 ?_
      refine tm_isub 68 rfl dX10_hasNumber_67 ?_
      refine tm_puti fl_X10_200 fw_9_13 rfl rfl rfl rfl 71 rfl dX10_hasNumber_68 ?_
      refine tm_iinc_2 _ rfl (by decide) rfl 74 rfl dX10_hasNumber_71 ?_
      refine tm_aload_0 75 rfl dX10_hasNumber_74 ?_
      refine tm_dup rfl 76 rfl dX10_hasNumber_75 ?_
      refine tm_geti fl_X10_184 rfl rfl 79 rfl dX10_hasNumber_76 ?_
      rw [(((((hT.pl (p2 := p + 1) (by omega)).nu (k := 13) 0 (by decide) (by decide)).nu (k := 13) (sg t s (p + 1) - 48) (by decide) (by decide)).pl (p2 := p + 1 + 1) (by omega)).nu (k := 13) _ (by decide) (by decide)).2.2.2.1]
      refine tm_iconst (1) rfl 80 rfl dX10_hasNumber_79 ?_
      refine tm_iadd 81 rfl dX10_hasNumber_80 ?_
      rw [nI_1]
      refine tm_puti fl_X10_184 fw_9_10 rfl rfl rfl rfl 84 rfl dX10_hasNumber_81 ?_
      refine tm_goto 40 rfl dX10_hasNumber_84 ?_
      refine tm_iload_2 41 rfl dX10_hasNumber_40 ?_
      refine tm_iconst (2) rfl 42 rfl dX10_hasNumber_41 ?_
      refine tm_icmp_ge_t 87 (by decide) rfl dX10_hasNumber_42 ?_
      have hE : nb1 t s p = p + 1 := if_pos hm
      have z0 : dB (sg t s (p + 1)) = true := y0
      have z1 : dB (sg t s (p + 1 + 1)) = true := y1
      refine tm_aload_0 88 rfl dX10_hasNumber_87 ?_
      refine tm_iload_1 89 rfl dX10_hasNumber_88 ?_
      refine tm_if_eq_f 92 (by decide) rfl rfl dX10_hasNumber_89 ?_
      refine tm_aload_0 93 rfl dX10_hasNumber_92 ?_
      refine tm_geti fl_X10_200 rfl rfl 96 rfl dX10_hasNumber_93 ?_
      refine tm_ineg 97 rfl dX10_hasNumber_96 ?_
      refine tm_goto 104 rfl dX10_hasNumber_97 ?_
      refine tm_puti fl_X10_200 fw_9_13 rfl rfl rfl rfl 107 rfl dX10_hasNumber_104 ?_
      refine tm_iload_2 108 rfl dX10_hasNumber_107 ?_
      refine tm_if_le_f 111 (by decide) rfl rfl dX10_hasNumber_108 ?_
      refine tm_iconst (1) rfl 112 rfl dX10_hasNumber_111 ?_
      refine tm_goto 116 rfl dX10_hasNumber_112 ?_
      exact tm_zretR (by decide) ⟨rfl, by rw [hE, z0]; rfl, by rw [hE, if_pos z0, (nb_1 z1).1]; simp [s1_at], fun _ => by unfold nbV; rw [if_pos hm, (nb_1 z1).2]; simp [s1_at], (((((((frN.rf).s1 (by decide) _).s1 (by decide) _).s1 (by decide) _).s1 (by decide) _).s1 (by decide) _).s1 (by decide) _).s1 (by decide) _⟩ dX10_hasNumber_116

set_option maxRecDepth 100000 in
set_option maxHeartbeats 4000000 in
theorem c_X10_hasNumber_p {g : GC} {d : Nat} {M : MI} {L : ML} {s p : Nat} {t : Nat → Int32} (hT : txM M s t p) (hp9 : p < 900) (hm : ¬ sg t s p = 45) : CrI g (d + 2) yX10_hasNumber cX10_hasNumber 3 .boolean [rf g 54] M L (fun r M' L' => L' = L ∧ nuQ t s p M r M') := by
  refine crI_of (own := RX10) (l := [some (rf g 54), none, none]) 2 rfl rfl rfl (Nat.le_of_ble_eq_true rfl) ?_
  refine tm_aload_0 1 rfl dX10_hasNumber_0 ?_
  refine tm_callV_I (ci := 9) (c_X10_here hT) mv_X10_here ml_X10_187 rfl rfl rfl rfl rfl (Nat.le_of_ble_eq_true rfl) 4 rfl dX10_hasNumber_1 ?_
  refine tm_bipush (45) (by decide) 6 rfl dX10_hasNumber_4 ?_
  refine tm_icmp_ne_t 13 (hm) rfl dX10_hasNumber_6 ?_
  refine tm_iconst (0) rfl 14 rfl dX10_hasNumber_13 ?_
  refine tm_istore_1 (by decide) rfl 15 rfl dX10_hasNumber_14 ?_
  refine tm_aload_0 16 rfl dX10_hasNumber_15 ?_
  refine tm_dup rfl 17 rfl dX10_hasNumber_16 ?_
  refine tm_geti fl_X10_184 rfl rfl 20 rfl dX10_hasNumber_17 ?_
  rw [hT.2.2.2.1]
  refine tm_iload_1 21 rfl dX10_hasNumber_20 ?_
  refine tm_if_eq_t 28 (rfl) rfl dX10_hasNumber_21 ?_
  refine tm_iconst (0) rfl 29 rfl dX10_hasNumber_28 ?_
  refine tm_iadd 30 rfl dX10_hasNumber_29 ?_
  rw [Int32.add_zero]
  refine tm_puti fl_X10_184 fw_9_10 rfl rfl rfl rfl 33 rfl dX10_hasNumber_30 ?_
  refine tm_aload_0 34 rfl dX10_hasNumber_33 ?_
  refine tm_iconst (0) rfl 35 rfl dX10_hasNumber_34 ?_
  refine tm_puti fl_X10_200 fw_9_13 rfl rfl rfl rfl 38 rfl dX10_hasNumber_35 ?_
  refine tm_iconst (0) rfl 39 rfl dX10_hasNumber_38 ?_
  refine tm_istore_2 (by decide) rfl 40 rfl dX10_hasNumber_39 ?_
  refine tm_iload_2 41 rfl dX10_hasNumber_40 ?_
  refine tm_iconst (2) rfl 42 rfl dX10_hasNumber_41 ?_
  refine tm_icmp_ge_f 45 (by decide) rfl rfl dX10_hasNumber_42 ?_
  refine tm_aload_0 46 rfl dX10_hasNumber_45 ?_
  refine tm_callV_I (ci := 9) (c_X10_isDigit ((hT.pl (p2 := p) (by omega)).nu (k := 13) 0 (by decide) (by decide))) mv_X10_isDigit ml_X10_197 rfl rfl rfl rfl rfl (Nat.le_of_ble_eq_true rfl) 49 rfl dX10_hasNumber_46 ?_
  refine tm_if_eqB 87 52 rfl rfl dX10_hasNumber_49 (fun h49 => ?_) (fun h49 => ?_)
  · have hE : nb1 t s p = p := if_neg hm
    have z0 : dB (sg t s (p)) = false := h49
    refine tm_aload_0 88 rfl dX10_hasNumber_87 ?_
    refine tm_iload_1 89 rfl dX10_hasNumber_88 ?_
    refine tm_if_eq_t 100 (rfl) rfl dX10_hasNumber_89 ?_
    refine tm_aload_0 101 rfl dX10_hasNumber_100 ?_
    refine tm_geti fl_X10_200 rfl rfl 104 rfl dX10_hasNumber_101 ?_
    refine tm_puti fl_X10_200 fw_9_13 rfl rfl rfl rfl 107 rfl dX10_hasNumber_104 ?_
    refine tm_iload_2 108 rfl dX10_hasNumber_107 ?_
    refine tm_if_le_t 115 (by decide) rfl dX10_hasNumber_108 ?_
    refine tm_iconst (0) rfl 116 rfl dX10_hasNumber_115 ?_
    exact tm_zretR (by decide) ⟨rfl, by rw [hE, z0]; rfl, by rw [hE, z0]; simp [s1_at], (fun q => by rw [hE, z0] at q; exact Bool.noConfusion q), (((frN.rf).s1 (by decide) _).s1 (by decide) _).s1 (by decide) _⟩ dX10_hasNumber_116
  · have y0 := h49
    refine tm_aload_0 53 rfl dX10_hasNumber_52 ?_
    refine tm_bipush (10) (by decide) 55 rfl dX10_hasNumber_53 ?_
    refine tm_aload_0 56 rfl dX10_hasNumber_55 ?_
    refine tm_geti fl_X10_200 rfl rfl 59 rfl dX10_hasNumber_56 ?_
    rw [s1_eq]
    refine tm_imul 60 rfl dX10_hasNumber_59 ?_
    refine tm_aload_0 61 rfl dX10_hasNumber_60 ?_
    refine tm_callV_I (ci := 9) (c_X10_here ((hT.pl (p2 := p) (by omega)).nu (k := 13) 0 (by decide) (by decide))) mv_X10_here ml_X10_187 rfl rfl rfl rfl rfl (Nat.le_of_ble_eq_true rfl) 64 rfl dX10_hasNumber_61 ?_
    refine tm_iadd 65 rfl dX10_hasNumber_64 ?_
    refine tm_bipush (48) (by decide) 67 rfl dX10_hasNumber_65 ?_
    refine tm_isub 68 rfl dX10_hasNumber_67 ?_
    rw [m10]
    refine tm_puti fl_X10_200 fw_9_13 rfl rfl rfl rfl 71 rfl dX10_hasNumber_68 ?_
    refine tm_iinc_2 _ rfl (by decide) rfl 74 rfl dX10_hasNumber_71 ?_
    refine tm_aload_0 75 rfl dX10_hasNumber_74 ?_
    refine tm_dup rfl 76 rfl dX10_hasNumber_75 ?_
    refine tm_geti fl_X10_184 rfl rfl 79 rfl dX10_hasNumber_76 ?_
    rw [(((hT.pl (p2 := p) (by omega)).nu (k := 13) 0 (by decide) (by decide)).nu (k := 13) _ (by decide) (by decide)).2.2.2.1]
    refine tm_iconst (1) rfl 80 rfl dX10_hasNumber_79 ?_
    refine tm_iadd 81 rfl dX10_hasNumber_80 ?_
    rw [nI_1]
    refine tm_puti fl_X10_184 fw_9_10 rfl rfl rfl rfl 84 rfl dX10_hasNumber_81 ?_
    refine tm_goto 40 rfl dX10_hasNumber_84 ?_
    refine tm_iload_2 41 rfl dX10_hasNumber_40 ?_
    refine tm_iconst (2) rfl 42 rfl dX10_hasNumber_41 ?_
    refine tm_icmp_ge_f 45 (by decide) rfl rfl dX10_hasNumber_42 ?_
    refine tm_aload_0 46 rfl dX10_hasNumber_45 ?_
    refine tm_callV_I (ci := 9) (c_X10_isDigit ((((hT.pl (p2 := p) (by omega)).nu (k := 13) 0 (by decide) (by decide)).nu (k := 13) (sg t s (p) - 48) (by decide) (by decide)).pl (p2 := p + 1) (by omega))) mv_X10_isDigit ml_X10_197 rfl rfl rfl rfl rfl (Nat.le_of_ble_eq_true rfl) 49 rfl dX10_hasNumber_46 ?_
    refine tm_if_eqB 87 52 rfl rfl dX10_hasNumber_49 (fun h49 => ?_) (fun h49 => ?_)
    · have hE : nb1 t s p = p := if_neg hm
      have z0 : dB (sg t s (p)) = true := y0
      have z1 : dB (sg t s (p + 1)) = false := h49
      refine tm_aload_0 88 rfl dX10_hasNumber_87 ?_
      refine tm_iload_1 89 rfl dX10_hasNumber_88 ?_
      refine tm_if_eq_t 100 (rfl) rfl dX10_hasNumber_89 ?_
      refine tm_aload_0 101 rfl dX10_hasNumber_100 ?_
      refine tm_geti fl_X10_200 rfl rfl 104 rfl dX10_hasNumber_101 ?_
      refine tm_puti fl_X10_200 fw_9_13 rfl rfl rfl rfl 107 rfl dX10_hasNumber_104 ?_
      refine tm_iload_2 108 rfl dX10_hasNumber_107 ?_
      refine tm_if_le_f 111 (by decide) rfl rfl dX10_hasNumber_108 ?_
      refine tm_iconst (1) rfl 112 rfl dX10_hasNumber_111 ?_
      refine tm_goto 116 rfl dX10_hasNumber_112 ?_
      exact tm_zretR (by decide) ⟨rfl, by rw [hE, z0]; rfl, by rw [hE, if_pos z0, (nb_2 z1).1]; simp [s1_at], fun _ => by unfold nbV; rw [if_neg hm, (nb_2 z1).2]; simp [s1_at], (((((frN.rf).s1 (by decide) _).s1 (by decide) _).s1 (by decide) _).s1 (by decide) _).s1 (by decide) _⟩ dX10_hasNumber_116
    · have y1 := h49
      refine tm_aload_0 53 rfl dX10_hasNumber_52 ?_
      refine tm_bipush (10) (by decide) 55 rfl dX10_hasNumber_53 ?_
      refine tm_aload_0 56 rfl dX10_hasNumber_55 ?_
      refine tm_geti fl_X10_200 rfl rfl 59 rfl dX10_hasNumber_56 ?_
      rw [s1_nk (by decide), s1_eq]
      refine tm_imul 60 rfl dX10_hasNumber_59 ?_
      refine tm_aload_0 61 rfl dX10_hasNumber_60 ?_
      refine tm_callV_I (ci := 9) (c_X10_here ((((hT.pl (p2 := p) (by omega)).nu (k := 13) 0 (by decide) (by decide)).nu (k := 13) (sg t s (p) - 48) (by decide) (by decide)).pl (p2 := p + 1) (by omega))) mv_X10_here ml_X10_187 rfl rfl rfl rfl rfl (Nat.le_of_ble_eq_true rfl) 64 rfl dX10_hasNumber_61 ?_
      refine tm_iadd 65 rfl dX10_hasNumber_64 ?_
      refine tm_bipush (48) (by decide) 67 rfl dX10_hasNumber_65 ?_
      refine tm_isub 68 rfl dX10_hasNumber_67 ?_
      refine tm_puti fl_X10_200 fw_9_13 rfl rfl rfl rfl 71 rfl dX10_hasNumber_68 ?_
      refine tm_iinc_2 _ rfl (by decide) rfl 74 rfl dX10_hasNumber_71 ?_
      refine tm_aload_0 75 rfl dX10_hasNumber_74 ?_
      refine tm_dup rfl 76 rfl dX10_hasNumber_75 ?_
      refine tm_geti fl_X10_184 rfl rfl 79 rfl dX10_hasNumber_76 ?_
      rw [(((((hT.pl (p2 := p) (by omega)).nu (k := 13) 0 (by decide) (by decide)).nu (k := 13) (sg t s (p) - 48) (by decide) (by decide)).pl (p2 := p + 1) (by omega)).nu (k := 13) _ (by decide) (by decide)).2.2.2.1]
      refine tm_iconst (1) rfl 80 rfl dX10_hasNumber_79 ?_
      refine tm_iadd 81 rfl dX10_hasNumber_80 ?_
      rw [nI_1]
      refine tm_puti fl_X10_184 fw_9_10 rfl rfl rfl rfl 84 rfl dX10_hasNumber_81 ?_
      refine tm_goto 40 rfl dX10_hasNumber_84 ?_
      refine tm_iload_2 41 rfl dX10_hasNumber_40 ?_
      refine tm_iconst (2) rfl 42 rfl dX10_hasNumber_41 ?_
      refine tm_icmp_ge_t 87 (by decide) rfl dX10_hasNumber_42 ?_
      have hE : nb1 t s p = p := if_neg hm
      have z0 : dB (sg t s (p)) = true := y0
      have z1 : dB (sg t s (p + 1)) = true := y1
      refine tm_aload_0 88 rfl dX10_hasNumber_87 ?_
      refine tm_iload_1 89 rfl dX10_hasNumber_88 ?_
      refine tm_if_eq_t 100 (rfl) rfl dX10_hasNumber_89 ?_
      refine tm_aload_0 101 rfl dX10_hasNumber_100 ?_
      refine tm_geti fl_X10_200 rfl rfl 104 rfl dX10_hasNumber_101 ?_
      refine tm_puti fl_X10_200 fw_9_13 rfl rfl rfl rfl 107 rfl dX10_hasNumber_104 ?_
      refine tm_iload_2 108 rfl dX10_hasNumber_107 ?_
      refine tm_if_le_f 111 (by decide) rfl rfl dX10_hasNumber_108 ?_
      refine tm_iconst (1) rfl 112 rfl dX10_hasNumber_111 ?_
      refine tm_goto 116 rfl dX10_hasNumber_112 ?_
      exact tm_zretR (by decide) ⟨rfl, by rw [hE, z0]; rfl, by rw [hE, if_pos z0, (nb_1 z1).1]; simp [s1_at], fun _ => by unfold nbV; rw [if_neg hm, (nb_1 z1).2]; simp [s1_at], (((((((frN.rf).s1 (by decide) _).s1 (by decide) _).s1 (by decide) _).s1 (by decide) _).s1 (by decide) _).s1 (by decide) _).s1 (by decide) _⟩ dX10_hasNumber_116

theorem c_X10_hasNumber {g : GC} {d : Nat} {M : MI} {L : ML} {s p : Nat} {t : Nat → Int32} (hT : txM M s t p) (hp9 : p < 900) : CrI g (d + 2) yX10_hasNumber cX10_hasNumber 3 .boolean [rf g 54] M L (fun r M' L' => L' = L ∧ nuQ t s p M r M') := by
  by_cases h : sg t s p = 45
  · exact c_X10_hasNumber_m hT hp9 h
  · exact c_X10_hasNumber_p hT hp9 h
