/-! pairs that change rows, texts, images, tapes -/
section Pairs2
variable {g : GC} {M : MI} {L : ML}
theorem ad_fr {r b n s : Nat} {x y : Int32} {k i u : Nat} (hr : r + 2 < 55) (hs : k = 3 → s < n) (h : ¬ ((i = r ∧ u = 2) ∨ i = r + 1 ∨ i = r + 2 ∨ (i = 55 ∧ b ≤ u ∧ u < b + (n + n + 1)))) : adM (adC M r s x y k) b n s x y k i u = M i u := by
  unfold adM adC
  by_cases k0 : k = 0
  · rw [if_pos k0, if_pos k0]
    unfold zG
    by_cases c : i = 55
    · subst c
      rw [sr_eq, if_neg (by omega), s1_ne (by omega)]
    · rw [sr_ne c, s1_at, if_neg (by omega)]
  · rw [if_neg k0, if_neg k0]
    by_cases k3 : k = 3
    · have := hs k3
      rw [if_pos k3, if_pos k3]
      simp only [s1_at]
      rw [if_neg (by omega), if_neg (by omega), if_neg (by omega), if_neg (by omega), if_neg (by omega), if_neg (by omega)]
    · rw [if_neg k3, if_neg k3]
theorem ad_row {r b n s : Nat} {x y : Int32} {k : Nat} {P : Int32 → Int32 → Prop} (hr : r + 2 < 55) (h0 : s ≤ n) (h1 : M r 2 = nI s) (h2 : M 55 b = nI s) (hf : ∀ k, k < s → M (r + 1) k = M 55 (b + 1 + k) ∧ M (r + 2) k = M 55 (b + 1 + n + k) ∧ P (M (r + 1) k) (M (r + 2) k)) (hk : k = 3 → s < n ∧ P x y) : rowI (adM (adC M r s x y k) b n s x y k) r 55 b n P := by
  unfold adM adC
  by_cases k0 : k = 0
  · rw [if_pos k0, if_pos k0]
    refine ⟨0, Nat.zero_le _, ?_, ?_, fun j hj => absurd hj (Nat.not_lt_zero j)⟩
    · unfold zG
      rw [sr_ne (by omega), s1_eq]; rfl
    · unfold zG
      rw [sr_eq, if_pos (by omega)]; rfl
  · rw [if_neg k0, if_neg k0]
    by_cases k3 : k = 3
    · obtain ⟨hs, hp⟩ := hk k3
      rw [if_pos k3, if_pos k3]
      refine ⟨s + 1, by omega, ?_, s1_eq _ _ _ _, fun j hj => ?_⟩
      · rw [s1_ne (by omega), s1_ne (by omega), s1_ne (by omega), s1_eq]
      · have a1 : s1 (s1 (s1 (s1 (s1 (s1 M (r + 1) s x) (r + 2) s y) r 2 (nI (s + 1))) 55 (b + 1 + s) x) 55 (b + 1 + n + s) y) 55 b (nI (s + 1)) (r + 1) j = if j = s then x else M (r + 1) j := by
          rw [s1_ne (by omega), s1_ne (by omega), s1_ne (by omega), s1_ne (by omega), s1_ne (by omega)]
          by_cases c : j = s
          · subst c; rw [s1_eq, if_pos rfl]
          · rw [s1_nk c, if_neg c]
        have a2 : s1 (s1 (s1 (s1 (s1 (s1 M (r + 1) s x) (r + 2) s y) r 2 (nI (s + 1))) 55 (b + 1 + s) x) 55 (b + 1 + n + s) y) 55 b (nI (s + 1)) (r + 2) j = if j = s then y else M (r + 2) j := by
          rw [s1_ne (by omega), s1_ne (by omega), s1_ne (by omega), s1_ne (by omega)]
          by_cases c : j = s
          · subst c; rw [s1_eq, if_pos rfl]
          · rw [s1_nk c, if_neg c, s1_ne (by omega)]
        have a3 : s1 (s1 (s1 (s1 (s1 (s1 M (r + 1) s x) (r + 2) s y) r 2 (nI (s + 1))) 55 (b + 1 + s) x) 55 (b + 1 + n + s) y) 55 b (nI (s + 1)) 55 (b + 1 + j) = if j = s then x else M 55 (b + 1 + j) := by
          rw [s1_nk (by omega), s1_nk (by omega)]
          by_cases c : j = s
          · subst c; rw [s1_eq, if_pos rfl]
          · rw [s1_nk (by omega), if_neg c, s1_ne (by omega), s1_ne (by omega), s1_ne (by omega)]
        have a4 : s1 (s1 (s1 (s1 (s1 (s1 M (r + 1) s x) (r + 2) s y) r 2 (nI (s + 1))) 55 (b + 1 + s) x) 55 (b + 1 + n + s) y) 55 b (nI (s + 1)) 55 (b + 1 + n + j) = if j = s then y else M 55 (b + 1 + n + j) := by
          rw [s1_nk (by omega)]
          by_cases c : j = s
          · subst c; rw [s1_eq, if_pos rfl]
          · rw [s1_nk (by omega), s1_nk (by omega), if_neg c, s1_ne (by omega), s1_ne (by omega), s1_ne (by omega)]
        rw [a1, a2, a3, a4]
        by_cases c : j = s
        · rw [if_pos c, if_pos c, if_pos c, if_pos c]; exact ⟨rfl, rfl, hp⟩
        · rw [if_neg c, if_neg c, if_neg c, if_neg c]; exact hf j (by omega)
    · rw [if_neg k3, if_neg k3]
      exact ⟨s, h0, h1, h2, hf⟩
theorem adC_55 {r s : Nat} {x y : Int32} {k u : Nat} (hr : r + 2 < 55) : adC M r s x y k 55 u = M 55 u := by
  unfold adC
  by_cases k0 : k = 0
  · rw [if_pos k0, s1_ne (by omega)]
  · rw [if_neg k0]
    by_cases k3 : k = 3
    · rw [if_pos k3, s1_ne (by omega), s1_ne (by omega), s1_ne (by omega)]
    · rw [if_neg k3]
theorem adI {r b n s : Nat} {x y : Int32} {k : Nat} (h : INV M L) (hk : k = 3 → s < n) (hr : (r = 3 ∧ b = 8 ∧ n = 6) ∨ (r = 6 ∧ b = 21 ∧ n = 8) ∨ (r = 9 ∧ b = 38 ∧ n = 8)) (hw : rws (adM (adC M r s x y k) b n s x y k) 1 55) : INV (adM (adC M r s x y k) b n s x y k) L := by
  obtain ⟨⟨σ, ok, hC, hM⟩, ⟨-, hI, hT, hP⟩, hO⟩ := h
  have f : ∀ i u, ¬ ((i = r ∧ u = 2) ∨ i = r + 1 ∨ i = r + 2 ∨ (i = 55 ∧ b ≤ u ∧ u < b + (n + n + 1))) → adM (adC M r s x y k) b n s x y k i u = M i u := fun i u z => ad_fr (by omega) hk z
  exact ⟨⟨σ, ok, hasC.fr hC (fun i u q => f i u (by omega)), hasM_fr hM (fun u q => f 55 u (by omega))⟩, ⟨hw, imG_fr hI (f 0 2 (by omega)) (f 54 2 (by omega)) (fun u => f 56 u (by omega)) (fun i u z1 z2 => f i u (by omega)), txT_fr hT (f 23 1 (by omega)) (f 54 9 (by omega)) (fun u => f 24 u (by omega)) (fun u => f 61 u (by omega)), fun t ht => tpT_fr (hP t ht) (fun u => f _ u (by simp only [tJ]; omega)) (f 63 t (by omega)) (f 64 t (by omega)) (fun _ _ => rfl) (fun _ _ => rfl)⟩, orb_fr hO (fun i u z1 z2 => f i u (by omega))⟩
theorem adK_i {σ : AS} {n s : Nat} {x y : Int32} (h : adK σ n s x y = 3) : s < n ∧ inN y 2 = true := by
  unfold adK at h
  by_cases c : x = -1
  · rw [if_pos c] at h; omega
  · rw [if_neg c] at h
    by_cases c1 : inN x (2 ^ σ.1) = false
    · rw [if_pos c1] at h; omega
    · rw [if_neg c1] at h
      by_cases c2 : inN y 2 = false
      · rw [if_pos c2] at h; omega
      · rw [if_neg c2] at h
        by_cases c3 : s < n
        · exact ⟨c3, bF c2⟩
        · rw [if_neg c3] at h; omega
theorem evK_i {σ : AS} {s : Nat} {x y : Int32} (h : evK σ s x y = 3) : s < 8 ∧ inN x 4 = true := by
  unfold evK at h
  by_cases c : x = -1
  · rw [if_pos c] at h; omega
  · rw [if_neg c] at h
    by_cases c1 : evF σ x y = false
    · rw [if_pos c1] at h; omega
    · rw [if_neg c1] at h
      by_cases c2 : x = 2 ∧ ¬ y = 0
      · rw [if_pos c2] at h; omega
      · rw [if_neg c2] at h
        by_cases c3 : s < 8
        · refine ⟨c3, ?_⟩
          by_cases c4 : inN x 4 = true
          · exact c4
          · exact absurd (evF_x c4) c1
        · rw [if_neg c3] at h; omega
theorem ad_keep {r b n s r2 b2 n2 : Nat} {x y : Int32} {k : Nat} {P : Int32 → Int32 → Prop} (h : rowI M r2 55 b2 n2 P) (hr : r + 2 < 55) (hk : k = 3 → s < n) (hr2 : r2 + 2 < 55) (h1 : r2 + 2 < r ∨ r + 2 < r2) (h2 : b2 + (n2 + n2 + 1) ≤ b ∨ b + (n + n + 1) ≤ b2) : rowI (adM (adC M r s x y k) b n s x y k) r2 55 b2 n2 P := by
  obtain ⟨t, a, e1, e2, hf⟩ := h
  refine ⟨t, a, ?_, ?_, fun j hj => ?_⟩
  · rw [ad_fr hr hk (by omega)]; exact e1
  · rw [ad_fr hr hk (by omega)]; exact e2
  · rw [ad_fr hr hk (by omega), ad_fr hr hk (by omega), ad_fr hr hk (by omega), ad_fr hr hk (by omega)]
    exact hf j hj
theorem pr_see (h : INV M L) {x : Int32} {y : Int32} : Pair g yX9_see cX9_see 3 yX10_see cX10_see 4 [.int x, .int y] M L := by
  obtain ⟨⟨σ, ok, hC, hM⟩, ⟨⟨⟨s, hs, e1, e2, hf⟩, w2, w3⟩, -⟩, -⟩ := id h
  refine pairF (c_X9_see hC ok e1 hs) (c_X10_see (hasM_fr hM (fun k _ => adC_55 (by decide))) ok ((adC_55 (by decide)).trans e2) hs) rfl (adI h (fun z => (adK_i z).1) (by omega) ⟨ad_row (P := pS) (by decide) hs e1 e2 hf (fun z => ⟨(adK_i z).1, (adK_i z).2⟩),
    ad_keep (b2 := 21) (r2 := 6) w2 (by decide) (fun z => (adK_i z).1) (by decide) (by decide) (by decide),
    ad_keep (b2 := 38) (r2 := 9) w3 (by decide) (fun z => (adK_i z).1) (by decide) (by decide) (by decide)⟩)
theorem pr_event (h : INV M L) {x : Int32} {y : Int32} : Pair g yX9_event cX9_event 3 yX10_event cX10_event 4 [.int x, .int y] M L := by
  obtain ⟨⟨σ, ok, hC, hM⟩, ⟨⟨w1, ⟨s, hs, e1, e2, hf⟩, w3⟩, -⟩, -⟩ := id h
  refine pairF (c_X9_event hC ok e1 hs) (c_X10_event (hasM_fr hM (fun k _ => adC_55 (by decide))) ok ((adC_55 (by decide)).trans e2) hs) rfl (adI h (fun z => (evK_i z).1) (by omega) ⟨ad_keep (b2 := 8) (r2 := 3) w1 (by decide) (fun z => (evK_i z).1) (by decide) (by decide) (by decide),
    ad_row (P := pE) (by decide) hs e1 e2 hf (fun z => ⟨(evK_i z).1, (evK_i z).2⟩),
    ad_keep (b2 := 38) (r2 := 9) w3 (by decide) (fun z => (evK_i z).1) (by decide) (by decide) (by decide)⟩)
theorem pr_book (h : INV M L) {x : Int32} {y : Int32} : Pair g yX9_book cX9_book 3 yX10_book cX10_book 4 [.int x, .int y] M L := by
  obtain ⟨⟨σ, ok, hC, hM⟩, ⟨⟨w1, w2, ⟨s, hs, e1, e2, hf⟩⟩, -⟩, -⟩ := id h
  refine pairF (c_X9_book hC ok e1 hs) (c_X10_book (hasM_fr hM (fun k _ => adC_55 (by decide))) ok ((adC_55 (by decide)).trans e2) hs) rfl (adI h (fun z => (adK_i z).1) (by omega) ⟨ad_keep (b2 := 8) (r2 := 3) w1 (by decide) (fun z => (adK_i z).1) (by decide) (by decide) (by decide),
    ad_keep (b2 := 21) (r2 := 6) w2 (by decide) (fun z => (adK_i z).1) (by decide) (by decide) (by decide),
    ad_row (P := pB) (by decide) hs e1 e2 hf (fun z => ⟨(adK_i z).1, trivial⟩)⟩)
theorem pr_feed (h : INV M L) {x : Int32} : Pair g yX9_feed cX9_feed 2 yX10_feed cX10_feed 2 [.int x] M L := by
  obtain ⟨⟨σ, ok, hC, hM⟩, ⟨hw, hI, ⟨s, hs, e1, e2, hf⟩, hP⟩, hO⟩ := id h
  have f : ∀ i u, ¬ (i = 24 ∨ i = 61 ∨ (i = 23 ∧ u = 1) ∨ (i = 54 ∧ u = 9)) → fdM (fdC M s x (fdK s x)) s x (fdK s x) i u = M i u := fun i u z => by
    unfold fdM fdC
    by_cases q : fdK s x = 3
    · rw [if_pos q, if_pos q]
      simp only [s1_at]
      rw [if_neg (by omega), if_neg (by omega), if_neg (by omega), if_neg (by omega)]
    · rw [if_neg q, if_neg q]
  have e9 : fdC M s x (fdK s x) 54 9 = nI s := by
    unfold fdC
    by_cases q : fdK s x = 3
    · rw [if_pos q, s1_ne (by decide), s1_ne (by decide)]; exact e2
    · rw [if_neg q]; exact e2
  refine pairF (c_X9_feed e1 hs) (c_X10_feed e9 hs) rfl ⟨⟨σ, ok, hasC.fr hC (fun i u q => f i u (by omega)), hasM_fr hM (fun u q => f 55 u (by omega))⟩, ⟨rws_fr hw (fun u hu => f 55 u (by omega)) (fun i u z1 z2 => f i u (by omega)), imG_fr hI (f 0 2 (by omega)) (f 54 2 (by omega)) (fun u => f 56 u (by omega)) (fun i u z1 z2 => f i u (by omega)), ?_, fun t ht => tpT_fr (hP t ht) (fun u => f _ u (by simp only [tJ]; omega)) (f 63 t (by omega)) (f 64 t (by omega)) (fun _ _ => rfl) (fun _ _ => rfl)⟩, orb_fr hO (fun i u z1 z2 => f i u (by omega))⟩
  by_cases q : fdK s x = 3
  · have hx : inN x 128 = true ∧ s < 100 := by
      unfold fdK at q
      by_cases c : inN x 128 = false
      · rw [if_pos c] at q; omega
      · rw [if_neg c] at q
        by_cases c2 : s < 100
        · exact ⟨bF c, c2⟩
        · rw [if_neg c2] at q; omega
    unfold fdM fdC
    rw [if_pos q, if_pos q]
    refine ⟨s + 1, by omega, ?_, s1_eq _ _ _ _, fun i hi => ?_⟩
    · rw [s1_ne (by decide), s1_ne (by decide), s1_eq]
    · have b1 : s1 (s1 (s1 (s1 M 24 s x) 23 1 (nI (s + 1))) 61 s x) 54 9 (nI (s + 1)) 24 i = if i = s then x else M 24 i := by
        rw [s1_ne (by decide), s1_ne (by decide), s1_ne (by decide)]
        by_cases c : i = s
        · subst c; rw [s1_eq, if_pos rfl]
        · rw [s1_nk c, if_neg c]
      have b2 : s1 (s1 (s1 (s1 M 24 s x) 23 1 (nI (s + 1))) 61 s x) 54 9 (nI (s + 1)) 61 i = if i = s then x else M 61 i := by
        rw [s1_ne (by decide)]
        by_cases c : i = s
        · subst c; rw [s1_eq, if_pos rfl]
        · rw [s1_nk c, if_neg c, s1_ne (by decide), s1_ne (by decide)]
      rw [b1, b2]
      by_cases c : i = s
      · rw [if_pos c, if_pos c]
        refine ⟨rfl, fun z => ?_⟩
        rw [z] at hx
        exact absurd hx.1 (by decide)
      · rw [if_neg c, if_neg c]
        exact hf i (by omega)
  · unfold fdM fdC
    rw [if_neg q, if_neg q]
    exact ⟨s, hs, e1, e2, hf⟩
theorem pr_read (h : INV M L) : Pair g yX9_read cX9_read 4 yX10_read cX10_read 6 [] M L := by
  obtain ⟨⟨σ, ok, hC, hM⟩, ⟨hw, hI, ⟨s, hs, e1, e2, hf⟩, hP⟩, hO⟩ := id h
  refine ⟨_, c_X9_read hC ok e1 hs (t := M 24) (fun _ _ => rfl), fun r1 m1 l1 q1 => ?_⟩
  obtain ⟨z1, z2, M1, f1, z3, z4⟩ := q1
  rw [z1, z4]
  have g1 : ∀ i u, ¬ (i = 1 ∨ i = 2 ∨ (i = 23 ∧ (u = 1 ∨ u = 2 ∨ u = 6)) ∨ (25 ≤ i ∧ i ≤ 27)) → putC M1 (ansRd (M 24) s σ).2 i u = M i u := fun i u z => by rw [putC_ne (by omega) (by omega)]; exact f1 i u (by omega)
  refine ⟨_, c_X10_read (σ := σ) (s := s) (t := M 24) (hasM_fr hM (fun u _ => g1 55 u (by omega))) ok ((g1 54 9 (by omega)).trans e2) hs (fun i hi => (g1 61 i (by omega)).trans (hf i hi).1.symm) (fun i hi z => (hf i hi).2 ((hf i hi).1.symm.trans z)), fun r2 m2 l2 q2 => ?_⟩
  obtain ⟨y1, y2, y3, y4, f2⟩ := q2
  rw [y1]
  have g2 : ∀ i u, ¬ (i = 1 ∨ i = 2 ∨ (i = 23 ∧ (u = 1 ∨ u = 2 ∨ u = 6)) ∨ (25 ≤ i ∧ i ≤ 27) ∨ (i = 54 ∧ (u = 9 ∨ u = 10 ∨ u = 12 ∨ u = 13)) ∨ i = 62 ∨ (i = 55 ∧ u < 8)) → m2 i u = M i u := fun i u z => (f2 i u (by omega)).trans (g1 i u (by omega))
  refine ⟨by rw [z2, y2], ⟨(ansRd (M 24) s σ).2, ok_rd ok, hasC.fr (hasC_put M1 _) (fun i u q => f2 i u (by omega)), y3⟩, ⟨rws_fr hw (fun u hu => g2 55 u (by omega)) (fun i u a b => g2 i u (by omega)), imG_fr hI (g2 0 2 (by omega)) (g2 54 2 (by omega)) (fun u => g2 56 u (by omega)) (fun i u a b => g2 i u (by omega)), ⟨0, Nat.zero_le _, ?_, y4, fun i hi => absurd hi (Nat.not_lt_zero i)⟩, fun t ht => tpT_fr (hP t ht) (fun u => g2 _ u (by simp only [tJ]; omega)) (g2 63 t (by omega)) (g2 64 t (by omega)) (fun _ _ => rfl) (fun _ _ => rfl)⟩, orb_fr hO (fun i u a b => g2 i u (by omega))⟩
  rw [f2 23 1 (by omega), putC_ne (by decide) (by decide), z3]
  rfl
theorem rowI_cp {M' : MI} {r r2 m m2 q n : Nat} {P : Int32 → Int32 → Prop} (h : rowI M r m q n P) (hq : rowQ M M' r2 r n) (hm : ∀ k, k < 55 → M' m2 k = M m k) (hn : q + 1 + n + n ≤ 55) : rowI M' r2 m2 q n P := by
  obtain ⟨s, a, e1, e2, hf⟩ := h
  refine ⟨s, a, hq.1.trans e1, (hm q (by omega)).trans e2, fun k hk => ?_⟩
  rw [(hq.2 k (by omega)).1, (hq.2 k (by omega)).2, hm (q + 1 + k) (by omega), hm (q + 1 + n + k) (by omega)]
  exact hf k hk
theorem rowQ_fr {M' M2 : MI} {r q n : Nat} (h : rowQ M M' r q n) (f : ∀ i k, r ≤ i → i ≤ r + 2 → M2 i k = M' i k) : rowQ M M2 r q n := ⟨(f _ _ (by omega) (by omega)).trans h.1, fun k hk => ⟨(f _ _ (by omega) (by omega)).trans (h.2 k hk).1, (f _ _ (by omega) (by omega)).trans (h.2 k hk).2⟩⟩
theorem pr_image (h : INV M L) : Pair g yX9_image cX9_image 1 yX10_image cX10_image 2 [] M L := by
  obtain ⟨⟨σ, ok, hC, hM⟩, ⟨hw, hI, hT, hP⟩, hO⟩ := id h
  obtain ⟨q1, q2, q3, q4, q5, q6⟩ := cpS_12_q M
  have e : ∀ i u, ¬ (i = 54 ∧ u = 2) → i ≠ 56 → s1 (cpR (s1 (cpS_12 M) 0 2 1) 55 56 55) 54 2 1 i u = s1 (cpS_12 M) 0 2 1 i u := fun i u z z2 => by rw [s1_at, if_neg z, cpR_ne z2]
  have f : ∀ i u, ¬ (12 ≤ i ∧ i ≤ 22) → ¬ (i = 0 ∧ u = 2) → ¬ (i = 54 ∧ u = 2) → i ≠ 56 → s1 (cpR (s1 (cpS_12 M) 0 2 1) 55 56 55) 54 2 1 i u = M i u := fun i u z0 z1 z2 z3 => by rw [e i u z2 z3, s1_at, if_neg z1]; exact q1 i u (by omega)
  have f2 : ∀ i u, 12 ≤ i → i ≤ 22 → s1 (cpR (s1 (cpS_12 M) 0 2 1) 55 56 55) 54 2 1 i u = cpS_12 M i u := fun i u z0 z1 => by rw [e i u (by omega) (by omega), s1_ne (by omega)]
  have f3 : ∀ u, u < 55 → s1 (cpR (s1 (cpS_12 M) 0 2 1) 55 56 55) 54 2 1 56 u = M 55 u := fun u hu => by rw [s1_ne (by decide), cpR_at hu, s1_ne (by decide)]; exact q1 55 u (by omega)
  refine pairF c_X9_image c_X10_image ?_ ⟨⟨σ, ok, gC_fr (b := 1) hC (fun i u z1 z2 => f i u (by omega) (by omega) (by omega) (by omega)), hasM_fr hM (fun u q => f 55 u (by omega) (by omega) (by omega) (by omega))⟩, ⟨rws_fr hw (fun u hu => f 55 u (by omega) (by omega) (by omega) (by omega)) (fun i u z1 z2 => f i u (by omega) (by omega) (by omega) (by omega)), Or.inr ⟨?_, s1_eq _ _ _ _, ⟨σ, ok, ⟨?_, ?_, ?_, ?_, fun v hv => ?_⟩, ?_⟩, ⟨?_, ?_, ?_⟩⟩, txT_fr hT (f 23 1 (by omega) (by omega) (by omega) (by omega)) (f 54 9 (by omega) (by omega) (by omega) (by omega)) (fun u => f 24 u (by omega) (by omega) (by omega) (by omega)) (fun u => f 61 u (by omega) (by omega) (by omega) (by omega)), fun t ht => tpT_fr (hP t ht) (fun u => f _ u (by simp only [tJ]; omega) (by simp only [tJ]; omega) (by simp only [tJ]; omega) (by simp only [tJ]; omega)) (f 63 t (by omega) (by omega) (by omega) (by omega)) (f 64 t (by omega) (by omega) (by omega) (by omega)) (fun _ _ => rfl) (fun _ _ => rfl)⟩, orb_fr hO (fun i u z1 z2 => f i u (by omega) (by omega) (by omega) (by omega))⟩
  · rw [s1_ne (by decide), q1 55 1 (by omega), hM.2.1]; exact hC.2.1
  · rw [e 0 2 (by omega) (by omega), s1_eq]
  · rw [f2 12 0 (by omega) (by omega), q2.1]; exact hC.1
  · rw [f2 12 1 (by omega) (by omega), q2.2.1]; exact hC.2.1
  · rw [f2 12 2 (by omega) (by omega), q2.2.2.1]; exact hC.2.2.1
  · rw [f2 12 4 (by omega) (by omega), q2.2.2.2]; exact hC.2.2.2.1
  · rw [f2 13 v (by omega) (by omega), q3 v hv]; exact hC.2.2.2.2 v hv
  · exact ⟨(f3 0 (by omega)).trans hM.1, (f3 1 (by omega)).trans hM.2.1, (f3 2 (by omega)).trans hM.2.2.1, (f3 3 (by omega)).trans hM.2.2.2.1, fun v hv => (f3 (4 + v) (by omega)).trans (hM.2.2.2.2 v hv)⟩
  · exact rowI_cp hw.1 (rowQ_fr q4 (fun i u z1 z2 => f2 i u (by omega) (by omega))) f3 (by decide)
  · exact rowI_cp hw.2.1 (rowQ_fr q5 (fun i u z1 z2 => f2 i u (by omega) (by omega))) f3 (by decide)
  · exact rowI_cp hw.2.2 (rowQ_fr q6 (fun i u z1 z2 => f2 i u (by omega) (by omega))) f3 (by decide)
theorem pr_undo (h : INV M L) : Pair g yX9_undo cX9_undo 1 yX10_undo cX10_undo 2 [] M L := by
  obtain ⟨⟨σ, ok, hC, hM⟩, ⟨hw, hI, hT, hP⟩, hO⟩ := id h
  rcases id hI with ⟨a, b⟩ | ⟨a, b, ⟨τ, okt, t1, t2⟩, hw2⟩
  · exact pairF (c_X9_undo_n a) (c_X10_undo_n b) rfl h
  · obtain ⟨q1, q2, q3, q4, q5, q6⟩ := cpS_1_q M
    have f : ∀ i u, ¬ (1 ≤ i ∧ i ≤ 11) → i ≠ 55 → cpR (cpS_1 M) 56 55 55 i u = M i u := fun i u z z2 => by rw [cpR_ne z2]; exact q1 i u (by omega)
    have f2 : ∀ i u, i ≠ 55 → cpR (cpS_1 M) 56 55 55 i u = cpS_1 M i u := fun i u z => by rw [cpR_ne z]
    have f3 : ∀ u, u < 55 → cpR (cpS_1 M) 56 55 55 55 u = M 56 u := fun u hu => by rw [cpR_at hu]; exact q1 56 u (by omega)
    refine pairF (c_X9_undo_y a) (c_X10_undo_y ((q1 54 2 (by omega)).trans b)) ?_ ⟨⟨τ, okt, ⟨?_, ?_, ?_, ?_, fun v hv => ?_⟩, ?_⟩, ⟨⟨?_, ?_, ?_⟩, imG_fr hI (f 0 2 (by omega) (by omega)) (f 54 2 (by omega) (by omega)) (fun u => f 56 u (by omega) (by omega)) (fun i u z1 z2 => f i u (by omega) (by omega)), txT_fr hT (f 23 1 (by omega) (by omega)) (f 54 9 (by omega) (by omega)) (fun u => f 24 u (by omega) (by omega)) (fun u => f 61 u (by omega) (by omega)), fun t ht => tpT_fr (hP t ht) (fun u => f _ u (by simp only [tJ]; omega) (by simp only [tJ]; omega)) (f 63 t (by omega) (by omega)) (f 64 t (by omega) (by omega)) (fun _ _ => rfl) (fun _ _ => rfl)⟩, orb_fr hO (fun i u z1 z2 => f i u (by omega) (by omega))⟩
    · rw [q1 56 1 (by omega), t2.2.1]; exact t1.2.1
    · rw [f2 1 0 (by omega), q2.1]; exact t1.1
    · rw [f2 1 1 (by omega), q2.2.1]; exact t1.2.1
    · rw [f2 1 2 (by omega), q2.2.2.1]; exact t1.2.2.1
    · rw [f2 1 4 (by omega), q2.2.2.2]; exact t1.2.2.2.1
    · rw [f2 2 v (by omega), q3 v hv]; exact t1.2.2.2.2 v hv
    · exact ⟨(f3 0 (by omega)).trans t2.1, (f3 1 (by omega)).trans t2.2.1, (f3 2 (by omega)).trans t2.2.2.1, (f3 3 (by omega)).trans t2.2.2.2.1, fun v hv => (f3 (4 + v) (by omega)).trans (t2.2.2.2.2 v hv)⟩
    · exact rowI_cp hw2.1 (rowQ_fr q4 (fun i u z1 z2 => f2 i u (by omega))) f3 (by decide)
    · exact rowI_cp hw2.2.1 (rowQ_fr q5 (fun i u z1 z2 => f2 i u (by omega))) f3 (by decide)
    · exact rowI_cp hw2.2.2 (rowQ_fr q6 (fun i u z1 z2 => f2 i u (by omega))) f3 (by decide)
theorem first_congr {p q : Nat → Bool} : ∀ {N : Nat}, (∀ k, k < N → p k = q k) → fa_first p N = fa_first q N
  | 0, _ => rfl
  | N + 1, h => by
    unfold fa_first
    rw [first_congr (fun k hk => h k (by omega)), h N (by omega)]
/-- what changes is one tape -/
theorem INV_tp {M' : MI} {L' : ML} {t : Nat} (h : INV M L) (ht : t < 6) (f : ∀ i u, ¬ (i = tJ t ∨ ((i = 63 ∨ i = 64) ∧ u = t)) → M' i u = M i u) (fL : ∀ i, i ≠ tJ t + 1 → i ≠ tM t → i ≠ 66 → L' i = L i) (hn : tpT M' L' t) : INV M' L' := by
  obtain ⟨⟨σ, ok, hC, hM⟩, ⟨hw, hI, hT, hP⟩, hO⟩ := h
  simp only [tJ, tM] at f fL
  refine ⟨⟨σ, ok, hasC.fr hC (fun i u q => f i u (by omega)), hasM_fr hM (fun u q => f 55 u (by omega))⟩, ⟨rws_fr hw (fun u hu => f 55 u (by omega)) (fun i u z1 z2 => f i u (by omega)), imG_fr hI (f 0 2 (by omega)) (f 54 2 (by omega)) (fun u => f 56 u (by omega)) (fun i u z1 z2 => f i u (by omega)), txT_fr hT (f 23 1 (by omega)) (f 54 9 (by omega)) (fun u => f 24 u (by omega)) (fun u => f 61 u (by omega)), fun q hq => ?_⟩, orb_fr hO (fun i u z1 z2 => f i u (by omega))⟩
  by_cases c : q = t
  · subst c; exact hn
  · refine tpT_fr (hP q hq) (fun u => f _ u (by simp only [tJ]; omega)) (f 63 q (by omega)) (f 64 q (by omega)) (fun k _ => by rw [fL _ (by simp only [tJ]; omega) (by simp only [tJ]; omega) (by simp only [tJ]; omega)]) (fun k _ => by rw [fL _ (by simp only [tM]; omega) (by simp only [tM]; omega) (by simp only [tM]; omega)])
theorem jg_congr {n c z : Nat} {so : Int32} {r r2 : Nat → Int64} {i : Int32} (h4 : n ≤ 4) (hz : z ≤ 60) (hr : ∀ k, k < 60 → r k = r2 k) : jgA n c z so r i = jgA n c z so r2 i := by
  have h16 := pow4 h4
  have e : ∀ k, k < 2 ^ n → jgP c z r i k = jgP c z r2 i k := fun k hk => by
    unfold jgP
    cases q : jgB z i k
    · have q2 := of_decide_eq_false q
      have hi : ¬ i < 0 := fun w => q2 (Or.inl w)
      have hk2 : ¬ nI z - nI k ≤ i := fun w => q2 (Or.inr w)
      rw [fa_le, fb_subI (by rw [nI_toInt (by omega), nI_toInt (by omega)]; omega) (by rw [nI_toInt (by omega), nI_toInt (by omega)]; omega), nI_toInt (by omega), nI_toInt (by omega)] at hk2
      rw [fa_lt, show (0 : Int32).toInt = 0 from rfl] at hi
      have : iN i + k < 60 := by unfold iN; omega
      rw [hr _ this]
    · rfl
  have ef : fa_first (jgP c z r i) (2 ^ n) = fa_first (jgP c z r2 i) (2 ^ n) := first_congr e
  unfold jgA ansJg
  rw [ef]
theorem pr_judge (h : INV M L) {x : Int32} {y : Int32} : Pair g yX9_judge cX9_judge 5 yX10_judge cX10_judge 4 [.int x, .int y] M L := by
  obtain ⟨⟨σ, ok, hC, hM⟩, ⟨-, -, -, hP⟩, -⟩ := id h
  by_cases q : inN x 6 = true
  · obtain ⟨t, ht, rfl⟩ := inN_of q
    obtain ⟨so, z, s5, a1, a2, z6, b1, b2, hr⟩ := hP t ht
    by_cases c : so = -1
    · refine pairF (c_X9_judge_t hC ok ht a1 b1 z6) (c_X10_judge_n hM ok ht (by rw [a2, c])) ?_ h
      unfold jgA
      rw [if_pos c]
    · exact pairF (c_X9_judge_t hC ok ht a1 b1 z6) (c_X10_judge_y hM ok ht a2 b2 z6 s5 c) (jg_congr ok.2.1 z6 hr) h
  · exact pairF (c_X9_judge_no (by cases w : inN x 6; rfl; exact absurd w q)) (c_X10_judge_no (by cases w : inN x 6; rfl; exact absurd w q)) rfl h
theorem pr_peek (h : INV M L) {x : Int32} {y : Int32} : PairL g yX9_peek cX9_peek 3 yX10_peek cX10_peek 3 [.int x, .int y] M L := by
  obtain ⟨-, ⟨-, -, -, hP⟩, -⟩ := id h
  by_cases q : inN x 6 = true
  · obtain ⟨t, ht, rfl⟩ := inN_of q
    obtain ⟨so, z, s5, a1, a2, z6, b1, b2, hr⟩ := hP t ht
    refine pairFL (c_X9_peek_t ht a1 b1 z6) (c_X10_peek_t ht a2 b2 z6 s5) ?_ h
    unfold pkA
    by_cases c : inN y z = true
    · rw [if_pos c, if_pos c]
      obtain ⟨k, hk, rfl⟩ := inN_of c
      rw [iN_nI (by omega)]
      exact hr k (by omega)
    · rw [if_neg c, if_neg c]
  · exact pairFL (c_X9_peek_no (by cases w : inN x 6; rfl; exact absurd w q)) (c_X10_peek_no (by cases w : inN x 6; rfl; exact absurd w q)) rfl h
theorem pr_item (h : INV M L) {x : Int32} {y : Int32} {v : Int64} : Pair g yX9_item cX9_item 6 yX10_item cX10_item 5 [.int x, .int y, .long v] M L := by
  obtain ⟨-, ⟨-, -, -, hP⟩, -⟩ := id h
  by_cases q : inN x 6 = true
  · obtain ⟨t, ht, rfl⟩ := inN_of q
    obtain ⟨so, z, s5, a1, a2, z6, b1, b2, hr⟩ := hP t ht
    refine pairF (c_X9_item_t ht a1 b1 z6) (c_X10_item_t ht a2 b2 z6 s5) rfl (INV_tp h ht (fun _ _ _ => rfl) (fun i w1 w2 _ => ?_) ⟨so, z, s5, a1, a2, z6, b1, b2, fun k hk => ?_⟩)
    · unfold itL
      by_cases c : so = -1
      · rw [if_pos c, if_pos c]
      · rw [if_neg c, if_neg c]
        by_cases c2 : inN y z = false
        · rw [if_pos c2, if_pos c2]
        · rw [if_neg c2, if_neg c2]
          unfold s1L
          rw [srL_ne w2, srL_ne w1]
    · unfold itL
      by_cases c : so = -1
      · rw [if_pos c, if_pos c]; exact hr k hk
      · rw [if_neg c, if_neg c]
        by_cases c2 : inN y z = false
        · rw [if_pos c2, if_pos c2]; exact hr k hk
        · rw [if_neg c2, if_neg c2]
          have b1 : s1L (s1L L (tJ t + 1) (iN y) (cutV so v)) (tM t) (iN y) (cutV so v) (tJ t + 1) k = if k = iN y then cutV so v else L (tJ t + 1) k := by
            rw [s1L_at, if_neg (by simp only [tJ, tM]; omega), s1L_at]
            by_cases c3 : k = iN y
            · rw [if_pos ⟨rfl, c3⟩, if_pos c3]
            · rw [if_neg (fun w => c3 w.2), if_neg c3]
          have b2 : s1L (s1L L (tJ t + 1) (iN y) (cutV so v)) (tM t) (iN y) (cutV so v) (tM t) k = if k = iN y then cutV so v else L (tM t) k := by
            rw [s1L_at]
            by_cases c3 : k = iN y
            · rw [if_pos ⟨rfl, c3⟩, if_pos c3]
            · rw [if_neg (fun w => c3 w.2), if_neg c3, s1L_at, if_neg (by simp only [tJ, tM]; omega)]
          rw [b1, b2, hr k hk]
  · exact pairF (c_X9_item_no (by cases w : inN x 6; rfl; exact absurd w q)) (c_X10_item_no (by cases w : inN x 6; rfl; exact absurd w q)) rfl h
theorem tp_new {t z : Nat} {so : Int32} (h : INV M L) (ht : t < 6) (hso : soOK so) (hz : z ≤ 60) : INV (s1 (s1 (s1 (s1 M (tJ t) 0 so) (tJ t) 1 (nI z)) 63 t so) 64 t (nI z)) (zLk (zLk L (tJ t + 1) 60) (tM t) 60) := by
  refine INV_tp h ht (fun i u w => ?_) (fun i w1 w2 _ => ?_) ⟨so, z, hso, ?_, ?_, hz, ?_, ?_, fun k hk => ?_⟩
  · simp only [s1_at]
    simp only [tJ] at w ⊢
    rw [if_neg (by omega), if_neg (by omega), if_neg (by omega), if_neg (by omega)]
  · unfold zLk
    rw [srL_ne w2, srL_ne w1]
  · rw [s1_ne (by simp only [tJ]; omega), s1_ne (by simp only [tJ]; omega), s1_nk (by decide), s1_eq]
  · rw [s1_ne (by decide), s1_eq]
  · rw [s1_ne (by simp only [tJ]; omega), s1_ne (by simp only [tJ]; omega), s1_eq]
  · rw [s1_eq]
  · unfold zLk
    rw [srL_ne (by simp only [tJ, tM]; omega), srL_eq, srL_eq, if_pos hk, if_pos hk]
theorem tp_k3 {x y z : Int32} (h : tpK x y z = 3) : soOK y ∧ ∃ w, w ≤ 60 ∧ z = nI w := by
  unfold tpK at h
  by_cases c : inN x 6 = false
  · rw [if_pos c] at h; omega
  · rw [if_neg c] at h
    by_cases c1 : y = -1
    · rw [if_pos c1] at h; omega
    · rw [if_neg c1] at h
      by_cases c2 : y < 0 ∨ 4 < y ∨ 60 < z
      · rw [if_pos c2] at h; omega
      · rw [if_neg c2] at h
        by_cases c3 : z < 0
        · rw [if_pos c3] at h; omega
        · have d1 : ¬ y < 0 := fun w => c2 (Or.inl w)
          have d2 : ¬ 4 < y := fun w => c2 (Or.inr (Or.inl w))
          have d3 : ¬ 60 < z := fun w => c2 (Or.inr (Or.inr w))
          rw [fa_lt, show (0 : Int32).toInt = 0 from rfl] at d1 c3
          rw [fa_lt, show (4 : Int32).toInt = 4 from rfl] at d2
          rw [fa_lt, show (60 : Int32).toInt = 60 from rfl] at d3
          refine ⟨Or.inr (inN_yes.mpr ⟨by omega, by omega⟩), ?_⟩
          obtain ⟨w, hw, e⟩ := inN_of (x := z) (N := 61) (inN_yes.mpr ⟨by omega, by omega⟩)
          exact ⟨w, by omega, e⟩
theorem pr_tape (h : INV M L) {x : Int32} {y : Int32} {z : Int32} : Pair g yX9_tape cX9_tape 4 yX10_tape cX10_tape 5 [.int x, .int y, .int z] M L := by
  obtain ⟨-, ⟨-, -, -, hP⟩, -⟩ := id h
  by_cases q : inN x 6 = true
  · obtain ⟨t, ht, rfl⟩ := inN_of q
    refine pairF (c_X9_tape_t ht) (c_X10_tape_t ht) rfl ?_
    by_cases k5 : tpK (nI t) y z = 5
    · rw [k5]
      have eM : tpM (tpC M t y z 5) t y z 5 = s1 (s1 (s1 (s1 M (tJ t) 0 (-1)) (tJ t) 1 0) 63 t (-1)) 64 t 0 := rfl
      have eL : tpL (tpL L (tJ t + 1) 5) (tM t) 5 = zLk (zLk L (tJ t + 1) 60) (tM t) 60 := rfl
      rw [eM, eL]
      exact tp_new h ht (Or.inl rfl) (z := 0) (by decide)
    · by_cases k3 : tpK (nI t) y z = 3
      · rw [k3]
        have eM : tpM (tpC M t y z 3) t y z 3 = s1 (s1 (s1 (s1 M (tJ t) 0 y) (tJ t) 1 z) 63 t y) 64 t z := rfl
        have eL : tpL (tpL L (tJ t + 1) 3) (tM t) 3 = zLk (zLk L (tJ t + 1) 60) (tM t) 60 := rfl
        rw [eM, eL]
        obtain ⟨y5, w, hw, rfl⟩ := tp_k3 k3
        exact tp_new h ht y5 hw
      · have e1 : tpC M t y z (tpK (nI t) y z) = M := by unfold tpC; rw [if_neg k5, if_neg k3]
        have e2 : ∀ i, tpL L i (tpK (nI t) y z) = L := fun i => by unfold tpL; rw [if_neg k5, if_neg k3]
        have e3 : tpM M t y z (tpK (nI t) y z) = M := by unfold tpM; rw [if_neg k5, if_neg k3]
        rw [e1, e2, e2, e3]
        exact h
  · exact pairF (c_X9_tape_no (by cases w : inN x 6; rfl; exact absurd w q)) (c_X10_tape_no (by cases w : inN x 6; rfl; exact absurd w q)) rfl h
theorem pr_shift (h : INV M L) {x : Int32} {i : Int32} {y : Int32} {j : Int32} {n : Int32} : Pair g yX9_shift cX9_shift 8 yX10_shift cX10_shift 7 [.int x, .int i, .int y, .int j, .int n] M L := by
  obtain ⟨-, ⟨-, -, -, hP⟩, -⟩ := id h
  by_cases q : inN x 6 = true
  · by_cases q2 : inN y 6 = true
    · obtain ⟨t, ht, rfl⟩ := inN_of q
      obtain ⟨u, hu, rfl⟩ := inN_of q2
      obtain ⟨so, z, s5, a1, a2, z6, b1, b2, hr⟩ := hP t ht
      obtain ⟨so2, z2, s52, a12, a22, z62, b12, b22, hr2⟩ := hP u hu
      by_cases c : shOK so so2 z z2 i j n
      · obtain ⟨c1, c2, c3, c4, c5⟩ := c
        obtain ⟨a, m, rfl, rfl, ham⟩ := str_of z6 c4
        obtain ⟨b, m2, rfl, em, hbm⟩ := str_of z62 c5
        have em2 : m = m2 := (nI_eq (by omega) (by omega)).mp em
        subst em2
        refine pairF (c_X9_shift_y ht hu a1 b1 z6 a12 b12 z62 c1 c2 c3 ham hbm) (c_X10_shift_y ht hu a2 b2 z6 s5 a22 b22 z62 s52 c1 c2 c3 ham hbm) rfl (INV_tp h hu (fun _ _ _ => rfl) (fun i w1 w2 w3 => ?_) ⟨so2, z2, s52, a12, a22, z62, b12, b22, fun k hk => ?_⟩)
        · rw [dL_ne w2, bL_ne w3, srL_ne w1]
        · rw [dL_ne (by simp only [tJ, tM]; omega), bL_ne (by simp only [tJ]; omega), srL_eq]
          unfold dL
          rw [srL_eq]
          unfold va_cpy
          by_cases w : b ≤ k ∧ k < b + m
          · rw [if_pos w, if_pos w, bL_66]
            show _ = (if k - b < m then _ else _)
            rw [if_pos (by omega), srL_ne (by simp only [tJ, tM]; omega)]
            exact hr _ (by omega)
          · rw [if_neg w, if_neg w, bL_ne (by simp only [tM]; omega), srL_ne (by simp only [tJ, tM]; omega)]
            exact hr2 k hk
      · exact pairF (c_X9_shift_f ht hu a1 b1 z6 a12 b12 z62 c) (c_X10_shift_f ht hu a2 b2 z6 s5 a22 b22 z62 s52 c) rfl h
    · have w : inN y 6 = false := by cases w : inN y 6; rfl; exact absurd w q2
      exact pairF (c_X9_shift_no (Or.inr w)) (c_X10_shift_no (Or.inr w)) rfl h
  · have w : inN x 6 = false := by cases w : inN x 6; rfl; exact absurd w q
    exact pairF (c_X9_shift_no (Or.inl w)) (c_X10_shift_no (Or.inl w)) rfl h
end Pairs2
