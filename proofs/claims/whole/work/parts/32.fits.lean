/-! fits -/
def wLot (σ : AS) (f : Nat → Int32) (k : Nat) : Int32 := wth σ.2.2.2.1 (iN (f k)) σ.1
theorem wth_b {σ : AS} (h : okS σ) (k : Nat) : -36 ≤ (wth σ.2.2.2.1 k σ.1).toInt ∧ (wth σ.2.2.2.1 k σ.1).toInt ≤ 36 := by
  obtain ⟨a, b, c⟩ := wth_I (w := σ.2.2.2.1) (r := fun v => (σ.2.2.2.1 v).toInt) (k := k) h.2.1 (fun v _ => ⟨rfl, (h.2.2.2.2.1 v).1, (h.2.2.2.2.1 v).2⟩)
  have := h.2.1
  rw [a]
  omega
def sbP (σ : AS) (f h : Nat → Int32) (q : Int32) (k : Nat) : Bool := !inN (f k) (2 ^ σ.1) || decide (¬ bI (decide (q ≤ wLot σ f k)) = h k)
def seenB (σ : AS) (f h : Nat → Int32) (s : Nat) (q : Int32) : Bool := decide (∀ k, k < s → sbP σ f h q k = false)
def qI (k : Nat) : Int32 := Int32.ofInt (40 - (k : Int))
theorem qI_t {k : Nat} (h : k ≤ 100) : (qI k).toInt = 40 - (k : Int) := fb_ofI (by omega) (by omega)
theorem qI_s {k : Nat} (h : k < 100) : qI k + Int32.ofInt (-1) = qI (k + 1) := by
  have e : (Int32.ofInt (-1)).toInt = -1 := rfl
  rw [fa_eq, fb_addI (by rw [qI_t (by omega), e]; omega) (by rw [qI_t (by omega), e]; omega), qI_t (by omega), qI_t (by omega), e]
  omega
def fitP (σ : AS) (f h : Nat → Int32) (s j : Nat) : Bool := seenB σ f h s (qI j)
def ltF (P : Nat → Bool) : Nat → Nat
  | 0 => 0
  | k + 1 => if P k then 81 - k else ltF P k
def ansFit (σ : AS) (f h : Nat → Int32) (s : Nat) (x : Int32) : Int32 := if inN x 2 = false then -1 else if x = 0 then nI (cnt (fitP σ f h s) 81) else nI (ltF (fitP σ f h s) 81)
def loN (σ : AS) (f h : Nat → Int32) : Nat → Int32
  | 0 => -40
  | k + 1 => if h k = 0 then (if loN σ f h k < wLot σ f k + 1 then wLot σ f k + 1 else loN σ f h k) else loN σ f h k
def hiN (σ : AS) (f h : Nat → Int32) : Nat → Int32
  | 0 => 40
  | k + 1 => if inN (f k) (2 ^ σ.1) = true ∧ h k = 1 then (if wLot σ f k < hiN σ f h k then wLot σ f k else hiN σ f h k) else hiN σ f h k
def vldB (σ : AS) (f : Nat → Int32) (s : Nat) : Bool := decide (∀ k, k < s → inN (f k) (2 ^ σ.1) = true)
def loA (σ : AS) (f h : Nat → Int32) (s : Nat) : Int32 := if vldB σ f s = true then loN σ f h s else 41
theorem lo_s {σ : AS} (hσ : okS σ) (f h : Nat → Int32) : ∀ k, (-40 ≤ (loN σ f h k).toInt ∧ (loN σ f h k).toInt ≤ 37) ∧ ∀ q : Int, (loN σ f h k).toInt ≤ q ↔ -40 ≤ q ∧ ∀ j, j < k → h j = 0 → (wLot σ f j).toInt + 1 ≤ q
  | 0 => ⟨⟨show (-40 : Int) ≤ (-40 : Int32).toInt by decide, show (-40 : Int32).toInt ≤ 37 by decide⟩, fun q => ⟨fun e => ⟨e, fun j hj => absurd hj (by omega)⟩, fun e => e.1⟩⟩
  | k + 1 => by
    obtain ⟨⟨a1, a2⟩, a3⟩ := lo_s hσ f h k
    have wb := wth_b hσ (iN (f k))
    have e1 : (1 : Int32).toInt = 1 := rfl
    have wa : (wLot σ f k + 1).toInt = (wLot σ f k).toInt + 1 := by
      unfold wLot
      rw [fb_addI (by rw [e1]; omega) (by rw [e1]; omega), e1]
    have wb' : -36 ≤ (wLot σ f k).toInt ∧ (wLot σ f k).toInt ≤ 36 := wb
    have hs : ∀ q : Int, (∀ j, j < k + 1 → h j = 0 → (wLot σ f j).toInt + 1 ≤ q) ↔ (∀ j, j < k → h j = 0 → (wLot σ f j).toInt + 1 ≤ q) ∧ (h k = 0 → (wLot σ f k).toInt + 1 ≤ q) := fun q =>
      ⟨fun e => ⟨fun j hj => e j (by omega), e k (by omega)⟩, fun e j hj => by
        rcases Nat.lt_succ_iff_lt_or_eq.mp hj with z | z
        · exact e.1 j z
        · subst z; exact e.2⟩
    unfold loN
    by_cases c : h k = 0
    · rw [if_pos c]
      by_cases c2 : loN σ f h k < wLot σ f k + 1
      · have c3 := (fa_lt _ _).mp c2
        rw [if_pos c2, wa]
        rw [wa] at c3
        refine ⟨by omega, fun q => ?_⟩
        rw [hs q]
        have := a3 q
        constructor
        · intro e
          have e2 := this.mp (by omega)
          exact ⟨e2.1, e2.2, fun _ => e⟩
        · intro e
          exact e.2.2 c
      · have c3 : ¬ (loN σ f h k).toInt < (wLot σ f k + 1).toInt := fun z => c2 ((fa_lt _ _).mpr z)
        rw [if_neg c2]
        rw [wa] at c3
        refine ⟨by omega, fun q => ?_⟩
        rw [hs q]
        have := a3 q
        constructor
        · intro e
          have e2 := this.mp e
          exact ⟨e2.1, e2.2, fun _ => by omega⟩
        · intro e
          exact this.mpr ⟨e.1, e.2.1⟩
    · rw [if_neg c]
      refine ⟨⟨a1, a2⟩, fun q => ?_⟩
      rw [hs q]
      have := a3 q
      constructor
      · intro e
        have e2 := this.mp e
        exact ⟨e2.1, e2.2, fun z => absurd z c⟩
      · intro e
        exact this.mpr ⟨e.1, e.2.1⟩
theorem hi_s {σ : AS} (hσ : okS σ) (f h : Nat → Int32) : ∀ k, (-36 ≤ (hiN σ f h k).toInt ∧ (hiN σ f h k).toInt ≤ 40) ∧ ∀ q : Int, q ≤ (hiN σ f h k).toInt ↔ q ≤ 40 ∧ ∀ j, j < k → inN (f j) (2 ^ σ.1) = true → h j = 1 → q ≤ (wLot σ f j).toInt
  | 0 => ⟨⟨show (-36 : Int) ≤ (40 : Int32).toInt by decide, show (40 : Int32).toInt ≤ 40 by decide⟩, fun q => ⟨fun e => ⟨e, fun j hj => absurd hj (by omega)⟩, fun e => e.1⟩⟩
  | k + 1 => by
    obtain ⟨⟨a1, a2⟩, a3⟩ := hi_s hσ f h k
    have wb' : -36 ≤ (wLot σ f k).toInt ∧ (wLot σ f k).toInt ≤ 36 := wth_b hσ (iN (f k))
    have hs : ∀ q : Int, (∀ j, j < k + 1 → inN (f j) (2 ^ σ.1) = true → h j = 1 → q ≤ (wLot σ f j).toInt) ↔ (∀ j, j < k → inN (f j) (2 ^ σ.1) = true → h j = 1 → q ≤ (wLot σ f j).toInt) ∧ (inN (f k) (2 ^ σ.1) = true → h k = 1 → q ≤ (wLot σ f k).toInt) := fun q =>
      ⟨fun e => ⟨fun j hj => e j (by omega), e k (by omega)⟩, fun e j hj => by
        rcases Nat.lt_succ_iff_lt_or_eq.mp hj with z | z
        · exact e.1 j z
        · subst z; exact e.2⟩
    unfold hiN
    by_cases c : inN (f k) (2 ^ σ.1) = true ∧ h k = 1
    · rw [if_pos c]
      by_cases c2 : wLot σ f k < hiN σ f h k
      · have c3 := (fa_lt _ _).mp c2
        rw [if_pos c2]
        refine ⟨by omega, fun q => ?_⟩
        rw [hs q]
        have := a3 q
        constructor
        · intro e
          have e2 := this.mp (by omega)
          exact ⟨e2.1, e2.2, fun _ _ => e⟩
        · intro e
          exact e.2.2 c.1 c.2
      · have c3 : ¬ (wLot σ f k).toInt < (hiN σ f h k).toInt := fun z => c2 ((fa_lt _ _).mpr z)
        rw [if_neg c2]
        refine ⟨by omega, fun q => ?_⟩
        rw [hs q]
        have := a3 q
        constructor
        · intro e
          have e2 := this.mp e
          exact ⟨e2.1, e2.2, fun _ _ => by omega⟩
        · intro e
          exact this.mpr ⟨e.1, e.2.1⟩
    · rw [if_neg c]
      refine ⟨⟨a1, a2⟩, fun q => ?_⟩
      rw [hs q]
      have := a3 q
      constructor
      · intro e
        have e2 := this.mp e
        exact ⟨e2.1, e2.2, fun z y => absurd ⟨z, y⟩ c⟩
      · intro e
        exact this.mpr ⟨e.1, e.2.1⟩
/-- the quotas by which it goes as seen are those between -/
theorem fit_iff {σ : AS} (hσ : okS σ) {f h : Nat → Int32} {s : Nat} (hh : ∀ k, k < s → inN (h k) 2 = true) (hv : vldB σ f s = true) {j : Nat} (hj : j < 81) : fitP σ f h s j = decide ((loN σ f h s).toInt ≤ 40 - (j : Int) ∧ 40 - (j : Int) ≤ (hiN σ f h s).toInt) := by
  have hv' := of_decide_eq_true hv
  have l := (lo_s hσ f h s).2 (40 - (j : Int))
  have u := (hi_s hσ f h s).2 (40 - (j : Int))
  unfold fitP seenB
  apply decide_eq_decide.mpr
  rw [l, u]
  have row : ∀ k, k < s → (sbP σ f h (qI j) k = false ↔ (h k = 0 → (wLot σ f k).toInt + 1 ≤ 40 - (j : Int)) ∧ (h k = 1 → 40 - (j : Int) ≤ (wLot σ f k).toInt)) := fun k hk => by
    unfold sbP
    rw [hv' k hk, show (!true) = false from rfl, Bool.false_or, decide_eq_false_iff_not, Decidable.not_not]
    obtain ⟨b, hb⟩ := in2_of (hh k hk)
    rw [hb]
    have e : (qI j ≤ wLot σ f k) ↔ 40 - (j : Int) ≤ (wLot σ f k).toInt := by rw [fa_le, qI_t (by omega)]
    cases b
    · constructor
      · intro z
        refine ⟨fun _ => ?_, fun y => absurd y (by decide)⟩
        have z2 : decide (qI j ≤ wLot σ f k) = false := by
          cases q : decide (qI j ≤ wLot σ f k)
          · rfl
          · rw [q] at z; exact absurd z (by decide)
        have z3 := of_decide_eq_false z2
        rw [e] at z3
        omega
      · intro z
        have z3 := z.1 rfl
        rw [decide_eq_false (fun y => by rw [e] at y; omega)]
    · constructor
      · intro z
        refine ⟨fun y => absurd y (by decide), fun _ => ?_⟩
        have z2 : decide (qI j ≤ wLot σ f k) = true := by
          cases q : decide (qI j ≤ wLot σ f k)
          · rw [q] at z; exact absurd z (by decide)
          · rfl
        exact e.mp (of_decide_eq_true z2)
      · intro z
        rw [decide_eq_true (e.mpr (z.2 rfl))]
  constructor
  · intro z
    exact ⟨⟨by omega, fun k hk => ((row k hk).mp (z k hk)).1⟩, ⟨by omega, fun k hk _ => ((row k hk).mp (z k hk)).2⟩⟩
  · intro z k hk
    exact (row k hk).mpr ⟨z.1.2 k hk, z.2.2 k hk (hv' k hk)⟩
theorem cnt_btw (A B : Nat) : ∀ N, N ≤ 81 → B ≤ 80 → cnt (fun j => decide (A ≤ j ∧ j ≤ B)) N = (if N ≤ B + 1 then N else B + 1) - (if N ≤ A then N else A) ∧ ltF (fun j => decide (A ≤ j ∧ j ≤ B)) N = if A < (if N ≤ B + 1 then N else B + 1) then 82 - (if N ≤ B + 1 then N else B + 1) else 0
  | 0, _, _ => by constructor <;> simp [cnt, fa_cnt, ltF]
  | N + 1, hN, hB => by
    obtain ⟨a1, a2⟩ := cnt_btw A B N (by omega) hB
    by_cases c : A ≤ N ∧ N ≤ B
    · have e : cnt (fun j => decide (A ≤ j ∧ j ≤ B)) (N + 1) = cnt (fun j => decide (A ≤ j ∧ j ≤ B)) N + 1 := fa_cnt_yes (decide_eq_true c)
      refine ⟨?_, ?_⟩
      · rw [e, a1]
        split <;> split <;> split <;> split <;> omega
      · unfold ltF
        rw [decide_eq_true c, if_pos rfl]
        split <;> split <;> omega
    · have e : cnt (fun j => decide (A ≤ j ∧ j ≤ B)) (N + 1) = cnt (fun j => decide (A ≤ j ∧ j ≤ B)) N := fa_cnt_no (decide_eq_false c)
      refine ⟨?_, ?_⟩
      · rw [e, a1]
        split <;> split <;> split <;> split <;> omega
      · unfold ltF
        rw [decide_eq_false c, if_neg (by decide), a2]
        split <;> split <;> split <;> (try split) <;> omega
theorem ltF_congr {P Q : Nat → Bool} : ∀ {N : Nat}, (∀ k, k < N → P k = Q k) → ltF P N = ltF Q N
  | 0, _ => rfl
  | N + 1, h => by unfold ltF; rw [h N (by omega), ltF_congr (fun k hk => h k (by omega))]
theorem fit_bad {σ : AS} {f h : Nat → Int32} {s : Nat} (hv : vldB σ f s = false) (j : Nat) : fitP σ f h s j = false := by
  have hv' := of_decide_eq_false hv
  refine decide_eq_false (fun q => hv' (fun k hk => ?_))
  have := q k hk
  unfold sbP at this
  cases e : inN (f k) (2 ^ σ.1)
  · rw [e] at this; cases this
  · rfl
theorem cnt_no {P : Nat → Bool} {N : Nat} (h : ∀ j, j < N → P j = false) : cnt P N = 0 ∧ ltF P N = 0 := by
  induction N with
  | zero => exact ⟨rfl, rfl⟩
  | succ N ih =>
    obtain ⟨a, b⟩ := ih (fun j hj => h j (by omega))
    refine ⟨?_, ?_⟩
    · show fa_cnt P (N + 1) = 0
      rw [fa_cnt_no (h N (by omega))]; exact a
    · unfold ltF
      rw [h N (by omega), if_neg (by decide), b]
theorem fit_m {σ : AS} (hσ : okS σ) {f h : Nat → Int32} {s : Nat} (hh : ∀ k, k < s → inN (h k) 2 = true) : (if (0 : Int32) < hiN σ f h s - loA σ f h s + 1 then hiN σ f h s - loA σ f h s + 1 else 0) = nI (cnt (fitP σ f h s) 81) ∧ (¬ cnt (fitP σ f h s) 81 = 0 → loA σ f h s + 40 + 1 = nI (ltF (fitP σ f h s) 81)) ∧ (cnt (fitP σ f h s) 81 = 0 → ltF (fitP σ f h s) 81 = 0) ∧ cnt (fitP σ f h s) 81 ≤ 81 := by
  have lb := (lo_s hσ f h s).1
  have hb := (hi_s hσ f h s).1
  have e1 : (1 : Int32).toInt = 1 := rfl
  have e0 : (0 : Int32).toInt = 0 := rfl
  have e40 : (40 : Int32).toInt = 40 := rfl
  have e41 : (41 : Int32).toInt = 41 := rfl
  cases hv : vldB σ f s
  · obtain ⟨a, b⟩ := cnt_no (P := fitP σ f h s) (N := 81) (fun j _ => fit_bad hv j)
    have el : loA σ f h s = 41 := if_neg (by rw [hv]; decide)
    rw [a, b, el]
    have t1 : (hiN σ f h s - 41).toInt = (hiN σ f h s).toInt - 41 := by rw [fb_subI (by rw [e41]; omega) (by rw [e41]; omega), e41]
    have t2 : (hiN σ f h s - 41 + 1).toInt = (hiN σ f h s).toInt - 40 := by rw [fb_addI (by rw [t1, e1]; omega) (by rw [t1, e1]; omega), t1, e1]; omega
    refine ⟨?_, fun q => absurd rfl q, fun _ => rfl, by omega⟩
    rw [if_neg (by rw [fa_lt, t2, e0]; omega)]; rfl
  · have el : loA σ f h s = loN σ f h s := if_pos hv
    rw [el]
    have t1 : (hiN σ f h s - loN σ f h s).toInt = (hiN σ f h s).toInt - (loN σ f h s).toInt := fb_subI (by omega) (by omega)
    have t2 : (hiN σ f h s - loN σ f h s + 1).toInt = (hiN σ f h s).toInt - (loN σ f h s).toInt + 1 := by rw [fb_addI (by rw [t1, e1]; omega) (by rw [t1, e1]; omega), t1, e1]
    have t3 : (loN σ f h s + 40).toInt = (loN σ f h s).toInt + 40 := by rw [fb_addI (by rw [e40]; omega) (by rw [e40]; omega), e40]
    have t4 : (loN σ f h s + 40 + 1).toInt = (loN σ f h s).toInt + 41 := by rw [fb_addI (by rw [t3, e1]; omega) (by rw [t3, e1]; omega), t3, e1]; omega
    have ec : ∀ j, j < 81 → fitP σ f h s j = (fun j => decide ((40 - (hiN σ f h s).toInt).toNat ≤ j ∧ j ≤ (40 - (loN σ f h s).toInt).toNat)) j := fun j hj => by
      rw [fit_iff hσ hh hv hj]
      apply decide_eq_decide.mpr
      omega
    have q1 : cnt (fitP σ f h s) 81 = _ := cnt_congr ec
    have q2 : ltF (fitP σ f h s) 81 = _ := ltF_congr ec
    obtain ⟨r1, r2⟩ := cnt_btw (40 - (hiN σ f h s).toInt).toNat (40 - (loN σ f h s).toInt).toNat 81 (by omega) (by omega)
    rw [r1, if_neg (show ¬ 81 ≤ (40 - (hiN σ f h s).toInt).toNat by omega)] at q1
    rw [r2] at q2
    have hB : (if 81 ≤ (40 - (loN σ f h s).toInt).toNat + 1 then 81 else (40 - (loN σ f h s).toInt).toNat + 1) = (40 - (loN σ f h s).toInt).toNat + 1 := by split <;> omega
    rw [hB] at q1 q2
    rw [q1, q2]
    refine ⟨?_, fun q => ?_, fun q => ?_, by omega⟩
    · by_cases c : (0 : Int32) < hiN σ f h s - loN σ f h s + 1
      · rw [if_pos c]
        have c2 := (fa_lt _ _).mp c
        rw [t2, e0] at c2
        rw [fa_eq, t2, nI_toInt (by omega)]
        omega
      · rw [if_neg c]
        have c2 : ¬ (0 : Int32).toInt < (hiN σ f h s - loN σ f h s + 1).toInt := fun z => c ((fa_lt _ _).mpr z)
        rw [t2, e0] at c2
        rw [fa_eq, e0, nI_toInt (by omega)]
        omega
    · rw [if_pos (by omega), fa_eq, t4, nI_toInt (by omega)]
      omega
    · rw [if_neg (by omega)]
theorem vld_no {σ : AS} {f h : Nat → Int32} {s k : Nat} (hk : k < s) (h1 : inN (f k) (2 ^ σ.1) = false) : (41 : Int32) = loA σ f h s := (if_neg (fun q => by have := of_decide_eq_true q k hk; rw [h1] at this; cases this)).symm
theorem vld_yes {σ : AS} {f h : Nat → Int32} {s : Nat} (hP : ∀ k, k < s → inN (f k) (2 ^ σ.1) = true) : loN σ f h s = loA σ f h s := (if_pos (decide_eq_true hP)).symm
theorem lo_1 {σ : AS} {f h : Nat → Int32} {k : Nat} (h0 : h k = 0) : loN σ f h (k + 1) = (if loN σ f h k < wLot σ f k + 1 then wLot σ f k + 1 else loN σ f h k) := if_pos h0
theorem lo_2 {σ : AS} {f h : Nat → Int32} {k : Nat} (h0 : ¬ h k = 0) : loN σ f h (k + 1) = loN σ f h k := if_neg h0
theorem hi_1 {σ : AS} {f h : Nat → Int32} {k : Nat} (h0 : inN (f k) (2 ^ σ.1) = true) (h1 : h k = 1) : hiN σ f h (k + 1) = (if wLot σ f k < hiN σ f h k then wLot σ f k else hiN σ f h k) := if_pos ⟨h0, h1⟩
theorem hi_2 {σ : AS} {f h : Nat → Int32} {k : Nat} (h0 : ¬ (inN (f k) (2 ^ σ.1) = true ∧ h k = 1)) : hiN σ f h (k + 1) = hiN σ f h k := if_neg h0
theorem wl_q {σ : AS} {f : Nat → Int32} {k q : Nat} (e : f k = nI q) (hq : q < 2 ^ 31) : wth σ.2.2.2.1 q σ.1 = wLot σ f k := by unfold wLot; rw [e, iN_nI hq]
theorem sb_1 {σ : AS} {f h : Nat → Int32} {s k : Nat} {q : Int32} (hk : k < s) (h1 : sbP σ f h q k = true) : (0 : Int32) = bI (seenB σ f h s q) := by
  unfold seenB
  rw [decide_eq_false (fun z => by rw [z k hk] at h1; cases h1)]
  rfl
theorem sb_2 {σ : AS} {f h : Nat → Int32} {s : Nat} {q : Int32} (hP : ∀ k, k < s → sbP σ f h q k = false) : (1 : Int32) = bI (seenB σ f h s q) := by
  unfold seenB
  rw [decide_eq_true hP]
  rfl
theorem sb_3 {σ : AS} {f h : Nat → Int32} {k : Nat} {q : Int32} (h1 : inN (f k) (2 ^ σ.1) = false) : sbP σ f h q k = true := by unfold sbP; rw [h1]; rfl
theorem sb_4 {σ : AS} {f h : Nat → Int32} {k : Nat} {q : Int32} (h1 : inN (f k) (2 ^ σ.1) = true) (h2 : bI (decide (q ≤ wLot σ f k)) = h k) : sbP σ f h q k = false := by unfold sbP; rw [h1, decide_eq_false (fun z => z h2)]; rfl
theorem sb_5 {σ : AS} {f h : Nat → Int32} {k : Nat} {q : Int32} (h2 : ¬ bI (decide (q ≤ wLot σ f k)) = h k) : sbP σ f h q k = true := by unfold sbP; rw [decide_eq_true h2, Bool.or_true]
set_option maxRecDepth 100000 in
set_option maxHeartbeats 4000000 in
theorem c_X9_leastFit {g : GC} {d : Nat} {M : MI} {L : ML} {σ : AS} (hC : hasC M σ) (hσ : okS σ) {s : Nat} {f h : Nat → Int32} (hs : M 3 2 = nI s) (hsn : s ≤ 6) (hf : ∀ k, k < s → M 4 k = f k ∧ M 5 k = h k) : CfI g (d + 2) yX9_leastFit cX9_leastFit 4 .int [rf g 0] M L (loA σ f h s) (M) (L) := by
  have hn := hC.1
  have h4 := hσ.2.1
  have h16 := pow4 h4
  have hp1 := Nat.two_pow_pos σ.1
  have hc := okp hσ
  refine cfI_of (own := RX9) (l := [some (rf g 0), none, none, none]) 3 rfl rfl rfl (Nat.le_of_ble_eq_true rfl) ?_
  refine tm_bipush (-40) (by decide) 2 rfl dX9_leastFit_0 ?_
  refine tm_istore_1 (by decide) rfl 3 rfl dX9_leastFit_2 ?_
  refine tm_iconst (0) rfl 4 rfl dX9_leastFit_3 ?_
  refine tm_istore_2 (by decide) rfl 5 rfl dX9_leastFit_4 ?_
  refine tm_loopE (N := s) (fun k => ∀ j, j < k → inN (f j) (2 ^ σ.1) = true) (fun k => Tm g (d + 2) RX9 cX9_leastFit 4 (some .int) (QI g (loA σ f h s) (M) (L)) 5 [some (rf g 0), some (.int (loN σ f h k)), some (.int (nI k)), none] [] (M) (L)) (fun u hu => absurd hu (by omega)) (fun k hk hP ih => ?_) (fun hPN => ?_)
  · refine tm_iload_2 6 rfl dX9_leastFit_5 ?_
    refine tm_aload_0 7 rfl dX9_leastFit_6 ?_
    refine tm_getr fl_X9_12 rfl rfl 10 rfl dX9_leastFit_7 ?_
    refine tm_getr fl_X9_243 rfl rfl 13 rfl dX9_leastFit_10 ?_
    refine tm_geti fl_X9_262 rfl rfl 16 rfl dX9_leastFit_13 ?_
    rw [hs]
    refine tm_icmp_ge_f 19 (nI_ge hk (by omega)) rfl rfl dX9_leastFit_16 ?_
    refine tm_aload_0 20 rfl dX9_leastFit_19 ?_
    refine tm_getr fl_X9_12 rfl rfl 23 rfl dX9_leastFit_20 ?_
    refine tm_getr fl_X9_243 rfl rfl 26 rfl dX9_leastFit_23 ?_
    refine tm_getr fl_X9_265 rfl rfl 29 rfl dX9_leastFit_26 ?_
    refine tm_iload_2 30 rfl dX9_leastFit_29 ?_
    refine tm_ald rfl (ix := k) (ix_nI (by omega) (by decide)) 31 rfl dX9_leastFit_30 ?_
    rw [(hf k hk).1]
    refine tm_istore_3 (by decide) rfl 32 rfl dX9_leastFit_31 ?_
    refine tm_aload_0 33 rfl dX9_leastFit_32 ?_
    refine tm_getr fl_X9_12 rfl rfl 36 rfl dX9_leastFit_33 ?_
    refine tm_iload_3 37 rfl dX9_leastFit_36 ?_
    refine tm_callV_I (ci := 3) (c_X4_hasLot hC hσ) mv_X4_hasLot ml_X9_75 rfl rfl rfl rfl rfl (Nat.le_of_ble_eq_true rfl) 40 rfl dX9_leastFit_37 ?_
    refine tm_if_neB 46 43 rfl rfl dX9_leastFit_40 (fun h40 => ?_) (fun h40 => ?_)
    · skip
      refine tm_aload_0 47 rfl dX9_leastFit_46 ?_
      refine tm_getr fl_X9_12 rfl rfl 50 rfl dX9_leastFit_47 ?_
      refine tm_getr fl_X9_243 rfl rfl 53 rfl dX9_leastFit_50 ?_
      refine tm_getr fl_X9_266 rfl rfl 56 rfl dX9_leastFit_53 ?_
      refine tm_iload_2 57 rfl dX9_leastFit_56 ?_
      refine tm_ald rfl (ix := k) (ix_nI (by omega) (by decide)) 58 rfl dX9_leastFit_57 ?_
      rw [(hf k hk).2]
      refine tm_if_ne 76 61 rfl rfl dX9_leastFit_58 (fun h58 => ?_) (fun h58 => ?_)
      · refine tm_iinc_2 (nI (k + 1)) (iinc1 k) (by decide) rfl 79 rfl dX9_leastFit_76 ?_
        refine tm_goto 5 rfl dX9_leastFit_79 ?_
        exact tm_wkr (ih (lt_s1 hP h40)) (And.intro rfl (And.intro (by first | rw [lo_1 h58] | rw [lo_2 h58]) (And.intro rfl trivial)))
      · refine tm_iload_1 62 rfl dX9_leastFit_61 ?_
        refine tm_aload_0 63 rfl dX9_leastFit_62 ?_
        refine tm_getr fl_X9_12 rfl rfl 66 rfl dX9_leastFit_63 ?_
        obtain ⟨q, hq, eq⟩ := inN_of h40
        rw [eq]
        refine tm_iload_3 67 rfl dX9_leastFit_66 ?_
        refine tm_callV_I (ci := 3) (c_X4_worthOf hC hσ hq) mv_X4_worthOf ml_X9_191 rfl rfl rfl rfl rfl (Nat.le_of_ble_eq_true rfl) 70 rfl dX9_leastFit_67 ?_
        rw [wl_q eq (by omega)]
        refine tm_iconst (1) rfl 71 rfl dX9_leastFit_70 ?_
        refine tm_iadd 72 rfl dX9_leastFit_71 ?_
        refine tm_callS_I (c_J9_max_7cf53) ms_J9_max_7cf53 ml_X9_257 rfl rfl (Nat.le_of_ble_eq_true rfl) 75 rfl dX9_leastFit_72 ?_
        refine tm_istore_1 (by decide) rfl 76 rfl dX9_leastFit_75 ?_
        refine tm_iinc_2 (nI (k + 1)) (iinc1 k) (by decide) rfl 79 rfl dX9_leastFit_76 ?_
        refine tm_goto 5 rfl dX9_leastFit_79 ?_
        exact tm_wkr (ih (lt_s1 hP h40)) (And.intro rfl (And.intro (by first | rw [lo_1 h58] | rw [lo_2 h58]) (And.intro rfl trivial)))
    · refine tm_bipush (41) (by decide) 45 rfl dX9_leastFit_43 ?_
      exact tm_iret (vld_no hk h40) rfl rfl dX9_leastFit_45
  · refine tm_iload_2 6 rfl dX9_leastFit_5 ?_
    refine tm_aload_0 7 rfl dX9_leastFit_6 ?_
    refine tm_getr fl_X9_12 rfl rfl 10 rfl dX9_leastFit_7 ?_
    refine tm_getr fl_X9_243 rfl rfl 13 rfl dX9_leastFit_10 ?_
    refine tm_geti fl_X9_262 rfl rfl 16 rfl dX9_leastFit_13 ?_
    rw [hs]
    refine tm_icmp_ge_t 82 (nI_le (Nat.le_refl _) (by omega)) rfl dX9_leastFit_16 ?_
    refine tm_iload_1 83 rfl dX9_leastFit_82 ?_
    exact tm_iret (vld_yes hPN) rfl rfl dX9_leastFit_83

set_option maxRecDepth 100000 in
set_option maxHeartbeats 4000000 in
theorem c_X9_greatestFit {g : GC} {d : Nat} {M : MI} {L : ML} {σ : AS} (hC : hasC M σ) (hσ : okS σ) {s : Nat} {f h : Nat → Int32} (hs : M 3 2 = nI s) (hsn : s ≤ 6) (hf : ∀ k, k < s → M 4 k = f k ∧ M 5 k = h k) : CfI g (d + 2) yX9_greatestFit cX9_greatestFit 4 .int [rf g 0] M L (hiN σ f h s) (M) (L) := by
  have hn := hC.1
  have h4 := hσ.2.1
  have h16 := pow4 h4
  have hp1 := Nat.two_pow_pos σ.1
  have hc := okp hσ
  refine cfI_of (own := RX9) (l := [some (rf g 0), none, none, none]) 3 rfl rfl rfl (Nat.le_of_ble_eq_true rfl) ?_
  refine tm_bipush (40) (by decide) 2 rfl dX9_greatestFit_0 ?_
  refine tm_istore_1 (by decide) rfl 3 rfl dX9_greatestFit_2 ?_
  refine tm_iconst (0) rfl 4 rfl dX9_greatestFit_3 ?_
  refine tm_istore_2 (by decide) rfl 5 rfl dX9_greatestFit_4 ?_
  refine tm_loop (N := s) (fun k => Tm g (d + 2) RX9 cX9_greatestFit 4 (some .int) (QI g (hiN σ f h s) (M) (L)) 5 [some (rf g 0), some (.int (hiN σ f h k)), some (.int (nI k)), none] [] (M) (L)) (fun k hk ih => ?_) ?_
  · refine tm_iload_2 6 rfl dX9_greatestFit_5 ?_
    refine tm_aload_0 7 rfl dX9_greatestFit_6 ?_
    refine tm_getr fl_X9_12 rfl rfl 10 rfl dX9_greatestFit_7 ?_
    refine tm_getr fl_X9_243 rfl rfl 13 rfl dX9_greatestFit_10 ?_
    refine tm_geti fl_X9_262 rfl rfl 16 rfl dX9_greatestFit_13 ?_
    rw [hs]
    refine tm_icmp_ge_f 19 (nI_ge hk (by omega)) rfl rfl dX9_greatestFit_16 ?_
    refine tm_aload_0 20 rfl dX9_greatestFit_19 ?_
    refine tm_getr fl_X9_12 rfl rfl 23 rfl dX9_greatestFit_20 ?_
    refine tm_getr fl_X9_243 rfl rfl 26 rfl dX9_greatestFit_23 ?_
    refine tm_getr fl_X9_265 rfl rfl 29 rfl dX9_greatestFit_26 ?_
    refine tm_iload_2 30 rfl dX9_greatestFit_29 ?_
    refine tm_ald rfl (ix := k) (ix_nI (by omega) (by decide)) 31 rfl dX9_greatestFit_30 ?_
    rw [(hf k hk).1]
    refine tm_istore_3 (by decide) rfl 32 rfl dX9_greatestFit_31 ?_
    refine tm_aload_0 33 rfl dX9_greatestFit_32 ?_
    refine tm_getr fl_X9_12 rfl rfl 36 rfl dX9_greatestFit_33 ?_
    refine tm_iload_3 37 rfl dX9_greatestFit_36 ?_
    refine tm_callV_I (ci := 3) (c_X4_hasLot hC hσ) mv_X4_hasLot ml_X9_75 rfl rfl rfl rfl rfl (Nat.le_of_ble_eq_true rfl) 40 rfl dX9_greatestFit_37 ?_
    refine tm_if_eqB 72 43 rfl rfl dX9_greatestFit_40 (fun h40 => ?_) (fun h40 => ?_)
    · refine tm_iinc_2 (nI (k + 1)) (iinc1 k) (by decide) rfl 75 rfl dX9_greatestFit_72 ?_
      refine tm_goto 5 rfl dX9_greatestFit_75 ?_
      exact tm_wkr ih (And.intro rfl (And.intro (by first | rw [hi_1 h40 h56] | rw [hi_2 (fun z => h56 z.2)] | rw [hi_2 (fun z => by rw [h40] at z; cases z.1)]) (And.intro rfl trivial)))
    · refine tm_aload_0 44 rfl dX9_greatestFit_43 ?_
      refine tm_getr fl_X9_12 rfl rfl 47 rfl dX9_greatestFit_44 ?_
      refine tm_getr fl_X9_243 rfl rfl 50 rfl dX9_greatestFit_47 ?_
      refine tm_getr fl_X9_266 rfl rfl 53 rfl dX9_greatestFit_50 ?_
      refine tm_iload_2 54 rfl dX9_greatestFit_53 ?_
      refine tm_ald rfl (ix := k) (ix_nI (by omega) (by decide)) 55 rfl dX9_greatestFit_54 ?_
      rw [(hf k hk).2]
      refine tm_iconst (1) rfl 56 rfl dX9_greatestFit_55 ?_
      refine tm_icmp_ne 72 59 rfl rfl dX9_greatestFit_56 (fun h56 => ?_) (fun h56 => ?_)
      · refine tm_iinc_2 (nI (k + 1)) (iinc1 k) (by decide) rfl 75 rfl dX9_greatestFit_72 ?_
        refine tm_goto 5 rfl dX9_greatestFit_75 ?_
        exact tm_wkr ih (And.intro rfl (And.intro (by first | rw [hi_1 h40 h56] | rw [hi_2 (fun z => h56 z.2)] | rw [hi_2 (fun z => by rw [h40] at z; cases z.1)]) (And.intro rfl trivial)))
      · refine tm_iload_1 60 rfl dX9_greatestFit_59 ?_
        refine tm_aload_0 61 rfl dX9_greatestFit_60 ?_
        refine tm_getr fl_X9_12 rfl rfl 64 rfl dX9_greatestFit_61 ?_
        obtain ⟨q, hq, eq⟩ := inN_of h40
        rw [eq]
        refine tm_iload_3 65 rfl dX9_greatestFit_64 ?_
        refine tm_callV_I (ci := 3) (c_X4_worthOf hC hσ hq) mv_X4_worthOf ml_X9_191 rfl rfl rfl rfl rfl (Nat.le_of_ble_eq_true rfl) 68 rfl dX9_greatestFit_65 ?_
        rw [wl_q eq (by omega)]
        refine tm_callS_I (c_J9_min_7cf53) ms_J9_min_7cf53 ml_X9_267 rfl rfl (Nat.le_of_ble_eq_true rfl) 71 rfl dX9_greatestFit_68 ?_
        refine tm_istore_1 (by decide) rfl 72 rfl dX9_greatestFit_71 ?_
        refine tm_iinc_2 (nI (k + 1)) (iinc1 k) (by decide) rfl 75 rfl dX9_greatestFit_72 ?_
        refine tm_goto 5 rfl dX9_greatestFit_75 ?_
        exact tm_wkr ih (And.intro rfl (And.intro (by first | rw [hi_1 h40 h56] | rw [hi_2 (fun z => h56 z.2)] | rw [hi_2 (fun z => by rw [h40] at z; cases z.1)]) (And.intro rfl trivial)))
  · refine tm_iload_2 6 rfl dX9_greatestFit_5 ?_
    refine tm_aload_0 7 rfl dX9_greatestFit_6 ?_
    refine tm_getr fl_X9_12 rfl rfl 10 rfl dX9_greatestFit_7 ?_
    refine tm_getr fl_X9_243 rfl rfl 13 rfl dX9_greatestFit_10 ?_
    refine tm_geti fl_X9_262 rfl rfl 16 rfl dX9_greatestFit_13 ?_
    rw [hs]
    refine tm_icmp_ge_t 78 (nI_le (Nat.le_refl _) (by omega)) rfl dX9_greatestFit_16 ?_
    refine tm_iload_1 79 rfl dX9_greatestFit_78 ?_
    exact tm_iret rfl rfl rfl dX9_greatestFit_79

theorem ft_1 {σ : AS} {f h : Nat → Int32} {s : Nat} {x : Int32} (h1 : inN x 2 = false) : ansFit σ f h s x = -1 := if_pos h1
theorem ft_2 {σ : AS} {f h : Nat → Int32} {s : Nat} {x : Int32} (h1 : inN x 2 = true) (h2 : x = 0) : ansFit σ f h s x = nI (cnt (fitP σ f h s) 81) := by unfold ansFit; rw [if_neg (by rw [h1]; decide), if_pos h2]
theorem ft_3 {σ : AS} {f h : Nat → Int32} {s : Nat} {x : Int32} (h1 : inN x 2 = true) (h2 : ¬ x = 0) : ansFit σ f h s x = nI (ltF (fitP σ f h s) 81) := by unfold ansFit; rw [if_neg (by rw [h1]; decide), if_neg h2]
set_option maxRecDepth 100000 in
set_option maxHeartbeats 4000000 in
theorem c_X9_fits {g : GC} {d : Nat} {M : MI} {L : ML} {σ : AS} (hC : hasC M σ) (hσ : okS σ) {s : Nat} {f h : Nat → Int32} (hs : M 3 2 = nI s) (hsn : s ≤ 6) (hf : ∀ k, k < s → M 4 k = f k ∧ M 5 k = h k) (hh : ∀ k, k < s → inN (h k) 2 = true) {x : Int32} : CfI g (d + 3) yX9_fits cX9_fits 4 .int [rf g 0, .int x] M L (ansFit σ f h s x) (M) (L) := by
  have hn := hC.1
  have h4 := hσ.2.1
  have h16 := pow4 h4
  have hp1 := Nat.two_pow_pos σ.1
  have hc := okp hσ
  obtain ⟨fm1, fm2, fm3, fm4⟩ := fit_m hσ hh (f := f)
  refine cfI_of (own := RX9) (l := [some (rf g 0), some (.int x), none, none]) 2 rfl rfl rfl (Nat.le_of_ble_eq_true rfl) ?_
  refine tm_iload_1 1 rfl dX9_fits_0 ?_
  refine tm_if_lt 9 4 rfl rfl dX9_fits_1 (fun h1 => ?_) (fun h1 => ?_)
  · refine tm_iconst (-1) rfl 10 rfl dX9_fits_9 ?_
    exact tm_iret (by first | exact (ft_1 (cod_c3 h1)).symm | exact (ft_1 (cod_c2 (N := 2) h6 (by decide) (by decide))).symm) rfl rfl dX9_fits_10
  · refine tm_iload_1 5 rfl dX9_fits_4 ?_
    refine tm_iconst (1) rfl 6 rfl dX9_fits_5 ?_
    refine tm_icmp_le 11 9 rfl rfl dX9_fits_6 (fun h6 => ?_) (fun h6 => ?_)
    · have hx2 : inN x 2 = true := cod_c1 (N := 2) h1 h6 (by decide) (by decide)
      refine tm_aload_0 12 rfl dX9_fits_11 ?_
      refine tm_callV_I (ci := 8) (c_X9_leastFit hC hσ hs hsn hf) mv_X9_leastFit ml_X9_251 rfl rfl rfl rfl rfl (Nat.le_of_ble_eq_true rfl) 15 rfl dX9_fits_12 ?_
      refine tm_istore_2 (by decide) rfl 16 rfl dX9_fits_15 ?_
      refine tm_iconst (0) rfl 17 rfl dX9_fits_16 ?_
      refine tm_aload_0 18 rfl dX9_fits_17 ?_
      refine tm_callV_I (ci := 8) (c_X9_greatestFit hC hσ hs hsn hf) mv_X9_greatestFit ml_X9_254 rfl rfl rfl rfl rfl (Nat.le_of_ble_eq_true rfl) 21 rfl dX9_fits_18 ?_
      refine tm_iload_2 22 rfl dX9_fits_21 ?_
      refine tm_isub 23 rfl dX9_fits_22 ?_
      refine tm_iconst (1) rfl 24 rfl dX9_fits_23 ?_
      refine tm_iadd 25 rfl dX9_fits_24 ?_
      refine tm_callS_I (c_J9_max_7cf53) ms_J9_max_7cf53 ml_X9_257 rfl rfl (Nat.le_of_ble_eq_true rfl) 28 rfl dX9_fits_25 ?_
      rw [fm1]
      refine tm_istore_3 (by decide) rfl 29 rfl dX9_fits_28 ?_
      refine tm_iload_1 30 rfl dX9_fits_29 ?_
      refine tm_if_ne 35 33 rfl rfl dX9_fits_30 (fun h30 => ?_) (fun h30 => ?_)
      · refine tm_iload_3 36 rfl dX9_fits_35 ?_
        refine tm_if_ne 43 39 rfl rfl dX9_fits_36 (fun h36 => ?_) (fun h36 => ?_)
        · refine tm_iload_2 44 rfl dX9_fits_43 ?_
          refine tm_bipush (40) (by decide) 46 rfl dX9_fits_44 ?_
          refine tm_iadd 47 rfl dX9_fits_46 ?_
          refine tm_iconst (1) rfl 48 rfl dX9_fits_47 ?_
          refine tm_iadd 49 rfl dX9_fits_48 ?_
          exact tm_iret (by first | (rw [ft_3 hx2 h30, fm3 ((nI_eq (b := 0) (by omega) (by decide)).mp h36)]; rfl) | (rw [ft_3 hx2 h30, fm2 (fun z => h36 (by rw [z]; rfl))])) rfl rfl dX9_fits_49
        · refine tm_iconst (0) rfl 40 rfl dX9_fits_39 ?_
          refine tm_goto 49 rfl dX9_fits_40 ?_
          exact tm_iret (by first | (rw [ft_3 hx2 h30, fm3 ((nI_eq (b := 0) (by omega) (by decide)).mp h36)]; rfl) | (rw [ft_3 hx2 h30, fm2 (fun z => h36 (by rw [z]; rfl))])) rfl rfl dX9_fits_49
      · refine tm_iload_3 34 rfl dX9_fits_33 ?_
        exact tm_iret (ft_2 hx2 h30).symm rfl rfl dX9_fits_34
    · refine tm_iconst (-1) rfl 10 rfl dX9_fits_9 ?_
      exact tm_iret (by first | exact (ft_1 (cod_c3 h1)).symm | exact (ft_1 (cod_c2 (N := 2) h6 (by decide) (by decide))).symm) rfl rfl dX9_fits_10

set_option maxRecDepth 100000 in
set_option maxHeartbeats 4000000 in
theorem c_X10_isSeenBy {g : GC} {d : Nat} {M : MI} {L : ML} {σ : AS} (hM : hasM M σ) (hσ : okS σ) {s : Nat} {f h : Nat → Int32} (hs : M 55 8 = nI s) (hsn : s ≤ 6) (hf : ∀ k, k < s → M 55 (9 + k) = f k ∧ M 55 (15 + k) = h k) {x : Int32} : CfI g (d + 2) yX10_isSeenBy cX10_isSeenBy 4 .boolean [rf g 54, .int x] M L (bI (seenB σ f h s x)) (M) (L) := by
  have hn := hM.1
  have h4 := hσ.2.1
  have h16 := pow4 h4
  have hp1 := Nat.two_pow_pos σ.1
  have hc := okp hσ
  have hwc : ∀ k, wth (fun v => M 55 (4 + v)) k σ.1 = wth σ.2.2.2.1 k σ.1 := fun k => wth_congr (fun v hv => hM.2.2.2.2 v (by omega))
  refine cfI_of (own := RX10) (l := [some (rf g 54), some (.int x), none, none]) 2 rfl rfl rfl (Nat.le_of_ble_eq_true rfl) ?_
  refine tm_iconst (0) rfl 1 rfl dX10_isSeenBy_0 ?_
  refine tm_istore_2 (by decide) rfl 2 rfl dX10_isSeenBy_1 ?_
  refine tm_loopE (N := s) (fun k => ∀ j, j < k → sbP σ f h x j = false) (fun k => Tm g (d + 2) RX10 cX10_isSeenBy 4 (some .boolean) (QI g (bI (seenB σ f h s x)) (M) (L)) 2 [some (rf g 54), some (.int x), some (.int (nI k)), none] [] (M) (L)) (fun u hu => absurd hu (by omega)) (fun k hk hP ih => ?_) (fun hPN => ?_)
  · refine tm_iload_2 3 rfl dX10_isSeenBy_2 ?_
    refine tm_aload_0 4 rfl dX10_isSeenBy_3 ?_
    refine tm_getr fl_X10_11 rfl rfl 7 rfl dX10_isSeenBy_4 ?_
    refine tm_bipush (8) (by decide) 9 rfl dX10_isSeenBy_7 ?_
    refine tm_ald rfl (ix := 8) ⟨by decide, by decide, by decide⟩ 10 rfl dX10_isSeenBy_9 ?_
    rw [hs]
    refine tm_icmp_ge_f 13 (nI_ge hk (by omega)) rfl rfl dX10_isSeenBy_10 ?_
    refine tm_aload_0 14 rfl dX10_isSeenBy_13 ?_
    refine tm_getr fl_X10_11 rfl rfl 17 rfl dX10_isSeenBy_14 ?_
    refine tm_bipush (9) (by decide) 19 rfl dX10_isSeenBy_17 ?_
    refine tm_iload_2 20 rfl dX10_isSeenBy_19 ?_
    refine tm_iadd 21 rfl dX10_isSeenBy_20 ?_
    rw [show (9 : Int32) = nI 9 from rfl, nI_add]
    refine tm_ald rfl (ix := 9 + k) (ix_nI (by omega) (by decide)) 22 rfl dX10_isSeenBy_21 ?_
    rw [(hf k hk).1]
    refine tm_istore_3 (by decide) rfl 23 rfl dX10_isSeenBy_22 ?_
    refine tm_aload_0 24 rfl dX10_isSeenBy_23 ?_
    refine tm_iload_3 25 rfl dX10_isSeenBy_24 ?_
    refine tm_callV_I (ci := 9) (c_X10_isLot hn h4) mv_X10_isLot ml_X10_68 rfl rfl rfl rfl rfl (Nat.le_of_ble_eq_true rfl) 28 rfl dX10_isSeenBy_25 ?_
    refine tm_if_eqB 60 31 rfl rfl dX10_isSeenBy_28 (fun h28 => ?_) (fun h28 => ?_)
    · refine tm_iconst (0) rfl 61 rfl dX10_isSeenBy_60 ?_
      exact tm_zret (by decide) (by first | exact sb_1 hk (sb_3 h28) | exact sb_1 hk (sb_5 h57)) rfl rfl dX10_isSeenBy_61
    · obtain ⟨q, hq, eq⟩ := inN_of h28
      rw [eq]
      refine tm_aload_0 32 rfl dX10_isSeenBy_31 ?_
      refine tm_iload_3 33 rfl dX10_isSeenBy_32 ?_
      refine tm_callV_I (ci := 9) (c_X10_worth hn h4 (k := q) (by omega)) mv_X10_worth ml_X10_86 rfl rfl rfl rfl rfl (Nat.le_of_ble_eq_true rfl) 36 rfl dX10_isSeenBy_33 ?_
      rw [hwc, wl_q eq (by omega)]
      refine tm_iload_1 37 rfl dX10_isSeenBy_36 ?_
      refine tm_join2 45 (bI (decide (x ≤ wLot σ f k))) ?_ (fun hJ45 => ?_)
      · refine tm_callS_I (c_X10_bit) ms_X10_bit ml_X10_90 rfl rfl (Nat.le_of_ble_eq_true rfl) 48 rfl dX10_isSeenBy_45 ?_
        refine tm_aload_0 49 rfl dX10_isSeenBy_48 ?_
        refine tm_getr fl_X10_11 rfl rfl 52 rfl dX10_isSeenBy_49 ?_
        refine tm_bipush (15) (by decide) 54 rfl dX10_isSeenBy_52 ?_
        refine tm_iload_2 55 rfl dX10_isSeenBy_54 ?_
        refine tm_iadd 56 rfl dX10_isSeenBy_55 ?_
        rw [show (15 : Int32) = nI 15 from rfl, nI_add]
        refine tm_ald rfl (ix := 15 + k) (ix_nI (by omega) (by decide)) 57 rfl dX10_isSeenBy_56 ?_
        rw [(hf k hk).2]
        refine tm_icmp_eq 62 60 rfl rfl dX10_isSeenBy_57 (fun h57 => ?_) (fun h57 => ?_)
        · refine tm_iinc_2 (nI (k + 1)) (iinc1 k) (by decide) rfl 65 rfl dX10_isSeenBy_62 ?_
          refine tm_goto 2 rfl dX10_isSeenBy_65 ?_
          exact tm_wkr (ih (lt_s1 hP (sb_4 h28 h57))) (And.intro rfl (And.intro rfl (And.intro rfl trivial)))
        · refine tm_iconst (0) rfl 61 rfl dX10_isSeenBy_60 ?_
          exact tm_zret (by decide) (by first | exact sb_1 hk (sb_3 h28) | exact sb_1 hk (sb_5 h57)) rfl rfl dX10_isSeenBy_61
      · refine tm_icmp_lt 44 40 rfl rfl dX10_isSeenBy_37 (fun h37 => ?_) (fun h37 => ?_)
        · refine tm_iconst (0) rfl 45 rfl dX10_isSeenBy_44 ?_
          exact tm_top (by first | (rw [decide_eq_true (fa_of_nlt h37)]; rfl) | (rw [decide_eq_false (fa_of_lt h37).2.1]; rfl)) hJ45
        · refine tm_iconst (1) rfl 41 rfl dX10_isSeenBy_40 ?_
          refine tm_goto 45 rfl dX10_isSeenBy_41 ?_
          exact tm_top (by first | (rw [decide_eq_true (fa_of_nlt h37)]; rfl) | (rw [decide_eq_false (fa_of_lt h37).2.1]; rfl)) hJ45
  · refine tm_iload_2 3 rfl dX10_isSeenBy_2 ?_
    refine tm_aload_0 4 rfl dX10_isSeenBy_3 ?_
    refine tm_getr fl_X10_11 rfl rfl 7 rfl dX10_isSeenBy_4 ?_
    refine tm_bipush (8) (by decide) 9 rfl dX10_isSeenBy_7 ?_
    refine tm_ald rfl (ix := 8) ⟨by decide, by decide, by decide⟩ 10 rfl dX10_isSeenBy_9 ?_
    rw [hs]
    refine tm_icmp_ge_t 68 (nI_le (Nat.le_refl _) (by omega)) rfl dX10_isSeenBy_10 ?_
    refine tm_iconst (1) rfl 69 rfl dX10_isSeenBy_68 ?_
    exact tm_zret (by decide) (sb_2 hPN) rfl rfl dX10_isSeenBy_69

theorem ft_4 {σ : AS} {f h : Nat → Int32} {s k : Nat} (h1 : seenB σ f h s (qI k) = false) : some (Value.int (nI (cnt (fitP σ f h s) k))) = some (.int (nI (cnt (fitP σ f h s) (k + 1)))) := by rw [show cnt (fitP σ f h s) (k + 1) = cnt (fitP σ f h s) k from fa_cnt_no h1]
theorem ft_5 {σ : AS} {f h : Nat → Int32} {s k : Nat} (hk : k < 81) (h1 : seenB σ f h s (qI k) = true) : some (Value.int (qI k + 41)) = some (.int (nI (ltF (fitP σ f h s) (k + 1)))) := by
  have e : ltF (fitP σ f h s) (k + 1) = 81 - k := if_pos h1
  rw [e]
  have e1 : (41 : Int32).toInt = 41 := rfl
  have : qI k + 41 = nI (81 - k) := by
    rw [fa_eq, fb_addI (by rw [qI_t (by omega), e1]; omega) (by rw [qI_t (by omega), e1]; omega), qI_t (by omega), nI_toInt (by omega), e1]
    omega
  rw [this]
theorem ft_6 {σ : AS} {f h : Nat → Int32} {s k : Nat} (h1 : seenB σ f h s (qI k) = false) : some (Value.int (nI (ltF (fitP σ f h s) k))) = some (.int (nI (ltF (fitP σ f h s) (k + 1)))) := by
  have e : ltF (fitP σ f h s) (k + 1) = ltF (fitP σ f h s) k := if_neg (by unfold fitP; rw [h1]; decide)
  rw [e]
set_option maxRecDepth 100000 in
set_option maxHeartbeats 4000000 in
theorem c_X10_fits {g : GC} {d : Nat} {M : MI} {L : ML} {σ : AS} (hM : hasM M σ) (hσ : okS σ) {s : Nat} {f h : Nat → Int32} (hs : M 55 8 = nI s) (hsn : s ≤ 6) (hf : ∀ k, k < s → M 55 (9 + k) = f k ∧ M 55 (15 + k) = h k) {x : Int32} : CfI g (d + 3) yX10_fits cX10_fits 5 .int [rf g 54, .int x] M L (ansFit σ f h s x) (M) (L) := by
  have hn := hM.1
  have h4 := hσ.2.1
  have h16 := pow4 h4
  have hp1 := Nat.two_pow_pos σ.1
  have hc := okp hσ
  refine cfI_of (own := RX10) (l := [some (rf g 54), some (.int x), none, none, none]) 3 rfl rfl rfl (Nat.le_of_ble_eq_true rfl) ?_
  refine tm_iload_1 1 rfl dX10_fits_0 ?_
  refine tm_i2l 2 rfl dX10_fits_1 ?_
  refine tm_lconst 0 rfl 3 rfl dX10_fits_2 ?_
  refine tm_lconst 1 rfl 4 rfl dX10_fits_3 ?_
  refine tm_callS_I (c_X10_in) ms_X10_in ml_X10_60 rfl rfl (Nat.le_of_ble_eq_true rfl) 7 rfl dX10_fits_4 ?_
  rw [btw_in (N := 2) (by decide)]
  refine tm_if_neB 12 10 rfl rfl dX10_fits_7 (fun h7 => ?_) (fun h7 => ?_)
  · refine tm_iconst (0) rfl 13 rfl dX10_fits_12 ?_
    refine tm_istore_2 (by decide) rfl 14 rfl dX10_fits_13 ?_
    refine tm_iconst (0) rfl 15 rfl dX10_fits_14 ?_
    refine tm_istore_3 (by decide) rfl 16 rfl dX10_fits_15 ?_
    refine tm_bipush (40) (by decide) 18 rfl dX10_fits_16 ?_
    refine tm_istore_4 (by decide) rfl 20 rfl dX10_fits_18 ?_
    refine tm_loop (N := 81) (fun k => Tm g (d + 3) RX10 cX10_fits 5 (some .int) (QI g (ansFit σ f h s x) (M) (L)) 20 [some (rf g 54), some (.int x), some (.int (nI (cnt (fitP σ f h s) k))), some (.int (nI (ltF (fitP σ f h s) k))), some (.int (qI k))] [] (M) (L)) (fun k hk ih => ?_) ?_
    · refine tm_iload_4 22 rfl dX10_fits_20 ?_
      refine tm_bipush (-40) (by decide) 24 rfl dX10_fits_22 ?_
      refine tm_icmp_lt_f 27 (fun z => by have := (fa_lt _ _).mp z; rw [qI_t (by omega)] at this; have e : (-40 : Int32).toInt = -40 := rfl; omega) rfl rfl dX10_fits_24 ?_
      refine tm_aload_0 28 rfl dX10_fits_27 ?_
      refine tm_iload_4 30 rfl dX10_fits_28 ?_
      refine tm_callV_I (ci := 9) (c_X10_isSeenBy hM hσ hs hsn hf) mv_X10_isSeenBy ml_X10_162 rfl rfl rfl rfl rfl (Nat.le_of_ble_eq_true rfl) 33 rfl dX10_fits_30 ?_
      refine tm_if_eqB 45 36 rfl rfl dX10_fits_33 (fun h33 => ?_) (fun h33 => ?_)
      · refine tm_iinc_4 (qI (k + 1)) (qI_s (by omega)) (by decide) rfl 48 rfl dX10_fits_45 ?_
        refine tm_goto 20 rfl dX10_fits_48 ?_
        exact tm_wkr ih (And.intro rfl (And.intro rfl (And.intro (by first | rfl | exact ft_4 h33) (And.intro (by first | exact ft_5 hk h33 | exact ft_6 h33) (And.intro rfl trivial)))))
      · refine tm_iinc_2 (nI (cnt (fitP σ f h s) (k + 1))) (by rw [show cnt (fitP σ f h s) (k + 1) = cnt (fitP σ f h s) k + 1 from fa_cnt_yes h33]; exact iinc1 _) (by decide) rfl 39 rfl dX10_fits_36 ?_
        refine tm_iload_4 41 rfl dX10_fits_39 ?_
        refine tm_bipush (41) (by decide) 43 rfl dX10_fits_41 ?_
        refine tm_iadd 44 rfl dX10_fits_43 ?_
        refine tm_istore_3 (by decide) rfl 45 rfl dX10_fits_44 ?_
        refine tm_iinc_4 (qI (k + 1)) (qI_s (by omega)) (by decide) rfl 48 rfl dX10_fits_45 ?_
        refine tm_goto 20 rfl dX10_fits_48 ?_
        exact tm_wkr ih (And.intro rfl (And.intro rfl (And.intro (by first | rfl | exact ft_4 h33) (And.intro (by first | exact ft_5 hk h33 | exact ft_6 h33) (And.intro rfl trivial)))))
    · refine tm_iload_4 22 rfl dX10_fits_20 ?_
      refine tm_bipush (-40) (by decide) 24 rfl dX10_fits_22 ?_
      refine tm_icmp_lt_t 51 (by decide) rfl dX10_fits_24 ?_
      refine tm_iload_1 52 rfl dX10_fits_51 ?_
      refine tm_if_ne 59 55 rfl rfl dX10_fits_52 (fun h52 => ?_) (fun h52 => ?_)
      · refine tm_iload_3 60 rfl dX10_fits_59 ?_
        exact tm_iret (by first | exact (ft_2 h7 h52).symm | exact (ft_3 h7 h52).symm) rfl rfl dX10_fits_60
      · refine tm_iload_2 56 rfl dX10_fits_55 ?_
        refine tm_goto 60 rfl dX10_fits_56 ?_
        exact tm_iret (by first | exact (ft_2 h7 h52).symm | exact (ft_3 h7 h52).symm) rfl rfl dX10_fits_60
  · refine tm_iconst (-1) rfl 11 rfl dX10_fits_10 ?_
    exact tm_iret (ft_1 h7).symm rfl rfl dX10_fits_11

