set_option maxRecDepth 100000 in
set_option maxHeartbeats 4000000 in
theorem c_X9_becomes_x {g : GC} {d : Nat} {M : MI} {L : ML} {x : Int32} (hx : ¬ inN x 3 = true) : CfI g (d) yX9_becomes cX9_becomes 2 .int [rf g 0, .int x] M L (-1) (M) (L) := by
  refine cfI_of (own := RX9) (l := [some (rf g 0), some (.int x)]) 0 rfl rfl rfl (Nat.le_of_ble_eq_true rfl) ?_
  refine tm_iload_1 1 rfl dX9_becomes_0 ?_
  refine tm_swOut 83 (sw_out hx rfl) rfl dX9_becomes_1 ?_
  refine tm_iconst (-1) rfl 84 rfl dX9_becomes_83 ?_
  exact tm_iret rfl rfl rfl dX9_becomes_84

set_option maxRecDepth 100000 in
set_option maxHeartbeats 4000000 in
theorem c_X10_becomes_x {g : GC} {d : Nat} {M : MI} {L : ML} {x : Int32} (hx3 : ¬ inN x 3 = true) : CfI g (d + 1) yX10_becomes cX10_becomes 3 .int [rf g 54, .int x] M L (-1) (M) (L) := by
  refine cfI_of (own := RX10) (l := [some (rf g 54), some (.int x), none]) 1 rfl rfl rfl (Nat.le_of_ble_eq_true rfl) ?_
  refine tm_iload_1 1 rfl dX10_becomes_0 ?_
  refine tm_i2l 2 rfl dX10_becomes_1 ?_
  refine tm_lconst 0 rfl 3 rfl dX10_becomes_2 ?_
  refine tm_ldc2 kl_X10_64 6 rfl dX10_becomes_3 ?_
  refine tm_callS_I (c_X10_in) ms_X10_in ml_X10_60 rfl rfl (Nat.le_of_ble_eq_true rfl) 9 rfl dX10_becomes_6 ?_
  rw [btw_in (N := 3) rfl]
  refine tm_if_neB 14 12 rfl rfl dX10_becomes_9 (fun h9 => ?_) (fun h9 => ?_)
  · exact absurd h9 hx3
  · refine tm_iconst (-1) rfl 13 rfl dX10_becomes_12 ?_
    exact tm_iret rfl rfl rfl dX10_becomes_13

/-! what holds between both sides at each call -/
def CrL (g : GC) (d : Nat) (y : MethodName) (cc : ByteArray) (nL : Nat) (av : List Value) (M : MI) (L : ML) (Q : Int64 → MI → ML → Prop) : Prop := Met (gL g) y (wsU y cc nL (some .long)) (rmD d) (PcG g av M L) (va_Ql (fun r (u : MI × ML) => Q r u.1 u.2) (BG g) (Aad g)) 0 0 (Aad g)
theorem crL_cf {g : GC} {d : Nat} {cc : ByteArray} {nL : Nat} {M : MI} {L : ML} {y : MethodName} {av : List Value} {F : Int64} {M' : MI} {L' : ML} (h : CfL g d y cc nL av M L F M' L') : CrL g d y cc nL av M L (fun r m l => r = F ∧ m = M' ∧ l = L') := by
  unfold CfL at h
  unfold CrL
  have e : QL g F M' L' = va_Ql (fun r (u : MI × ML) => r = F ∧ u.1 = M' ∧ u.2 = L') (BG g) (Aad g) := by
    unfold QL
    congr 1
    funext r u
    exact propext ⟨fun q => ⟨q.1, by rw [q.2], by rw [q.2]⟩, fun q => ⟨q.1, Prod.ext q.2.1 q.2.2⟩⟩
  rw [← e]
  exact h
def gC (M : MI) (b : Nat) (σ : AS) : Prop := M b 0 = nI σ.1 ∧ M b 1 = nI σ.2.1 ∧ M b 2 = nI σ.2.2.1 ∧ M b 4 = σ.2.2.2.2 ∧ ∀ v, v < 4 → M (b + 1) v = σ.2.2.2.1 v
def gM (M : MI) (m : Nat) (σ : AS) : Prop := M m 0 = nI σ.1 ∧ M m 1 = nI σ.2.1 ∧ M m 2 = nI σ.2.2.1 ∧ M m 3 = σ.2.2.2.2 ∧ ∀ v, v < 4 → M m (4 + v) = σ.2.2.2.1 v
def rowI (M : MI) (r m q n : Nat) (P : Int32 → Int32 → Prop) : Prop := ∃ s, s ≤ n ∧ M r 2 = nI s ∧ M m q = nI s ∧ ∀ k, k < s → M (r + 1) k = M m (q + 1 + k) ∧ M (r + 2) k = M m (q + 1 + n + k) ∧ P (M (r + 1) k) (M (r + 2) k)
def pS (_ y : Int32) : Prop := inN y 2 = true
def pE (x _ : Int32) : Prop := inN x 4 = true
def pB (_ _ : Int32) : Prop := True
def rws (M : MI) (b m : Nat) : Prop := rowI M (b + 2) m 8 6 pS ∧ rowI M (b + 5) m 21 8 pE ∧ rowI M (b + 8) m 38 8 pB
def imG (M : MI) : Prop := (M 0 2 = 0 ∧ M 54 2 = 0) ∨ (M 0 2 = 1 ∧ M 54 2 = 1 ∧ (∃ τ : AS, okS τ ∧ gC M 12 τ ∧ gM M 56 τ) ∧ rws M 12 56)
def txT (M : MI) : Prop := ∃ s, s ≤ 100 ∧ M 23 1 = nI s ∧ M 54 9 = nI s ∧ ∀ i, i < s → M 24 i = M 61 i ∧ ¬ M 61 i = -1
def tpT (M : MI) (L : ML) (t : Nat) : Prop := ∃ (so : Int32) (z : Nat), soOK so ∧ M (tJ t) 0 = so ∧ M 63 t = so ∧ z ≤ 60 ∧ M (tJ t) 1 = nI z ∧ M 64 t = nI z ∧ ∀ k, k < 60 → L (tJ t + 1) k = L (tM t) k
def RST (M : MI) (L : ML) : Prop := rws M 1 55 ∧ imG M ∧ txT M ∧ ∀ t, t < 6 → tpT M L t
def INV (M : MI) (L : ML) : Prop := (∃ σ : AS, okS σ ∧ hasC M σ ∧ hasM M σ) ∧ RST M L ∧ orbI M
/-- the places that what holds doesn't speak of, but for the core and the orbit -/
def kp (i k : Nat) : Prop := ¬ (i = 1 ∨ i = 2 ∨ (i = 55 ∧ k < 8) ∨ (41 ≤ i ∧ i ≤ 53) ∨ (57 ≤ i ∧ i ≤ 60) ∨ i = 62 ∨ (i = 54 ∧ (k = 5 ∨ k = 10 ∨ k = 12 ∨ k = 13)) ∨ (i = 23 ∧ (k = 2 ∨ k = 6)) ∨ (25 ≤ i ∧ i ≤ 27))
theorem rowI_fr {M M' : MI} {r m q n : Nat} {P : Int32 → Int32 → Prop} (h : rowI M r m q n P) (h0 : M' r 2 = M r 2) (h1 : ∀ k, q ≤ k → M' m k = M m k) (h2 : ∀ k, M' (r + 1) k = M (r + 1) k) (h3 : ∀ k, M' (r + 2) k = M (r + 2) k) : rowI M' r m q n P := by
  obtain ⟨s, a, b, c, d⟩ := h
  refine ⟨s, a, by rw [h0]; exact b, by rw [h1 q (Nat.le_refl q)]; exact c, fun k hk => ?_⟩
  rw [h2, h3, h1 (q + 1 + k) (by omega), h1 (q + 1 + n + k) (by omega)]
  exact d k hk
theorem rws_fr {M M' : MI} {b m : Nat} (h : rws M b m) (h1 : ∀ k, 8 ≤ k → M' m k = M m k) (h2 : ∀ i k, b + 2 ≤ i → i ≤ b + 10 → M' i k = M i k) : rws M' b m :=
  ⟨rowI_fr h.1 (h2 _ _ (by omega) (by omega)) (fun k hk => h1 k (by omega)) (fun k => h2 _ k (by omega) (by omega)) (fun k => h2 _ k (by omega) (by omega)), rowI_fr h.2.1 (h2 _ _ (by omega) (by omega)) (fun k hk => h1 k (by omega)) (fun k => h2 _ k (by omega) (by omega)) (fun k => h2 _ k (by omega) (by omega)), rowI_fr h.2.2 (h2 _ _ (by omega) (by omega)) (fun k hk => h1 k (by omega)) (fun k => h2 _ k (by omega) (by omega)) (fun k => h2 _ k (by omega) (by omega))⟩
theorem gC_fr {M M' : MI} {b : Nat} {σ : AS} (h : gC M b σ) (f : ∀ i k, b ≤ i → i ≤ b + 1 → M' i k = M i k) : gC M' b σ := ⟨by rw [f b 0 (by omega) (by omega)]; exact h.1, by rw [f b 1 (by omega) (by omega)]; exact h.2.1, by rw [f b 2 (by omega) (by omega)]; exact h.2.2.1, by rw [f b 4 (by omega) (by omega)]; exact h.2.2.2.1, fun v hv => by rw [f (b + 1) v (by omega) (by omega)]; exact h.2.2.2.2 v hv⟩
theorem gM_fr {M M' : MI} {m : Nat} {σ : AS} (h : gM M m σ) (f : ∀ k, k < 8 → M' m k = M m k) : gM M' m σ := ⟨by rw [f 0 (by omega)]; exact h.1, by rw [f 1 (by omega)]; exact h.2.1, by rw [f 2 (by omega)]; exact h.2.2.1, by rw [f 3 (by omega)]; exact h.2.2.2.1, fun v hv => by rw [f (4 + v) (by omega)]; exact h.2.2.2.2 v hv⟩
theorem imG_fr {M M' : MI} (h : imG M) (h0 : M' 0 2 = M 0 2) (h4 : M' 54 2 = M 54 2) (h1 : ∀ k, M' 56 k = M 56 k) (h2 : ∀ i k, 12 ≤ i → i ≤ 22 → M' i k = M i k) : imG M' := by
  rcases h with ⟨a, b⟩ | ⟨a, b, ⟨τ, c1, c2, c3⟩, e⟩
  · exact Or.inl ⟨h0.trans a, h4.trans b⟩
  · exact Or.inr ⟨h0.trans a, h4.trans b, ⟨τ, c1, gC_fr c2 (fun i k x y => h2 i k x (by omega)), gM_fr c3 (fun k _ => h1 k)⟩, rws_fr e (fun k _ => h1 k) (fun i k x y => h2 i k (by omega) y)⟩
theorem txT_fr {M M' : MI} (h : txT M) (h1 : M' 23 1 = M 23 1) (h2 : M' 54 9 = M 54 9) (h3 : ∀ k, M' 24 k = M 24 k) (h4 : ∀ k, M' 61 k = M 61 k) : txT M' := by
  obtain ⟨s, a, b, c, d⟩ := h
  exact ⟨s, a, h1.trans b, h2.trans c, fun i hi => by rw [h3, h4]; exact d i hi⟩
theorem tpT_fr {M M' : MI} {L L' : ML} {t : Nat} (h : tpT M L t) (h1 : ∀ k, M' (tJ t) k = M (tJ t) k) (h2 : M' 63 t = M 63 t) (h3 : M' 64 t = M 64 t) (h4 : ∀ k, k < 60 → L' (tJ t + 1) k = L (tJ t + 1) k) (h5 : ∀ k, k < 60 → L' (tM t) k = L (tM t) k) : tpT M' L' t := by
  obtain ⟨so, z, a, b, c, d, e, f, g⟩ := h
  exact ⟨so, z, a, (h1 0).trans b, h2.trans c, d, (h1 1).trans e, h3.trans f, fun k hk => by rw [h4 k hk, h5 k hk]; exact g k hk⟩
theorem RST_fr {M M' : MI} {L : ML} (h : RST M L) (f : ∀ i k, kp i k → M' i k = M i k) : RST M' L := by
  unfold kp at f
  refine ⟨rws_fr h.1 (fun k hk => f 55 k (by omega)) (fun i k x y => f i k (by omega)), imG_fr h.2.1 (f 0 2 (by omega)) (f 54 2 (by omega)) (fun k => f 56 k (by omega)) (fun i k x y => f i k (by omega)), txT_fr h.2.2.1 (f 23 1 (by omega)) (f 54 9 (by omega)) (fun k => f 24 k (by omega)) (fun k => f 61 k (by omega)), fun t ht => tpT_fr (h.2.2.2 t ht) (fun k => f _ k (by show ¬ _; simp only [tJ]; omega)) (f 63 t (by omega)) (f 64 t (by omega)) (fun _ _ => rfl) (fun _ _ => rfl)⟩
theorem orb_fr {M M' : MI} (h : orbI M) (f : ∀ i k, 46 ≤ i → i ≤ 49 → M' i k = M i k) : orbI M' := orbI_eq (f 46 3 (by omega) (by omega)) (funext fun k => f 47 k (by omega) (by omega)) (funext fun k => f 48 k (by omega) (by omega)) h
theorem hasM_fr {M M' : MI} {σ : AS} (h : hasM M σ) (f : ∀ k, k < 8 → M' 55 k = M 55 k) : hasM M' σ := gM_fr (m := 55) h f
/-- a call that leaves but scratch behind -/
theorem INV_fr {M M' : MI} {L : ML} (h : INV M L) (f : ∀ i k, ¬ ((41 ≤ i ∧ i ≤ 45) ∨ (50 ≤ i ∧ i ≤ 53) ∨ (57 ≤ i ∧ i ≤ 60) ∨ (i = 54 ∧ k = 5)) → M' i k = M i k) : INV M' L := by
  obtain ⟨⟨σ, a, b, c⟩, d, e⟩ := h
  exact ⟨⟨σ, a, hasC.fr b (fun i k q => f i k (by omega)), hasM_fr c (fun k q => f 55 k (by omega))⟩, RST_fr d (fun i k q => f i k (by unfold kp at q; omega)), orb_fr e (fun i k x y => f i k (by omega))⟩
theorem INV_core {M : MI} {L : ML} {τ : AS} (h : INV M L) (ok : okS τ) : INV (putM (putC M τ) τ) L := by
  obtain ⟨-, d, e⟩ := h
  refine ⟨⟨τ, ok, ?_, hasM_put _ _⟩, RST_fr d (fun i k q => ?_), orb_fr e (fun i k x y => ?_)⟩
  · unfold hasC
    rw [putM_ne (by decide), putM_ne (by decide)]
    exact hasC_put _ _
  · unfold kp at q
    by_cases c : i = 55
    · subst c
      rw [putM_55]
      unfold gRow
      rw [if_neg (by omega), if_neg (by omega), if_neg (by omega), if_neg (by omega), if_neg (by omega), putC_ne (by decide) (by decide)]
    · rw [putM_ne c, putC_ne (by omega) (by omega)]
  · rw [putM_ne (by omega), putC_ne (by omega) (by omega)]
/-- both sides' contracts for one call: they answer alike, and what holds goes on to hold -/
def Pair (g : GC) (y1 : MethodName) (c1 : ByteArray) (n1 : Nat) (y2 : MethodName) (c2 : ByteArray) (n2 : Nat) (as : List Value) (M : MI) (L : ML) : Prop := ∃ Q1, CrI g 30 y1 c1 n1 .int (rf g 0 :: as) M L Q1 ∧ ∀ r1 M1 L1, Q1 r1 M1 L1 → ∃ Q2, CrI g 30 y2 c2 n2 .int (rf g 54 :: as) M1 L1 Q2 ∧ ∀ r2 M2 L2, Q2 r2 M2 L2 → r1 = r2 ∧ INV M2 L2
def PairL (g : GC) (y1 : MethodName) (c1 : ByteArray) (n1 : Nat) (y2 : MethodName) (c2 : ByteArray) (n2 : Nat) (as : List Value) (M : MI) (L : ML) : Prop := ∃ Q1, CrL g 30 y1 c1 n1 (rf g 0 :: as) M L Q1 ∧ ∀ r1 M1 L1, Q1 r1 M1 L1 → ∃ Q2, CrL g 30 y2 c2 n2 (rf g 54 :: as) M1 L1 Q2 ∧ ∀ r2 M2 L2, Q2 r2 M2 L2 → r1 = r2 ∧ INV M2 L2
section Pairs
variable {g : GC} {M : MI} {L : ML} {y1 y2 : MethodName} {c1 c2 : ByteArray} {n1 n2 : Nat} {as : List Value}
theorem pairF {F1 F2 : Int32} {M1 M2 : MI} {L1 L2 : ML} (h1 : CfI g 30 y1 c1 n1 .int (rf g 0 :: as) M L F1 M1 L1) (h2 : CfI g 30 y2 c2 n2 .int (rf g 54 :: as) M1 L1 F2 M2 L2) (he : F1 = F2) (hI : INV M2 L2) : Pair g y1 c1 n1 y2 c2 n2 as M L :=
 by
  refine ⟨_, crI_cf h1, fun r1 m1 l1 q => ?_⟩
  obtain ⟨q1, q2, q3⟩ := q
  rw [q2, q3]
  refine ⟨_, crI_cf h2, fun r2 m2 l2 z => ?_⟩
  obtain ⟨z1, z2, z3⟩ := z
  rw [z2, z3, q1, z1]
  exact ⟨he, hI⟩
theorem pairFL {F1 F2 : Int64} {M1 M2 : MI} {L1 L2 : ML} (h1 : CfL g 30 y1 c1 n1 (rf g 0 :: as) M L F1 M1 L1) (h2 : CfL g 30 y2 c2 n2 (rf g 54 :: as) M1 L1 F2 M2 L2) (he : F1 = F2) (hI : INV M2 L2) : PairL g y1 c1 n1 y2 c2 n2 as M L :=
 by
  refine ⟨_, crL_cf h1, fun r1 m1 l1 q => ?_⟩
  obtain ⟨q1, q2, q3⟩ := q
  rw [q2, q3]
  refine ⟨_, crL_cf h2, fun r2 m2 l2 z => ?_⟩
  obtain ⟨z1, z2, z3⟩ := z
  rw [z2, z3, q1, z1]
  exact ⟨he, hI⟩
theorem hasM.pC {σ τ : AS} (h : hasM M σ) : hasM (putC M τ) σ := hasM_fr h (fun k _ => by rw [putC_ne (by decide) (by decide)])
theorem hasM.S {M' : MI} {σ : AS} (h : hasM M σ) (f : frS M M') : hasM M' σ := hasM_fr h (fun k _ => f 55 k (by omega))
theorem INV_S {M' : MI} (h : INV M L) (f : frS M M') : INV M' L := INV_fr h (fun i k q => f i k (by omega))
theorem INV_M {M' : MI} (h : INV M L) (f : frM M M') : INV M' L := INV_fr h (fun i k q => f i k (by omega))
theorem pr_voters (h : INV M L) {x : Int32} : Pair g yX9_voters cX9_voters 3 yX10_voters cX10_voters 3 [.int x] M L := by
  obtain ⟨⟨σ, ok, hC, hM⟩, -⟩ := id h
  exact pairF (c_X9_voters hC ok) (c_X10_voters (hM.pC (τ := (opVot σ x).2)) ok) rfl (INV_core h (ok_vot ok x))
theorem pr_say (h : INV M L) {x : Int32} {y : Int32} : Pair g yX9_say cX9_say 4 yX10_say cX10_say 4 [.int x, .int y] M L := by
  obtain ⟨⟨σ, ok, hC, hM⟩, -⟩ := id h
  exact pairF (c_X9_say hC ok) (c_X10_say (hM.pC (τ := (opSay σ x y).2)) ok) rfl (INV_core h (ok_say ok x y))
theorem pr_code (h : INV M L) {x : Int32} : Pair g yX9_code cX9_code 3 yX10_code cX10_code 3 [.int x] M L := by
  obtain ⟨⟨σ, ok, hC, hM⟩, -⟩ := id h
  exact pairF (c_X9_code hC ok) (c_X10_code (hM.pC (τ := (opCode σ x).2)) ok) rfl (INV_core h (ok_code ok x))
theorem pr_weight (h : INV M L) {x : Int32} {y : Int32} : Pair g yX9_weight cX9_weight 4 yX10_weight cX10_weight 4 [.int x, .int y] M L := by
  obtain ⟨⟨σ, ok, hC, hM⟩, -⟩ := id h
  exact pairF (c_X9_weight hC ok) (c_X10_weight (hM.pC (τ := (opWgt σ x y).2)) ok) rfl (INV_core h (ok_wgt ok x y))
theorem pr_quota (h : INV M L) {x : Int32} : Pair g yX9_quota cX9_quota 3 yX10_quota cX10_quota 3 [.int x] M L := by
  obtain ⟨⟨σ, ok, hC, hM⟩, -⟩ := id h
  exact pairF (c_X9_quota hC ok) (c_X10_quota (hM.pC (τ := (opQuo σ x).2)) ok) rfl (INV_core h (ok_quo ok x))
theorem pr_weigh (h : INV M L) : Pair g yX9_weigh cX9_weigh 1 yX10_weigh cX10_weigh 1 [] M L := by
  obtain ⟨⟨σ, ok, hC, hM⟩, -⟩ := id h
  exact pairF (c_X9_weigh hC ok) (c_X10_weigh (hM.pC (τ := (opWei σ).2)) ok) rfl (INV_core h (ok_wei ok))
theorem pr_turn (h : INV M L) {x : Int32} : Pair g yX9_turn cX9_turn 2 yX10_turn cX10_turn 2 [.int x] M L := by
  obtain ⟨⟨σ, ok, hC, hM⟩, -⟩ := id h
  exact pairF (c_X9_turn hC ok) (c_X10_turn (hM.pC (τ := (opTrn σ x).2)) ok) rfl (INV_core h (ok_trn ok x))
theorem pr_exchange (h : INV M L) {x : Int32} {y : Int32} : Pair g yX9_exchange cX9_exchange 3 yX10_exchange cX10_exchange 3 [.int x, .int y] M L := by
  obtain ⟨⟨σ, ok, hC, hM⟩, -⟩ := id h
  exact pairF (c_X9_exchange hC ok) (c_X10_exchange (hM.pC (τ := (opExc σ x y).2)) ok) rfl (INV_core h (ok_exc ok x y))
theorem pr_keep (h : INV M L) : Pair g yX9_keep cX9_keep 1 yX10_keep cX10_keep 1 [] M L := by
  obtain ⟨⟨σ, ok, hC, hM⟩, -⟩ := id h
  exact pairF (c_X9_keep hC ok) (c_X10_keep (hM.pC (τ := (opKeep σ).2)) ok) rfl (INV_core h (ok_keep ok))
theorem pr_becomes (h : INV M L) {x : Int32} : Pair g yX9_becomes cX9_becomes 2 yX10_becomes cX10_becomes 3 [.int x] M L := by
  obtain ⟨⟨σ, ok, hC, hM⟩, -⟩ := id h
  by_cases q : inN x 3 = true
  · obtain ⟨k, hk, rfl⟩ := inN_of q
    rcases (show k = 0 ∨ k = 1 ∨ k = 2 by omega) with rfl | rfl | rfl
    · exact pairF (c_X9_becomes0 hC ok) (c_X10_becomes0 (hM.pC (τ := (opDua σ).2)) ok) rfl (INV_core h (ok_dua ok))
    · exact pairF (c_X9_becomes1 hC ok) (c_X10_becomes1 (hM.pC (τ := (opOpp σ).2)) ok) rfl (INV_core h (ok_opp ok))
    · refine ⟨_, c_X9_becomes2 hC ok, fun r1 m1 l1 q1 => ?_⟩
      obtain ⟨e1, e2, M1, f1, e3⟩ := q1
      subst e1; subst e3
      refine ⟨_, c_X10_becomes2 ((hM.S f1).pC (τ := (opLst σ).2)) ok, fun r2 m2 l2 q2 => ?_⟩
      obtain ⟨a1, a2, M2, f2, a3⟩ := q2
      subst a1; subst a3
      refine ⟨by rw [e2, a2], ?_⟩
      have hI := INV_core (INV_S h f1) (ok_lst ok)
      refine ⟨⟨(opLst σ).2, ok_lst ok, ?_, hasM_put _ _⟩, RST_fr hI.2.1 (fun i k z => ?_), orb_fr hI.2.2 (fun i k z1 z2 => ?_)⟩
      · refine hasC.fr (hasC_put M1 (opLst σ).2) (fun i k z => ?_)
        rw [putM_ne (by omega), f2 i k (by omega)]
      · unfold kp at z
        by_cases c : i = 55
        · subst c
          rw [putM_55, putM_55]
          unfold gRow
          rw [if_neg (by omega), if_neg (by omega), if_neg (by omega), if_neg (by omega), if_neg (by omega), if_neg (by omega), if_neg (by omega), if_neg (by omega), if_neg (by omega), if_neg (by omega), f2 55 k (by omega)]
        · rw [putM_ne c, putM_ne c, f2 i k (by omega)]
      · rw [putM_ne (by omega), putM_ne (by omega), f2 i k (by omega)]
  · exact pairF (c_X9_becomes_x q) (c_X10_becomes_x q) rfl h
theorem pr_of (h : INV M L) {x : Int32} {y : Int32} : Pair g yX9_of cX9_of 3 yX10_of cX10_of 3 [.int x, .int y] M L := by
  obtain ⟨⟨σ, ok, hC, hM⟩, -⟩ := id h
  exact pairF (c_X9_of hC ok) (c_X10_of hM ok) rfl h
theorem pr_chow (h : INV M L) {x : Int32} : Pair g yX9_chow cX9_chow 2 yX10_chow cX10_chow 2 [.int x] M L := by
  obtain ⟨⟨σ, ok, hC, hM⟩, -⟩ := id h
  exact pairF (c_X9_chow hC ok) (c_X10_chow hM ok) rfl h
theorem pr_leastLot (h : INV M L) {x : Int32} : Pair g yX9_leastLot cX9_leastLot 5 yX10_leastLot cX10_leastLot 2 [.int x] M L := by
  obtain ⟨⟨σ, ok, hC, hM⟩, -⟩ := id h
  exact pairF (c_X9_leastLot hC ok) (c_X10_leastLot hM ok) rfl h
theorem pr_swings (h : INV M L) {x : Int32} : Pair g yX9_swings cX9_swings 2 yX10_swings cX10_swings 4 [.int x] M L := by
  obtain ⟨⟨σ, ok, hC, hM⟩, -⟩ := id h
  exact pairF (c_X9_swings hC ok) (c_X10_swings hM ok) rfl h
theorem pr_odds (h : INV M L) {x : Int32} {y : Int32} : PairL g yX9_odds cX9_odds 3 yX10_odds cX10_odds 3 [.int x, .int y] M L := by
  obtain ⟨⟨σ, ok, hC, hM⟩, -⟩ := id h
  exact pairFL (c_X9_odds hC ok) (c_X10_odds hM ok) rfl h
theorem pr_mean (h : INV M L) {x : Int32} : PairL g yX9_mean cX9_mean 4 yX10_mean cX10_mean 5 [.int x] M L := by
  obtain ⟨⟨σ, ok, hC, hM⟩, -⟩ := id h
  exact pairFL (c_X9_mean hC ok) (c_X10_mean hM ok) rfl h
theorem pr_weightOf (h : INV M L) {x : Int32} {y : Int32} : Pair g yX9_weightOf cX9_weightOf 3 yX10_weightOf cX10_weightOf 3 [.int x, .int y] M L := by
  obtain ⟨⟨σ, ok, hC, hM⟩, -⟩ := id h
  refine ⟨_, c_X9_weightOf hC ok, fun r1 m1 l1 q1 => ?_⟩
  obtain ⟨e1, e2, f1⟩ := q1
  subst e1
  refine ⟨_, c_X10_weightOf (hM.S f1) ok, fun r2 m2 l2 q2 => ?_⟩
  obtain ⟨a1, a2, f2⟩ := q2
  subst a1
  exact ⟨by rw [e2, a2], INV_M (INV_S h f1) f2⟩
theorem pr_least (h : INV M L) : Pair g yX9_least cX9_least 1 yX10_least cX10_least 1 [] M L := by
  obtain ⟨⟨σ, ok, hC, hM⟩, -⟩ := id h
  refine ⟨_, c_X9_least hC ok, fun r1 m1 l1 q1 => ?_⟩
  obtain ⟨e1, e2, f1⟩ := q1
  subst e1
  refine ⟨_, c_X10_least (hM.S f1) ok, fun r2 m2 l2 q2 => ?_⟩
  obtain ⟨a1, a2, f2⟩ := q2
  subst a1
  exact ⟨by rw [e2, a2], INV_M (INV_S h f1) f2⟩
theorem pr_told (h : INV M L) {x : Int32} : Pair g yX9_told cX9_told 2 yX10_told cX10_told 2 [.int x] M L := by
  obtain ⟨⟨σ, ok, hC, hM⟩, hR, hO⟩ := id h
  refine ⟨_, c_X9_told hC ok hO, fun r1 m1 l1 q1 => ?_⟩
  obtain ⟨e1, e2, f1, o1⟩ := q1
  subst e1
  have hI : INV m1 _ := ⟨⟨σ, ok, hasC.fr hC (fun i k q => f1 i k (by omega)), hasM_fr hM (fun k _ => f1 55 k (by omega))⟩, RST_fr hR (fun i k q => f1 i k (by unfold kp at q; omega)), o1⟩
  refine ⟨_, c_X10_told (hasM_fr hM (fun k _ => f1 55 k (by omega))) ok, fun r2 m2 l2 q2 => ?_⟩
  obtain ⟨a1, a2, f2⟩ := q2
  subst a1
  exact ⟨by rw [e2, a2], INV_fr hI (fun i k q => f2 i k (by omega))⟩
theorem trM_fr (σ : AS) (M : MI) (x : Int32) {i k : Nat} (h : ¬ (50 ≤ i ∧ i ≤ 51)) : trM σ M x i k = M i k := by
  unfold trM
  by_cases q : inN x 5 = false
  · rw [if_pos q]
  · rw [if_neg q]
    unfold trS
    rw [sr_ne (by omega), s1_ne (by omega)]
theorem pr_trade (h : INV M L) {x : Int32} : Pair g yX9_trade cX9_trade 2 yX10_trade cX10_trade 8 [.int x] M L := by
  obtain ⟨⟨σ, ok, hC, hM⟩, -⟩ := id h
  exact pairF (c_X9_trade hC ok) (c_X10_trade (hasM_fr hM (fun k _ => trM_fr σ M x (by omega))) ok (M 51)) rfl (INV_fr h (fun i k q => trM_fr σ M x (by omega)))
theorem pr_fits (h : INV M L) {x : Int32} : Pair g yX9_fits cX9_fits 4 yX10_fits cX10_fits 5 [.int x] M L := by
  obtain ⟨⟨σ, ok, hC, hM⟩, ⟨⟨⟨s, hs, e1, e2, hf⟩, -⟩, -⟩, -⟩ := id h
  exact pairF (c_X9_fits hC ok e1 hs (f := M 4) (h := M 5) (fun k _ => ⟨rfl, rfl⟩) (fun k hk => (hf k hk).2.2)) (c_X10_fits hM ok e2 hs (f := M 4) (h := M 5) (fun k hk => ⟨(hf k hk).1.symm, (hf k hk).2.1.symm⟩)) rfl h
theorem pr_looked (h : INV M L) : Pair g yX9_looked cX9_looked 3 yX10_looked cX10_looked 3 [] M L := by
  obtain ⟨⟨σ, ok, hC, hM⟩, ⟨⟨-, -, ⟨s, hs, e1, e2, hf⟩⟩, -⟩, -⟩ := id h
  exact pairF (c_X9_looked hC ok e1 hs (f := M 10) (h := M 11) (fun k _ => ⟨rfl, rfl⟩)) (c_X10_looked hM ok e2 hs (f := M 10) (h := M 11) (fun k hk => ⟨(hf k hk).1.symm, (hf k hk).2.1.symm⟩)) rfl h
theorem pr_after (h : INV M L) {x : Int32} : Pair g yX9_after cX9_after 2 yX10_after cX10_after 6 [.int x] M L := by
  obtain ⟨⟨σ, ok, hC, hM⟩, ⟨⟨-, ⟨s, hs, e1, e2, hf⟩, -⟩, -⟩, -⟩ := id h
  refine ⟨_, c_X9_after hC ok e1 hs (f := M 7) (h := M 8) (fun k _ => ⟨rfl, rfl⟩) (fun k hk => (hf k hk).2.2), fun r1 m1 l1 q1 => ?_⟩
  obtain ⟨z1, z2, f1⟩ := q1
  subst z1
  have hM1 := hM.S f1
  have e21 : m1 55 21 = nI s := (f1 55 21 (by omega)).trans e2
  have hf1 : ∀ k, k < s → m1 55 (22 + k) = M 7 k ∧ m1 55 (30 + k) = M 8 k := fun k hk => ⟨(f1 _ _ (by omega)).trans (hf k hk).1.symm, (f1 _ _ (by omega)).trans (hf k hk).2.1.symm⟩
  have hx1 : ∀ k, k < s → inN (M 7 k) 4 = true := fun k hk => (hf k hk).2.2
  by_cases q : inN x 3 = true
  · obtain ⟨k, hk, rfl⟩ := inN_of q
    rcases (show k = 0 ∨ k = 1 ∨ k = 2 by omega) with rfl | rfl | rfl
    · exact ⟨_, c_X10_after_0 hM1 ok e21 hs hf1 hx1, fun r2 m2 l2 q2 => ⟨by rw [z2, q2.2.1]; rfl, by rw [q2.1]; exact INV_M (INV_S h f1) q2.2.2⟩⟩
    · exact ⟨_, c_X10_after_1 hM1 ok e21 hs hf1 hx1, fun r2 m2 l2 q2 => ⟨by rw [z2, q2.2.1]; rfl, by rw [q2.1]; exact INV_M (INV_S h f1) q2.2.2⟩⟩
    · exact ⟨_, c_X10_after_2 hM1 ok e21 hs hf1 hx1, fun r2 m2 l2 q2 => ⟨by rw [z2, q2.2.1]; rfl, by rw [q2.1]; exact INV_M (INV_S h f1) q2.2.2⟩⟩
  · refine ⟨_, crI_cf (c_X10_after_x hM1 ok q), fun r2 m2 l2 q2 => ⟨?_, by rw [q2.2.1, q2.2.2]; exact INV_S h f1⟩⟩
    rw [z2, q2.1]
    unfold ansAft
    rw [if_neg (fun z => q (by rw [z]; decide)), if_neg (fun z => q (by rw [z]; decide)), if_neg (fun z => q (by rw [z]; decide))]
theorem pr_count (h : INV M L) {x : Int32} : Pair g yX9_count cX9_count 2 yX10_count cX10_count 2 [.int x] M L := by
  obtain ⟨-, ⟨⟨⟨s1, -, a1, b1, -⟩, ⟨s2, -, a2, b2, -⟩, ⟨s3, -, a3, b3, -⟩⟩, -, ⟨s4, -, a4, b4, -⟩, -⟩, -⟩ := id h
  refine pairF (c_X9_count (g := g) (d := 30) (M := M) (L := L)) (c_X10_count (d := 30)) ?_ h
  rw [show M 3 2 = M 55 8 from a1.trans b1.symm, show M 6 2 = M 55 21 from a2.trans b2.symm, show M 9 2 = M 55 38 from a3.trans b3.symm, show M 23 1 = M 54 9 from a4.trans b4.symm]
end Pairs
