/-! the law, whole -/
theorem INV_0 : INV M0 L0 := by
  refine ⟨⟨(3, 0, 0, fun _ => 0, 1), ⟨by decide, by decide, Nat.two_pow_pos _, Nat.two_pow_pos _, fun _ => show -9 ≤ (0 : Int32).toInt ∧ (0 : Int32).toInt ≤ 9 by decide, fun _ _ => rfl, show -40 ≤ (1 : Int32).toInt by decide, show (1 : Int32).toInt ≤ 40 by decide⟩, ⟨rfl, rfl, rfl, rfl, fun v _ => rfl⟩, ⟨rfl, rfl, rfl, rfl, fun v hv => ?_⟩⟩, ⟨⟨⟨0, Nat.zero_le _, rfl, rfl, fun k hk => absurd hk (Nat.not_lt_zero k)⟩, ⟨0, Nat.zero_le _, rfl, rfl, fun k hk => absurd hk (Nat.not_lt_zero k)⟩, ⟨0, Nat.zero_le _, rfl, rfl, fun k hk => absurd hk (Nat.not_lt_zero k)⟩⟩, Or.inl ⟨rfl, rfl⟩, ⟨0, Nat.zero_le _, rfl, rfl, fun i hi => absurd hi (Nat.not_lt_zero i)⟩, fun t ht => ?_⟩, ⟨0, fun _ => 0, rfl, by decide, fun i hi => absurd hi (Nat.not_lt_zero i), fun _ _ _ => rfl⟩⟩
  · rcases (show v = 0 ∨ v = 1 ∨ v = 2 ∨ v = 3 by omega) with rfl | rfl | rfl | rfl <;> rfl
  · rcases (show t = 0 ∨ t = 1 ∨ t = 2 ∨ t = 3 ∨ t = 4 ∨ t = 5 by omega) with rfl | rfl | rfl | rfl | rfl | rfl <;> exact ⟨-1, 0, Or.inl rfl, rfl, rfl, by decide, rfl, rfl, fun _ _ => rfl⟩
def rfs : Sh → List Nat
  | .inl (_, fl) => fl.filterMap id
  | .inr (_, _, tg) => tg
theorem fldV_u {g : GC} {u v : Nat → Nat} {m : Nat → Int32} : ∀ (fl : List (Option Nat)) (k : Nat), (∀ j ∈ fl.filterMap id, u j = v j) → fldV (gU g u) m k fl = fldV (gU g v) m k fl
  | [], k, _ => rfl
  | none :: r, k, h => by
    show _ :: _ = _ :: _
    rw [fldV_u r (k + 1) (fun j hj => h j hj)]
  | some i :: r, k, h => by
    have e : u i = v i := h i List.mem_cons_self
    show Value.ref (u i) :: _ = Value.ref (v i) :: _
    rw [e, fldV_u r (k + 1) (fun j hj => h j (List.mem_cons_of_mem _ hj))]
theorem map_u {u v : Nat → Nat} {tg : List Nat} (h : ∀ j ∈ tg, u j = v j) : (fun k : Nat => (tg[k]?).map u) = fun k : Nat => (tg[k]?).map v := by
  funext k
  cases q : tg[k]? with
  | none => rfl
  | some j => exact congrArg some (h j (List.mem_of_getElem? q))
theorem cellE_u {g : GC} {u v : Nat → Nat} {M : MI} {L : ML} {i : Nat} (s : Sh) (h : ∀ j ∈ rfs s, u j = v j) : cellE (gU g u) M L i s = cellE (gU g v) M L i s := by
  rcases s with ⟨ci, fl⟩ | ⟨k, n, tg⟩
  · show (Sum.inr (ci, _) : va_E) = Sum.inr (ci, _)
    rw [fldV_u fl 0 h]
  · have e := map_u (tg := tg) (u := u) (v := v) h
    match k with
    | 0 => rfl
    | 1 => rfl
    | 2 => exact congrArg (fun f : Nat → Option Nat => (Sum.inl (gT g, n, Sum.inr (Sum.inr (Sum.inr (Sum.inr f)))) : va_E)) e
    | k + 3 => exact congrArg (fun f : Nat → Option Nat => (Sum.inl (gR g, n, Sum.inr (Sum.inr (Sum.inr (Sum.inr f)))) : va_E)) e
theorem wldF_u {g : GC} {u v : Nat → Nat} {M : MI} {L : ML} : ∀ (l : List Sh) (b : Nat), (∀ i, i < l.length → u (b + i) = v (b + i)) → (∀ s ∈ l, ∀ j ∈ rfs s, u j = v j) → wldF (gU g u) M L b l = wldF (gU g v) M L b l
  | [], b, _, _ => rfl
  | s :: r, b, h1, h2 => by
    have e : u b = v b := h1 0 (Nat.succ_pos _)
    show (u b, _) :: _ = (v b, _) :: _
    rw [e, cellE_u s (h2 s List.mem_cons_self), wldF_u r (b + 1) (fun i hi => by have := h1 (i + 1) (Nat.succ_lt_succ hi); rwa [show b + (i + 1) = b + 1 + i by omega] at this) (fun s' hs' => h2 s' (List.mem_cons_of_mem _ hs'))]
theorem wldF_app {g : GC} {M : MI} {L : ML} : ∀ (l1 l2 : List Sh) (b : Nat), wldF g M L b (l1 ++ l2) = wldF g M L b l1 ++ wldF g M L (b + l1.length) l2
  | [], l2, b => rfl
  | s :: r, l2, b => by
    have ih := wldF_app (g := g) (M := M) (L := L) r l2 (b + 1)
    rw [show b + 1 + r.length = b + (s :: r).length by simp; omega] at ih
    exact congrArg (fun x => (ga g b, cellE g M L b s) :: x) ih
theorem sh_lo : ∀ s ∈ shL.take 54, ∀ j ∈ rfs s, j < 54 := by decide +kernel
theorem sh_hi : ∀ s ∈ shL.drop 54, ∀ j ∈ rfs s, 54 ≤ j := by decide +kernel
def jn (u1 u2 : Nat → Nat) : Nat → Nat := fun i => if i < 54 then u1 i else u2 i
theorem both (g : GC) (u1 u2 : Nat → Nat) : mk9 g u1 ++ mk10 g u2 = wld (gU g (jn u1 u2)) M0 L0 := by
  have e1 : mk9 g u1 = wldF (gU g (jn u1 u2)) M0 L0 0 (shL.take 54) := wldF_u _ _ (fun i hi => by
    have : i < 54 := Nat.lt_of_lt_of_le hi (by decide)
    rw [Nat.zero_add]; exact (if_pos this).symm) (fun s hs j hj => (if_pos (sh_lo s hs j hj)).symm)
  have e2 : mk10 g u2 = wldF (gU g (jn u1 u2)) M0 L0 54 (shL.drop 54) := wldF_u _ _ (fun i _ => (if_neg (by omega)).symm) (fun s hs j hj => (if_neg (by have := sh_hi s hs j hj; omega)).symm)
  have e3 := wldF_app (g := gU g (jn u1 u2)) (M := M0) (L := L0) (shL.take 54) (shL.drop 54) 0
  rw [List.take_append_drop] at e3
  rw [e1, e2]
  exact e3.symm
theorem law_known {p : Program} {s : State} {m : MethodId} {meth : Method} {c : Code} {b Ln : Nat} {xs : Nat → Int32} (l : Launch) (C0 : lw_At p s m meth c b Ln xs) : ∃ g : GC, gL g = l ∧ Kz g s ∧ va_Z "WeighedLots$Lots" "WITH" "[I" (.ref (gW g)) (A0 s) s s.heap ∧ va_T .int (gW g) 4 (fun j => .int (wv j)) (A0 s) s s.heap := by
  obtain ⟨hx, hb, hr, hml, hown, hts, hX, hbl, hlocks, hgv⟩ := id C0
  have htU : ∀ w ∈ tbU, w.before #[Value.ref b] s = true := fun w hw => hts w (List.mem_filter.mp hw).1
  obtain ⟨c0, i0, k0⟩ := u_known (C := RX1) (T := TX1) (N := 4) (n := 4) htU inU_X1 (htU _ it_X1)
  obtain ⟨c1, i1, k1⟩ := u_known (C := RX2) (T := TX2) (N := 3) (n := 3) htU inU_X2 (htU _ it_X2)
  obtain ⟨c2, i2, k2⟩ := u_known (C := RX3) (T := TX3) (N := 8) (n := 8) htU inU_X3 (htU _ it_X3)
  obtain ⟨c3, i3, k3⟩ := u_known (C := RX4) (T := TX4) (N := 8) (n := 8) htU inU_X4 (htU _ it_X4)
  obtain ⟨c4, i4, k4⟩ := u_known (C := RX5) (T := TX5) (N := 7) (n := 7) htU inU_X5 (htU _ it_X5)
  obtain ⟨c5, i5, k5⟩ := u_known (C := RX6) (T := TX6) (N := 3) (n := 3) htU inU_X6 (htU _ it_X6)
  obtain ⟨c6, i6, k6⟩ := u_known (C := RX7) (T := TX7) (N := 2) (n := 2) htU inU_X7 (htU _ it_X7)
  obtain ⟨c7, i7, k7⟩ := u_known (C := RX8) (T := TX8) (N := 1) (n := 1) htU inU_X8 (htU _ it_X8)
  obtain ⟨c8, i8, k8⟩ := u_known (C := RX9) (T := TX9) (N := 9) (n := 9) htU inU_X9 (htU _ it_X9)
  obtain ⟨c9, i9, k9⟩ := u_known (C := RX10) (T := TX10) (N := 18) (n := 18) htU inU_X10 (htU _ it_X10)
  obtain ⟨aI, kI, dI, fI, gI1, gI2⟩ := Cond.arrayClass_spec (htU _ ac_int)
  obtain ⟨aJ, kJ, dJ, fJ, gJ1, gJ2⟩ := Cond.arrayClass_spec (htU _ ac_long)
  have hT : (Cond.arrayOver (.object "WeighedLots$Tape")).before #[Value.ref b] s = true := hts _ (List.mem_of_getElem? (i := 171) (by decide +kernel))
  have hG : (Cond.arrayOver (.array .long)).before #[Value.ref b] s = true := hts _ (List.mem_of_getElem? (i := 757) (by decide +kernel))
  obtain ⟨dT, aT, kT, fT, -, gT1, gT2, gT3⟩ := Cond.arrayOver_spec hT
  obtain ⟨dG, aG, kG, fG, -, gG1, gG2, gG3⟩ := arrayOverA_spec hG
  have hs := flat_of_before _ hgv
  have hA : ∀ a : Nat, a < s.heap.size → ¬ A0 s a := fun a h => Nat.not_le.mpr h
  obtain ⟨t, ht, hTb⟩ := va_Tof (A := A0 s) (tm := .static "WeighedLots$Lots" "WITH" "[I") (ty := .int) (N := 4) (f := fun j => .int (wv j)) (by decide) (hs _ (by decide +kernel)) (va_eqt (hs _ (by decide +kernel))) (fun j hj => by
    rcases (show j = 0 ∨ j = 1 ∨ j = 2 ∨ j = 3 by omega) with rfl | rfl | rfl | rfl
    · exact va_eqt (z := 43690) (hs _ (by decide +kernel))
    · exact va_eqt (z := 52428) (hs _ (by decide +kernel))
    · exact va_eqt (z := 61680) (hs _ (by decide +kernel))
    · exact va_eqt (z := 65280) (hs _ (by decide +kernel))) hA
  refine ⟨(l, (fun k => match k with | 0 => c0 | 1 => c1 | 2 => c2 | 3 => c3 | 4 => c4 | 5 => c5 | 6 => c6 | 7 => c7 | 8 => c8 | _ => c9, fun k => match k with | 0 => i0 | 1 => i1 | 2 => i2 | 3 => i3 | 4 => i4 | 5 => i5 | 6 => i6 | 7 => i7 | 8 => i8 | _ => i9), (aI, aJ, aT, aG), fun _ => 0, t), rfl, ⟨⟨fun k q hq => ?_, fun k q hq => ?_⟩, va_AO.of hT, ⟨dG, aG, kG, fG, gG1, gG2, gG3⟩⟩, va_Zref (hts _ (List.mem_of_getElem? (i := 375) (by decide +kernel))) (hts _ (List.mem_of_getElem? (i := 66) (by decide +kernel))) ht hA, hTb⟩
  · match k, hq with
    | 0, hq => cases hq; exact k0
    | 1, hq => cases hq; exact k1
    | 2, hq => cases hq; exact k2
    | 3, hq => cases hq; exact k3
    | 4, hq => cases hq; exact k4
    | 5, hq => cases hq; exact k5
    | 6, hq => cases hq; exact k6
    | 7, hq => cases hq; exact k7
    | 8, hq => cases hq; exact k8
    | 9, hq => cases hq; exact k9
    | k + 10, hq => cases hq
  · match k, hq with
    | 0, hq => cases hq; exact ⟨fun n z => ⟨(fun _ h => by cases h), kI, gI1, dI, gI2⟩, fI⟩
    | 1, hq => cases hq; exact ⟨fun n z => ⟨(fun _ h => by cases h), kJ, gJ1, dJ, gJ2⟩, fJ⟩
    | 2, hq => cases hq; exact ⟨fun n z => ⟨(fun _ h => by cases h), kT, gT1, dT, gT2⟩, kT, dT, gT1, gT2, fT, gT3⟩
    | 3, hq => cases hq; exact ⟨fun n z => ⟨(fun _ h => by cases h), kG, gG1, dG, gG2⟩, gG3⟩
    | k + 4, hq => cases hq
theorem w_init {p : Program} {e : Env} {s : State} {m : MethodId} {args : Array Value} {below : List Frame} {meth : Method} {c : Code} {H : Heap} {locs : List Loc} {cells slots : Nat} {Q : State → Prop} {ls : Array Slot} {pc : Nat} {g : GC} {own : String} {cc : ByteArray} {nL : Nat} {A : Nat → Prop} {y : MethodName} {cb : ByteArray} {nB index a b : Nat} {R R1 : Room} {e0 : va_E} {mk : (Nat → Nat) → va_W} {st : List Value} {w : va_W} (hx : p.tables.exec = Jvm.exec) (hb : c.code = cc) (hml : c.maxLocals = nL) (hls : ls.size = nL) (hown : s.vm.findClass own = some m.cls) (hts : ∀ w ∈ tbU, w.before args s = true) (hK : Kz g s) (hA : ∀ q, s.heap.size ≤ q → A q) (hP : va_P (gD g) vwCl (w ++ [(a, e0)]) H) (hD : va_D A (w ++ [(a, e0)])) (hS : va_S A s.heap H locs) (hM : ∀ sz, CZ g y cb nB R1 (.ref a :: []) [(a, e0)] mk b a sz) (hm : MIn y cb nB 0) (hln : Cond.methodLink own index y ∈ tbU) (hroom : (st.map fun v => v.category).sum ≤ 8) (hR : R1.frames + 1 ≤ R.frames ∧ 8 + (nB + 11) + R1.locals ≤ R.locals) (hc : cells + R1.cells ≤ R.cells) (hs : slots + R1.slots ≤ R.slots) (hdg : decode cc pc = .ok (.invokespecial index, 3)) (kk : ∀ (u : Nat → Nat) (H1 : Heap) (locs1 : List Loc), u b = a → va_P (gD g) vwCl (w ++ mk u) H1 → va_D A (w ++ mk u) → va_S A s.heap H1 locs1 → W p (gL g) e R s m args below meth c H1 locs1 (cells + R1.cells) (slots + R1.slots) Q (F0 m (pc + 3) ls st)) : W p (gL g) e R s m args below meth c H locs cells slots Q (F0 m pc ls (.ref a :: st)) := by
  obtain ⟨m1, m2, m3, m4, m5⟩ := hm
  have hg : GoodIn tbU (wsU y cb nB none) := tb_goodIn (fun w hw => by
    rcases List.mem_cons.mp hw with rfl | hw
    · exact m3
    · exact hw)
  have hPc := hP.sub (ws' := [(a, e0)]) [w.length] (by simp)
  have hDc := hD.sub (ws' := [(a, e0)]) [w.length] rfl (by simp)
  have hFc := va_free (wc := [(a, e0)]) hD hS hA [w.length] (by simp)
  refine va_callv (va_runI (As := []) (rest := st) ⟨hx, hb, hml, hown, hts⟩ (hM H.size) (cwI 0 hts hg rfl rfl rfl (hts _ m2) (hts _ hln) (hts _ m1) m5 m4 hR) ⟨fun x U f mk' z => by obtain ⟨q0, q1, qP, qK, qD⟩ := z; exact ⟨q0, q1, qP, Kz.moved (u := U) (U := U.calling f mk' x) (Vm.Alike.refl U.vm) qK, qD⟩, fun U hU hW => ⟨rfl, by rw [hU], by rw [hU]; exact hPc, Kz.moved hW.alike hK, hDc.weaken (fun _ _ _ _ => trivial)⟩⟩ rfl rfl hls rfl (lv_room hroom) hdg ⟨hc, hs⟩) hS (fun q _ h => hFc q h) hFc (fun u t H1 locs1 ht hvm hw hB hz1 hk1 hS1 => ?_)
  obtain ⟨hP1, hD1⟩ := hB
  rw [ht] at hP1
  obtain ⟨hP2, hD2⟩ := va_join (wr := w) (w1 := mk u) hP hD [w.length] (List.range w.length) (by simp) (range_map w _) (nd_range _) (fun i hi z => by have := List.mem_range.mp hi; rw [List.mem_singleton] at z; omega) hk1 hFc hP1 hD1
  exact kk u H1 locs1 hw hP2 hD2 hS1
set_option maxRecDepth 100000 in
set_option maxHeartbeats 4000000 in
theorem whole_start {p : Program} {e : Env} {s : State} {m : MethodId} {below : List Frame} {meth : Method} {c : Code} (l : Launch) (hflags : l.flags = flags0) {b L : Nat} {xs : Nat → Int32} (hL : L ≤ 3072) (C0 : lw_At p s m meth c b L xs) : W p l e room_1 s m #[Value.ref b] below meth c s.heap [] 0 0 (lw_Z below #[Value.ref b] s) (entryFrame m ([Value.ref b] : List Value).toArray 4) := by
  obtain ⟨g, rfl, hK, hZ, hTb⟩ := law_known l C0
  obtain ⟨hx, hb, hr, hml, hown, hts, hX, hbl, hlocks, hgv⟩ := id C0
  have htU : ∀ w ∈ tbU, w.before #[Value.ref b] s = true := fun w hw => hts w (List.mem_filter.mp hw).1
  have hA : ∀ q : Nat, s.heap.size ≤ q → A0 s q := fun _ h => h
  have hS : va_S (A0 s) s.heap s.heap [] := va_S.rf
  have hP : va_P (gD g) vwCl [] s.heap := fun k q h => by simp at h
  have hD : va_D (A0 s) [] := ⟨fun i j p q h => by simp at h, fun k q h => by simp at h⟩
  have hl := lv_entry ([.ref b]) (n := 4) (Nat.le_of_ble_eq_true rfl)
  rw [lg_entry_eq]
  generalize (lg_sl ([.ref b]) ++ List.replicate (4 - (lg_sl ([.ref b])).length) Slot.unset).toArray = ls at hl ⊢
  have hl : lv_has ls 4 [(0, .ref b)] := hl
  refine va_new (ci := 8) (fs := [.null, .null, .int 0, .null, .null, .null, .null, .null, .null]) (C := RX9) (T := TX9) (N := 9) hx hb htU inU_X9 tyX9 tyX9_ok hown (htU _ cl_L_7) (htU _ it_X9) (htU _ ini_X9) hK.1 hP hD hS hA rfl zf_X9 (Nat.le_of_ble_eq_true rfl) (Nat.le_of_ble_eq_true rfl) dL_law_0 (fun q0 H hP hD hS => ?_)
  refine lv_dup hx hb dL_law_3 rfl ?_
  refine w_init (w := []) (R1 := rm9) (mk := mk9 g) (b := 0) hx hb hml hl.1 hown htU hK hA hP hD hS (fun sz => c_X9_init) mi_X9 ml_L_9 (Nat.le_of_ble_eq_true rfl) ⟨(Nat.le_of_ble_eq_true rfl), (Nat.le_of_ble_eq_true rfl)⟩ (Nat.le_of_ble_eq_true rfl) (Nat.le_of_ble_eq_true rfl) dL_law_4 (fun u1 H locs hu1 hP hD hS => ?_)
  refine lv_astore_n (lv' := [(1, .ref q0), (0, .ref b)]) hx hb dL_law_7 rfl hl (by decide) rfl (fun ls hl => ?_)
  refine va_new (ci := 9) (fs := [.null, .null, .int 0, .null, .null, .int 0, .null, .null, .null, .int 0, .int 0, .null, .int 0, .int 0, .null, .null, .null, .null]) (C := RX10) (T := TX10) (N := 18) hx hb htU inU_X10 tyX10 tyX10_ok hown (htU _ cl_L_10) (htU _ it_X10) (htU _ ini_X10) hK.1 hP hD hS hA rfl zf_X10 (Nat.le_of_ble_eq_true rfl) (Nat.le_of_ble_eq_true rfl) dL_law_8 (fun q1 H hP hD hS => ?_)
  refine lv_dup hx hb dL_law_11 rfl ?_
  refine w_init (w := mk9 g u1) (R1 := rm10) (mk := mk10 g) (b := 54) hx hb hml hl.1 hown htU hK hA hP hD hS (fun sz => c_X10_init) mi_X10 ml_L_12 (Nat.le_of_ble_eq_true rfl) ⟨(Nat.le_of_ble_eq_true rfl), (Nat.le_of_ble_eq_true rfl)⟩ (Nat.le_of_ble_eq_true rfl) (Nat.le_of_ble_eq_true rfl) dL_law_12 (fun u2 H locs hu2 hP hD hS => ?_)
  refine lv_astore_n (lv' := [(2, .ref q1), (1, .ref q0), (0, .ref b)]) hx hb dL_law_15 rfl hl (by decide) rfl (fun ls hl => ?_)
  refine lv_iconst (v := 0) hx hb dL_law_16 (by decide) ?_
  refine lv_istore_n (lv' := [(3, .int 0), (2, .ref q1), (1, .ref q0), (0, .ref b)]) hx hb dL_law_17 rfl hl (by decide) rfl (fun ls hl => ?_)
  refine W.widen (k := 600000) (n := 7302249) (Nat.le_of_ble_eq_true rfl) (Nat.le_of_ble_eq_true rfl) ?_
  rw [both] at hP hD
  have hi : ∀ i, i < 73 → ∃ sh, shp i = some sh := fun i hi => ⟨_, List.getElem?_eq_getElem (show i < shL.length from hi)⟩
  have hSt : StL (gU g (jn u1 u2)) s := ⟨hK.1, hZ, hTb, fun i j h1 h2 z => by
      obtain ⟨a, ha⟩ := hi i h1
      obtain ⟨d, hd⟩ := hi j h2
      exact hD.1 i j _ _ (wld_get ha) (wld_get hd) z, fun i h1 => by
      obtain ⟨a, ha⟩ := hi i h1
      exact hD.2 i _ (wld_get ha)⟩
  have hpl : PL ls 4 (lcs (gU g (jn u1 u2)) b 0) := ⟨hl.1, hl.2.1, fun i v hv => by
    match i, hv with
    | 0, hv => cases hv; exact hl.2.2 (0, _) (by simp)
    | 1, hv => cases hv; exact hl.2.2 (1, .ref (u1 0)) (by rw [hu1]; simp)
    | 2, hv => cases hv; exact hl.2.2 (2, .ref (u2 54)) (by rw [hu2]; simp)
    | 3, hv => cases hv; exact hl.2.2 (3, .int 0) (by simp)
    | i + 4, hv => cases hv⟩
  exact law_loop ⟨C0, hSt⟩ hL INV_0 H locs ls hpl hP hS
