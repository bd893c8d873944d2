/-! contracts whose end is a relation: for calls that leave scratch behind -/
def QIr (g : GC) (Q : Int32 → MI → ML → Prop) : QC := va_Qi (fun r (u : MI × ML) => Q r u.1 u.2) (BG g) (Aad g)
def QVr (g : GC) (Q : MI → ML → Prop) : QC := va_Qv (fun (u : MI × ML) => Q u.1 u.2) (BG g) (Aad g)
def CrI (g : GC) (d : Nat) (y : MethodName) (cc : ByteArray) (nL : Nat) (ty : FieldType) (av : List Value) (M : MI) (L : ML) (Q : Int32 → MI → ML → Prop) : Prop := Met (gL g) y (wsU y cc nL (some ty)) (rmD d) (PcG g av M L) (QIr g Q) 0 0 (Aad g)
def CrV (g : GC) (d : Nat) (y : MethodName) (cc : ByteArray) (nL : Nat) (av : List Value) (M : MI) (L : ML) (Q : MI → ML → Prop) : Prop := Met (gL g) y (wsU y cc nL none) (rmD d) (PcG g av M L) (QVr g Q) 0 0 (Aad g)
section Rel
variable {g : GC} {d : Nat} {own : String} {cc : ByteArray} {nL : Nat} {ret : Option FieldType} {Qc : QC} {pc : Nat} {l : List (Option Value)} {st : List Value} {M : MI} {L : ML}
theorem crI_of {y : MethodName} {ty : FieldType} {av : List Value} {Q : Int32 → MI → ML → Prop} (kk : Nat) (hl : enF av ++ List.replicate kk none = l) (hy : plainName y.cls = true) (ho : y.cls = own) (hn : (lg_sl av).length ≤ nL) (k : Tm g d own cc nL (some ty) (QIr g Q) 0 l [] M L) : CrI g d y cc nL ty av M L Q := met_of kk hl hy ho hn k
theorem crV_of {y : MethodName} {av : List Value} {Q : MI → ML → Prop} (kk : Nat) (hl : enF av ++ List.replicate kk none = l) (hy : plainName y.cls = true) (ho : y.cls = own) (hn : (lg_sl av).length ≤ nL) (k : Tm g d own cc nL none (QVr g Q) 0 l [] M L) : CrV g d y cc nL av M L Q := met_of kk hl hy ho hn k
theorem tm_iretR {Q : Int32 → MI → ML → Prop} {x : Int32} (hx : Q x M L) (hdg : decode cc pc = .ok (.ireturn, 1)) : Tm g d own cc nL (some .int) (QIr g Q) pc l [.int x] M L :=
  fun p e s m args below meth c H locs ls C hl hP hS => W.iret (v := x) C.1 C.2.1 C.2.2.1 (fun t ht hW => ⟨⟨x, (M, L), rfl, hx, by show va_P _ _ _ t.heap; rw [ht]; exact hP⟩, hS.F ht⟩) hS.2.2 hdg C.2.2.2.2.2.2.1
theorem tm_zretR {Q : Int32 → MI → ML → Prop} {x : Int32} (h01 : x = 0 ∨ x = 1) (hx : Q x M L) (hdg : decode cc pc = .ok (.ireturn, 1)) : Tm g d own cc nL (some .boolean) (QIr g Q) pc l [.int x] M L :=
  fun p e s m args below meth c H locs ls C hl hP hS => W.zret (v := x) C.1 C.2.1 C.2.2.1 (by rcases h01 with h | h <;> subst h <;> rfl) (fun t ht hW => ⟨⟨x, (M, L), rfl, hx, by show va_P _ _ _ t.heap; rw [ht]; exact hP⟩, hS.F ht⟩) hS.2.2 hdg C.2.2.2.2.2.2.1
theorem tm_vretR {Q : MI → ML → Prop} (hx : Q M L) (hdg : decode cc pc = .ok (.return_, 1)) : Tm g d own cc nL none (QVr g Q) pc l [] M L :=
  fun p e s m args below meth c H locs ls C hl hP hS => W.vret C.1 C.2.1 C.2.2.1 (fun t ht hW => ⟨⟨(M, L), rfl, hx, by show va_P _ _ _ t.heap; rw [ht]; exact hP⟩, hS.F ht⟩) hS.2.2 hdg C.2.2.2.2.2.2.1
theorem crI_cf {y : MethodName} {ty : FieldType} {av : List Value} {F : Int32} {M' : MI} {L' : ML} (h : CfI g d y cc nL ty av M L F M' L') : CrI g d y cc nL ty av M L (fun r m l => r = F ∧ m = M' ∧ l = L') := by
  unfold CfI at h
  unfold CrI
  have e : QI g F M' L' = QIr g (fun r m l => r = F ∧ m = M' ∧ l = L') := by
    unfold QI QIr
    congr 1
    funext r u
    exact propext ⟨fun q => ⟨q.1, by rw [q.2], by rw [q.2]⟩, fun q => ⟨q.1, Prod.ext q.2.1 q.2.2⟩⟩
  rw [← e]
  exact h
theorem tm_callVr_I {y : MethodName} {cb : ByteArray} {nB index q ci : Nat} {ty : FieldType} {av : List Value} {Qr : Int32 → MI → ML → Prop} {i : Nat} {As : List Value} {fl : List (Option Nat)} {stk : List Value} (hM : CrI g d y cb nB ty av M L Qr) (hm : MV y cb nB (some ty) q) (hln : Cond.methodLink own index y ∈ tbU) (hav : av = rf g i :: As) (hs : shp i = some (.inl (ci, fl))) (hc : (vwCl[ci]?).map (fun z => z.1) = some y.cls) (hq : As.length = q) (hst : stk = As.reverse ++ rf g i :: st) (hroom : (st.map fun v => v.category).sum ≤ 8) (n : Nat) (hn : pc + 3 = n) (hdg : decode cc pc = .ok (.invokevirtual index, 3)) (k : ∀ (F : Int32) (M1 : MI) (L1 : ML), Qr F M1 L1 → Tm g (d + 1) own cc nL ret Qc n l (.int F :: st) M1 L1) : Tm g (d + 1) own cc nL ret Qc pc l stk M L := by
  subst hn; subst hst; subst hav
  intro p e s m args below meth c H locs ls C hl hP hS
  obtain ⟨m1, m2, m3, m4, ⟨m5, m6, m7⟩, m8⟩ := hm
  have hg : GoodIn tbU (wsV own index y.cls y (wsU y cb nB (some ty))) := tb_goodIn (fun w hw => by
    rcases List.mem_append.mp hw with hw | hw
    · simp only [List.mem_cons, List.not_mem_nil, or_false] at hw
      rcases hw with rfl | rfl | rfl | rfl
      · exact hln
      · exact m1
      · exact m2
      · exact m3
    · rcases List.mem_cons.mp hw with rfl | hw
      · exact m4
      · exact hw)
  obtain ⟨z, hz1, hz2⟩ : ∃ z, vwCl[ci]? = some z ∧ z.1 = y.cls := by
    cases hzz : vwCl[ci]? with
    | none => rw [hzz] at hc; cases hc
    | some z => rw [hzz] at hc; exact ⟨z, rfl, by simpa using hc⟩
  have hrec := va_recv C.2.2.2.2.2.2.2.1 hP hz1 (wld_get hs)
  rw [hz2] at hrec
  refine va_calli (va_runV (As := As) (rest := st) ⟨C.1, C.2.1, C.2.2.2.1, C.2.2.2.2.1, C.2.2.2.2.2.1⟩ hM (cwV q C.2.2.2.2.2.1 hg rfl rfl rfl ⟨rfl, m5, m6, m7⟩ ⟨Nat.le_refl _, by show 8 + (nB + 11) + 40 * d ≤ 40 * (d + 1); omega⟩) ⟨blindG g _ M L, hrec, fun U hU hW => ⟨rfl, by rw [hU]; exact hP, C.2.2.2.2.2.2.2.move hS hU hW⟩⟩ rfl hq hl.1 rfl (lv_room hroom) hdg ⟨Nat.le_refl _, Nat.le_refl _⟩) hS (fun q _ h => h) (fun q h => h) (fun r u t H1 locs1 ht hvm hw hB hz hk hS1 => ?_)
  subst ht
  exact k r u.1 u.2 hw p e s m args below meth c _ locs1 ls C hl hB hS1
theorem tm_callVr_V {y : MethodName} {cb : ByteArray} {nB index q ci : Nat} {av : List Value} {Qr : MI → ML → Prop} {i : Nat} {As : List Value} {fl : List (Option Nat)} {stk : List Value} (hM : CrV g d y cb nB av M L Qr) (hm : MV y cb nB none q) (hln : Cond.methodLink own index y ∈ tbU) (hav : av = rf g i :: As) (hs : shp i = some (.inl (ci, fl))) (hc : (vwCl[ci]?).map (fun z => z.1) = some y.cls) (hq : As.length = q) (hst : stk = As.reverse ++ rf g i :: st) (hroom : (st.map fun v => v.category).sum ≤ 8) (n : Nat) (hn : pc + 3 = n) (hdg : decode cc pc = .ok (.invokevirtual index, 3)) (k : ∀ (M1 : MI) (L1 : ML), Qr M1 L1 → Tm g (d + 1) own cc nL ret Qc n l (st) M1 L1) : Tm g (d + 1) own cc nL ret Qc pc l stk M L := by
  subst hn; subst hst; subst hav
  intro p e s m args below meth c H locs ls C hl hP hS
  obtain ⟨m1, m2, m3, m4, ⟨m5, m6, m7⟩, m8⟩ := hm
  have hg : GoodIn tbU (wsV own index y.cls y (wsU y cb nB none)) := tb_goodIn (fun w hw => by
    rcases List.mem_append.mp hw with hw | hw
    · simp only [List.mem_cons, List.not_mem_nil, or_false] at hw
      rcases hw with rfl | rfl | rfl | rfl
      · exact hln
      · exact m1
      · exact m2
      · exact m3
    · rcases List.mem_cons.mp hw with rfl | hw
      · exact m4
      · exact hw)
  obtain ⟨z, hz1, hz2⟩ : ∃ z, vwCl[ci]? = some z ∧ z.1 = y.cls := by
    cases hzz : vwCl[ci]? with
    | none => rw [hzz] at hc; cases hc
    | some z => rw [hzz] at hc; exact ⟨z, rfl, by simpa using hc⟩
  have hrec := va_recv C.2.2.2.2.2.2.2.1 hP hz1 (wld_get hs)
  rw [hz2] at hrec
  refine va_callv (va_runV (As := As) (rest := st) ⟨C.1, C.2.1, C.2.2.2.1, C.2.2.2.2.1, C.2.2.2.2.2.1⟩ hM (cwV q C.2.2.2.2.2.1 hg rfl rfl rfl ⟨rfl, m5, m6, m7⟩ ⟨Nat.le_refl _, by show 8 + (nB + 11) + 40 * d ≤ 40 * (d + 1); omega⟩) ⟨blindG g _ M L, hrec, fun U hU hW => ⟨rfl, by rw [hU]; exact hP, C.2.2.2.2.2.2.2.move hS hU hW⟩⟩ rfl hq hl.1 rfl (lv_room hroom) hdg ⟨Nat.le_refl _, Nat.le_refl _⟩) hS (fun q _ h => h) (fun q h => h) (fun u t H1 locs1 ht hvm hw hB hz hk hS1 => ?_)
  subst ht
  exact k u.1 u.2 hw p e s m args below meth c _ locs1 ls C hl hB hS1
end Rel
