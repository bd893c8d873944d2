section Join
variable {g : GC} {d : Nat} {own : String} {cc : ByteArray} {nL : Nat} {ret : Option FieldType} {Qc : QC} {pc : Nat} {l : List (Option Value)} {st : List Value} {M : MI} {L : ML}
/-- two ways that come together at J with one number more on the stack -/
theorem tm_join1 {x : Int32} (J : Nat) (V : Int32) (k1 : Tm g d own cc nL ret Qc J l (.int V :: st) M L) (k2 : Tm g d own cc nL ret Qc J l (.int V :: st) M L → Tm g d own cc nL ret Qc pc l (.int x :: st) M L) : Tm g d own cc nL ret Qc pc l (.int x :: st) M L := k2 k1
theorem tm_join2 {x y : Int32} (J : Nat) (V : Int32) (k1 : Tm g d own cc nL ret Qc J l (.int V :: st) M L) (k2 : Tm g d own cc nL ret Qc J l (.int V :: st) M L → Tm g d own cc nL ret Qc pc l (.int y :: .int x :: st) M L) : Tm g d own cc nL ret Qc pc l (.int y :: .int x :: st) M L := k2 k1
/-- the same with nothing more on the stack -/
theorem tm_joinV1 {x : Int32} (J : Nat) (M1 : MI) (L1 : ML) (k1 : Tm g d own cc nL ret Qc J l st M1 L1) (k2 : Tm g d own cc nL ret Qc J l st M1 L1 → Tm g d own cc nL ret Qc pc l (.int x :: st) M L) : Tm g d own cc nL ret Qc pc l (.int x :: st) M L := k2 k1
theorem tm_joinV2 {x y : Int32} (J : Nat) (M1 : MI) (L1 : ML) (k1 : Tm g d own cc nL ret Qc J l st M1 L1) (k2 : Tm g d own cc nL ret Qc J l st M1 L1 → Tm g d own cc nL ret Qc pc l (.int y :: .int x :: st) M L) : Tm g d own cc nL ret Qc pc l (.int y :: .int x :: st) M L := k2 k1
theorem tm_top {x V : Int32} (h : V = x) (k : Tm g d own cc nL ret Qc pc l (.int V :: st) M L) : Tm g d own cc nL ret Qc pc l (.int x :: st) M L := h ▸ k
theorem tm_mem {M' : MI} {L' : ML} (h : M = M') (h2 : L = L') (k : Tm g d own cc nL ret Qc pc l st M L) : Tm g d own cc nL ret Qc pc l st M' L' := h ▸ h2 ▸ k
theorem tm_wkr {l' : List (Option Value)} (k : Tm g d own cc nL ret Qc pc l st M L) (hk : wkL l l') : Tm g d own cc nL ret Qc pc l' st M L := tm_wk hk k
theorem cfI_ofF {y : MethodName} {ty : FieldType} {av : List Value} {M' : MI} {L' : ML} {F : Int32} (kk : Nat) (hl : enF av ++ List.replicate kk none = l) (hy : plainFor y = true) (ho : y.cls = own) (hn : (lg_sl av).length ≤ nL) (k : Tm g d own cc nL (some ty) (QI g F M' L') 0 l [] M L) : CfI g d y cc nL ty av M L F M' L' := by
  unfold CfI Met
  refine MetFree.of_bodySF (code := cc) (maxLocals := nL) (ret := some ty) hy ?_ ?_
  · intro args s m h hn
    obtain ⟨meth, c, h1, h2, h3, h4, h5, h6, -, -⟩ := Cond.code_spec hn (atoms_spec (ws := wsU y cc nL (some ty)) h _ List.mem_cons_self)
    exact ⟨meth, c, h1, h2, h3, h4, h5, h6⟩
  · intro p e s m args below meth c s₁ B hml hP _
    have hh0 : s₁.heap = s.heap := by rw [B.state]; rfl
    obtain ⟨rfl, hP, hG⟩ := hP
    have hts := atoms_spec (ws := wsU y cc nL (some ty)) B.pre
    have hown : s.vm.findClass own = some m.cls := ho ▸ findClass_of_methodNamed B.named
    have hpl := PL.entry av hn kk
    rw [hl] at hpl
    have K := k p e s m _ below meth c s.heap [] _ ⟨B.exec, B.bytes, B.returns, hml, hown, fun w hw => hts w (List.mem_cons_of_mem _ hw), B.notSynchronized, hG⟩ hpl hP va_S.rf
    rw [← lg_entry_eq] at K
    obtain ⟨t, a1, o, b1, b2, b3⟩ := K s₁ hh0 (Stand.of_body B)
    exact ⟨t, o, a1, b1, b2, ⟨b3.1, b3.2⟩⟩
end Join
