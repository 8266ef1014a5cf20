/-! methods with a table of exceptions: they catch what their call throws -/
theorem g_ofWH {l : Launch} {y : MethodName} {ws ws' : List Cond} {rm : Room} {Pc : Array Value → State → Prop} {Qc : Array Value → State → Outcome → State → Prop} {mc ms : Nat} {free : Addr → Prop} {cc : ByteArray} {maxL : Nat} {ret : Option FieldType} {hh : List (Nat × Nat × Nat × Nat)}
    (hy : plainName y.cls = true) (hw : ws = Cond.codeWith y cc maxL ret hh :: ws')
    (body : ∀ p e s m args below meth c s₁, BodyLoose p l y (headSpec ws rm) cc maxL ret e s m args below meth c s₁ → c.maxLocals = maxL → Pc args s →
      W p l e (headSpec ws rm).room s m args below meth c s.heap [] 0 0 (MQ below Qc args s mc ms free) (entryFrame m args maxL)) : Met l y ws rm Pc Qc mc ms free := by
  refine MetFree.of_bodyS (code := cc) (maxLocals := maxL) (ret := ret) hy ?_ ?_
  · intro args s m h hn
    obtain ⟨m9, meth, c, hn9, h1, h2, h3, h4, -, h5, h6, -⟩ := Cond.codeWith_spec (atoms_spec (ws := ws) h _ (by rw [hw]; exact List.mem_cons_self))
    cases hn.symm.trans hn9
    exact ⟨meth, c, h1, h2, h3, h4, h5, h6⟩
  · intro p e s m args below meth c s₁ B hml hP _
    have hh0 : s₁.heap = s.heap := by rw [B.state]; rfl
    obtain ⟨t, a1, o, b1, b2, b3⟩ := body p e s m args below meth c s₁ B hml hP s₁ hh0 (Stand.of_body B)
    exact ⟨t, o, a1, b1, b2, b3⟩
/-- the contract of a method with a table that lets nothing out -/
def GH (L : GL) (y : MethodName) (cc : ByteArray) (maxL : Nat) (ret : Option FieldType) (hh : List (Nat × Nat × Nat × Nat)) (rm : Room) (N : Nat) (ad : Nat → Nat) (G : Nat → va_E) (av : List Value) (Q : Option Value → (Nat → va_E) → Prop) : Prop :=
  Met L.1 y (.codeWith y cc maxL ret hh :: AW) rm (va_Pc av (gS L N ad G)) (gQ L N ad Q) rm.cells rm.slots (gA L)
theorem GH.of {L : GL} {y : MethodName} {cc : ByteArray} {mL : Nat} {rt : Option FieldType} {hh : List (Nat × Nat × Nat × Nat)} {rm : Room} {N : Nat} {ad : Nat → Nat} {G : Nat → va_E} {av : List Value} {Q : Option Value → (Nat → va_E) → Prop} {own : String} {lo : List (Nat × Value)} (hy : plainName y.cls = true) (hown : y.cls = own) (hlo : lv_args 0 av = lo) (hsl : (lg_sl av).length ≤ mL)
    (body : ∀ E : GE, gC L E cc own mL rm → E.c.exceptionTable.toList = tableOf hh → gR L E rt rm.cells rm.slots N ad Q → GW L E N ad G 0 0 0 lo []) : GH L y cc mL rt hh rm N ad G av Q := by
  refine g_ofWH (cc := cc) (maxL := mL) (ret := rt) (hh := hh) hy rfl ?_
  intro p e s m args below meth c s₁ B hml hv
  obtain ⟨rfl, hP, hD, hK⟩ := hv
  have hts := atoms_spec (ws := .codeWith y cc mL rt hh :: AW) B.pre
  have K := body (p, e, rm, s, m, av.toArray, below, meth, c, MQ below (gQ L N ad Q) av.toArray s rm.cells rm.slots (gA L), mL)
    ⟨B.exec, B.bytes, hml, rfl, rfl, hown ▸ findClass_of_methodNamed B.named, fun w hw => hts w (List.mem_cons_of_mem _ hw), hK, B.notSynchronized⟩ (vx_table (x := y) B (hts _ List.mem_cons_self)) ⟨B.returns, fun t h => h⟩
    hD s.heap [] _ (hlo ▸ lv_entry av hsl) hP va_S.rf
  rw [lg_entry_eq]
  exact K
theorem GH.mono {L : GL} {y : MethodName} {cc : ByteArray} {mL : Nat} {rt : Option FieldType} {hh : List (Nat × Nat × Nat × Nat)} {rm : Room} {N : Nat} {ad : Nat → Nat} {G : Nat → va_E} {av : List Value} {Q Q' : Option Value → (Nat → va_E) → Prop} (h : GH L y cc mL rt hh rm N ad G av Q) (k : ∀ v G', Q v G' → Q' v G') : GH L y cc mL rt hh rm N ad G av Q' := by
  intro p e ha hc hk s m args below hf happ hP hK
  obtain ⟨n, o, h1, h2, h3, ⟨⟨v, G', e1, e2, e3⟩, e4⟩, h5⟩ := h p e ha hc hk s m args below hf happ hP hK
  exact ⟨n, o, h1, h2, h3, ⟨⟨v, G', e1, k v G' e2, e3⟩, e4⟩, h5⟩
/-- what is thrown at pc is caught at hp -/
def Ctch (E : GE) (own : String) (pc : Nat) (e : String) (hp : Nat) : Prop := ∃ (pre : List ExceptionTableEntry) (x : ExceptionTableEntry) (suf : List ExceptionTableEntry) (nm : String), E.c.exceptionTable.toList = pre ++ x :: suf ∧
  (∀ z ∈ pre, covers z pc = false ∨ (z.catchType ≠ 0 ∧ ∃ n2 : String, (Cond.classLink own z.catchType n2).before E.args E.s = true ∧ va_Nc e n2 E.s)) ∧ covers x pc = true ∧ x.catchType ≠ 0 ∧ (Cond.classLink own x.catchType nm).before E.args E.s = true ∧ (Cond.castable e nm).before E.args E.s = true ∧ x.handlerPc = hp
section CT
variable {L : GL} {E : GE} {cc : ByteArray} {own : String} {nL N cs ss pc : Nat} {R : Room} {ad : Nat → Nat} {G : Nat → va_E} {lo : List (Nat × Value)} {st : List Value} {y : MethodName} {cy : ByteArray} {mL n : Nat} {rt : Option FieldType} {rm : Room}
theorem ctch1 (C : gC L E cc own nL R) {a b h ct : Nat} {r : List (Nat × Nat × Nat × Nat)} {e : String} (ht : E.c.exceptionTable.toList = tableOf ((a, b, h, ct) :: r)) (hcov : covers ⟨a, b, h, ct⟩ pc = true) (h0 : ct ≠ 0) (hl : Cond.classLink own ct e ∈ AW) (hc : Cond.castable e e ∈ BW) : Ctch E own pc e h :=
  ⟨[], ⟨a, b, h, ct⟩, tableOf r, e, ht, fun z hz => absurd hz List.not_mem_nil, hcov, h0, C.2.2.2.2.2.2.1 _ hl, bw_use hc (C.2.2.2.2.2.2.2.1.2.2.2.2.1 _ hc), rfl⟩
theorem ctch2 (C : gC L E cc own nL R) {a b h ct a2 b2 h2 ct2 : Nat} {r : List (Nat × Nat × Nat × Nat)} {e n1 : String} (ht : E.c.exceptionTable.toList = tableOf ((a, b, h, ct) :: (a2, b2, h2, ct2) :: r)) (h0 : ct ≠ 0) (hl1 : Cond.classLink own ct n1 ∈ AW) (hn : va_Nc e n1 E.s) (hcov : covers ⟨a2, b2, h2, ct2⟩ pc = true) (h02 : ct2 ≠ 0) (hl : Cond.classLink own ct2 e ∈ AW) (hc : Cond.castable e e ∈ BW) : Ctch E own pc e h2 :=
  ⟨[⟨a, b, h, ct⟩], ⟨a2, b2, h2, ct2⟩, tableOf r, e, ht, fun z hz => by
    rw [List.mem_singleton] at hz; subst hz; exact Or.inr ⟨h0, n1, C.2.2.2.2.2.2.1 _ hl1, hn⟩, hcov, h02, C.2.2.2.2.2.2.1 _ hl, bw_use hc (C.2.2.2.2.2.2.2.1.2.2.2.2.1 _ hc), rfl⟩
theorem G_callVXC (C : gC L E cc own nL R) {Cn : String} {Q : Option Value → (Nat → va_E) → Prop} {X : String → (Nat → va_E) → Prop} {index k ci : Nat} {fs As rest : List Value} {q : vw_C} (hM : GX L y cy mL rt rm N ad G (.ref (ad k) :: As) Q X) (hcal : CalV Cn y cy mL rt n) (hl : Cond.methodLink own index y ∈ AW) (hk : k < N) (hG : G k = .inr (ci, fs)) (hc : vwCl[ci]? = some q) (hq : q.1 = Cn) (hn : As.length = n) (hst : st = As.reverse ++ .ref (ad k) :: rest) (hR : rm.frames + 1 ≤ R.frames ∧ 8 + (mL + 11) + rm.locals ≤ R.locals) (hcat : (rest.map fun v => v.category).sum ≤ 8) (hf : cs + rm.cells ≤ R.cells ∧ ss + rm.slots ≤ R.slots) (hdg : decode cc pc = .ok (.invokevirtual index, 3))
    (kx : ∀ e G', X e G' → ∃ hp, Ctch E own pc e hp ∧ ∀ q9, GW L E N ad G' (cs + rm.cells) (ss + rm.slots) hp lo [.ref q9]) (kk : ∀ v G', Q v G' → GW L E N ad G' (cs + rm.cells) (ss + rm.slots) (pc + 3) lo (v.toList ++ rest)) : GW L E N ad G cs ss pc lo st :=
  fun hD H locs ls hl' hP hS => g_callx (vx_runV (As := As) (rest := rest) C.fix hM (C.goV hcal hl hR) (C.preV hD hP hS hk hG hc hq As) rfl hn hl'.1 hst (lv_room hcat) hdg (by rw [C.2.2.2.2.1]; exact hf)) hS
    (fun e ce q9 G' H1 locs1 hXe hP1 hS1 hce hcv hcl => by
      obtain ⟨hp, ⟨pre, x, suf, nm, h1, h2, h3, h4, h5, h6, h7⟩, hw⟩ := kx e G' hXe
      subst h7
      exact vx_catch C.2.2.2.2.2.1 pre x suf h1 h2 h3 h4 h5 h6 hce hcv hcl (hw q9 hD H1 locs1 ls hl' hP1 hS1))
    (fun v G' H1 locs1 hQ hP1 hS1 => kk v G' hQ hD H1 locs1 ls hl' hP1 hS1)
def CalH (y : MethodName) (cy : ByteArray) (mL : Nat) (rt : Option FieldType) (hh : List (Nat × Nat × Nat × Nat)) (n : Nat) : Prop :=
  Cond.static y ∈ AW ∧ Cond.initialized y.cls ∈ AW ∧ Cond.codeWith y cy mL rt hh ∈ AW ∧ y.cls ≠ "java/lang/invoke/MethodHandle" ∧ y.cls ≠ "java/lang/invoke/VarHandle" ∧ (parseMethodDescriptor y.desc).map (fun d => d.parameters.length) = some n
theorem CalH.good {index : Nat} {hh : List (Nat × Nat × Nat × Nat)} (h : CalH y cy mL rt hh n) (hl : Cond.methodLink own index y ∈ AW) : GoodIn AW (va_wsS own index y (.codeWith y cy mL rt hh :: AW)) :=
  goodIn_app (GI_cons hl (GI_cons h.1 (GI_cons h.2.1 GI_nil))) (GI_cons h.2.2.1 AW_good)
theorem G_callSH (C : gC L E cc own nL R) {Q : Option Value → (Nat → va_E) → Prop} {hh : List (Nat × Nat × Nat × Nat)} {index : Nat} {As rest : List Value} (hM : GH L y cy mL rt hh rm N ad G As Q) (hcal : CalH y cy mL rt hh n) (hl : Cond.methodLink own index y ∈ AW) (hn : As.length = n) (hst : st = As.reverse ++ rest) (hR : rm.frames + 1 ≤ R.frames ∧ 8 + (mL + 11) + rm.locals ≤ R.locals) (hcat : (rest.map fun v => v.category).sum ≤ 8) (hf : cs + rm.cells ≤ R.cells ∧ ss + rm.slots ≤ R.slots) (hdg : decode cc pc = .ok (.invokestatic index, 3)) (kk : ∀ v G', Q v G' → GW L E N ad G' (cs + rm.cells) (ss + rm.slots) (pc + 3) lo (v.toList ++ rest)) : GW L E N ad G cs ss pc lo st :=
  fun hD H locs ls hl' hP hS => g_call (vx_runSW (As := As) (rest := rest) C.fix hM (vx_cwSW n C.2.2.2.2.2.2.1 (hcal.good hl) rfl rfl rfl ⟨hcal.2.2.2.1, hcal.2.2.2.2.1, hcal.2.2.2.2.2⟩ (by rw [C.2.2.2.2.1]; exact hR)) (C.pre hD hP hS As) rfl hn hl'.1 hst (lv_room hcat) hdg (by rw [C.2.2.2.2.1]; exact hf)) hS (fun v G' H1 locs1 hQ hP1 hS1 => kk v G' hQ hD H1 locs1 ls hl' hP1 hS1)
end CT
