/-! a method of the library of Java is opened by its row: no native stands in its place -/
theorem g_ofWJ {l : Launch} {y : MethodName} {ws ws' : List Cond} {rm : Room} {Pc : Array Value → State → Prop} {Qc : Array Value → State → Outcome → State → Prop} {mc ms : Nat} {free : Addr → Prop} {cc : ByteArray} {maxL : Nat} {ret : Option FieldType}
    (hy : plainFor y = true) (hw : ws = Cond.code y cc maxL ret :: ws')
    (body : ∀ p e s m args below meth c s₁, BodyLoose p l y (headSpec ws rm) cc maxL ret e s m args below meth c s₁ → c.maxLocals = maxL → Pc args s →
      W p l e (headSpec ws rm).room s m args below meth c s.heap [] 0 0 (MQ below Qc args s mc ms free) (entryFrame m args maxL)) : Met l y ws rm Pc Qc mc ms free := by
  refine MetFree.of_bodySF (code := cc) (maxLocals := maxL) (ret := ret) hy ?_ ?_
  · intro args s m h hn
    obtain ⟨meth, c, h1, h2, h3, h4, h5, h6, -, -⟩ := Cond.code_spec hn (atoms_spec (ws := ws) h _ (by rw [hw]; exact List.mem_cons_self))
    exact ⟨meth, c, h1, h2, h3, h4, h5, h6⟩
  · intro p e s m args below meth c s₁ B hml hP _
    have hh0 : s₁.heap = s.heap := by rw [B.state]; rfl
    obtain ⟨t, a1, o, b1, b2, b3⟩ := body p e s m args below meth c s₁ B hml hP s₁ hh0 (Stand.of_body B)
    exact ⟨t, o, a1, b1, b2, ⟨b3.1, b3.2⟩⟩
theorem GM.ofJ {L : GL} {y : MethodName} {cc : ByteArray} {mL : Nat} {rt : Option FieldType} {rm : Room} {N : Nat} {ad : Nat → Nat} {G : Nat → va_E} {av : List Value} {Q : Option Value → (Nat → va_E) → Prop} {own : String} {lo : List (Nat × Value)} (hy : plainFor y = true) (hown : y.cls = own) (hlo : lv_args 0 av = lo) (hsl : (lg_sl av).length ≤ mL)
    (body : ∀ E : GE, gC L E cc own mL rm → gR L E rt rm.cells rm.slots N ad Q → GW L E N ad G 0 0 0 lo []) : GM L y cc mL rt rm N ad G av Q := by
  refine g_ofWJ (cc := cc) (maxL := mL) (ret := rt) hy rfl ?_
  intro p e s m args below meth c s₁ B hml hv
  obtain ⟨rfl, hP, hD, hK⟩ := hv
  have hts := atoms_spec (ws := .code y cc mL rt :: AW) B.pre
  have K := body (p, e, rm, s, m, av.toArray, below, meth, c, MQ below (gQ L N ad Q) av.toArray s rm.cells rm.slots (gA L), mL)
    ⟨B.exec, B.bytes, hml, rfl, rfl, hown ▸ findClass_of_methodNamed B.named, fun w hw => hts w (List.mem_cons_of_mem _ hw), hK, B.notSynchronized⟩ ⟨B.returns, fun t h => h⟩
    hD s.heap [] _ (hlo ▸ lv_entry av hsl) hP va_S.rf
  rw [lg_entry_eq]
  exact K
