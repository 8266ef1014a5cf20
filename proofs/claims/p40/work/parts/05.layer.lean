/-! one heap for all: cell number k lies at the address 'ad k' and holds 'G k'; rows of the kit said over it -/
def cnWord : Cond → Bool
  | .castable .. => true
  | .methodLinkNest .. => true
  | .declares .. => true
  | _ => false
def AW : List Cond := lw_tbl.filter goodWord
def BW : List Cond := lw_tbl.filter cnWord
theorem AW_of {w : Cond} (i : Nat) (h : lw_tbl[i]? = some w) (g : goodWord w = true) : w ∈ AW := List.mem_filter.mpr ⟨List.mem_of_getElem? h, g⟩
theorem BW_of {w : Cond} (i : Nat) (h : lw_tbl[i]? = some w) (g : cnWord w = true) : w ∈ BW := List.mem_filter.mpr ⟨List.mem_of_getElem? h, g⟩
theorem AW_sub (ws : List Cond) (ps : List Nat) (hp : ws = ps.filterMap (fun i => lw_tbl[i]?)) (hg : ws.all goodWord = true) : ∀ w ∈ ws, w ∈ AW := by
  intro w hw
  refine List.mem_filter.mpr ⟨?_, List.all_eq_true.mp hg w hw⟩
  rw [hp] at hw
  obtain ⟨i, -, hi⟩ := List.mem_filterMap.mp hw
  exact List.mem_of_getElem? hi
theorem AW_good : GoodIn AW AW := fun w h => ⟨h, good_of_word (List.mem_filter.mp h).2⟩
theorem GI_nil {b : List Cond} : GoodIn b [] := fun _ h => nomatch h
theorem GI_cons {w : Cond} {ws : List Cond} (h : w ∈ AW) (t : GoodIn AW ws) : GoodIn AW (w :: ws) := fun v hv => (List.mem_cons.mp hv).elim (fun e => e ▸ AW_good w h) (t v)
/-- what is the same in the whole run: the launch, class ids, slots, array class ids, the first new address -/
abbrev GL : Type := Launch × (Nat → ClassId) × (Nat → Nat → Nat) × (Nat → ClassId) × Nat × (Nat × Nat × (Nat → Int32))
abbrev GL.ac (L : GL) : Nat → ClassId := L.2.2.2.1
abbrev GL.b0 (L : GL) : Nat := L.2.2.2.2.1
/-- the script: its address, its length, its ints -/
abbrev GL.scr (L : GL) : Nat × Nat × (Nat → Int32) := L.2.2.2.2.2
abbrev GL.D (L : GL) : va_G := (L.2.1, L.2.2.1)
abbrev gTy (L : GL) : List (ClassId × FieldType) := [(L.ac 0, .int), (L.ac 1, .long), (L.ac 2, .char), (L.ac 3, .int), (L.ac 4, .object "PellMills$Power"), (L.ac 5, .object "PellMills$State")]
def gA (L : GL) : Nat → Prop := fun q => L.b0 ≤ q
def gStr : List (String × Nat × String) := [("PellMills", 190, "there is no snapshot"), ("PellMills", 201, "the history is empty"), ("PellMills", 238, "the number is not from 2 to 60"), ("PellMills", 245, "the stone is not laid"), ("PellMills", 128, "no stone has this number or one above it"), ("PellMills", 159, "the place is below 0"), ("PellMills", 168, "there are not so many solutions"), ("PellMills", 176, "the bound is not from 0 to 1000000000000000"), ("PellMills", 243, "the number is a square"), ("PellMills", 148, "the stone stands at the power 0"), ("PellMills", 101, "the place is not from 0 to 99"), ("PellMills", 253, "the stone does not allow it"), ("PellMills", 203, "the character is not from 32 to 126"), ("PellMills", 209, "the text has 60 characters"), ("PellMills", 247, "the text has no fault"), ("PellMills", 230, "the text has a fault")]
abbrev eIAE : String := "java/lang/IllegalArgumentException"
abbrev eISE : String := "java/lang/IllegalStateException"
abbrev eNSE : String := "java/util/NoSuchElementException"
def gK (L : GL) (U : State) : Prop :=
  va_K L.D vwCl (gTy L) U ∧ vx_Zq Bundle.tN "UNASSIGNED_STACK" Bundle.steD (gA L) U U.heap ∧ vx_Zq Bundle.tN "SUPPRESSED_SENTINEL" Bundle.listD (gA L) U U.heap ∧
  (∀ q ∈ gStr, ∃ a, vk_R q.1 q.2.1 q.2.2 a U) ∧ (∀ w ∈ BW, va_Nw w U) ∧ (va_Nc eISE eIAE U ∧ va_Nc eNSE eIAE U) ∧ (L.b0 ≤ U.heap.size ∧ L.scr.1 < L.b0 ∧ va_X L.scr.1 L.scr.2.1 L.scr.2.2 U U.heap) ∧ (va_AO "PellMills$Power" U ∧ va_AO "PellMills$State" U) ∧ L.1.stackTraces = false
def gw (ad : Nat → Nat) (N : Nat) (G : Nat → va_E) : va_W := (List.range N).map (fun k => (ad k, G k))
theorem gw_get {ad : Nat → Nat} {N k : Nat} {G : Nat → va_E} (hk : k < N) : (gw ad N G)[k]? = some (ad k, G k) := by
  simp [gw, List.getElem?_map, List.getElem?_range hk]
theorem gw_get' {ad : Nat → Nat} {N k : Nat} {G : Nat → va_E} {e : va_E} (hk : k < N) (he : G k = e) : (gw ad N G)[k]? = some (ad k, e) := he ▸ gw_get hk
theorem gw_len {ad : Nat → Nat} {N : Nat} {G : Nat → va_E} : (gw ad N G).length = N := by simp [gw]
theorem gw_some {ad : Nat → Nat} {N k : Nat} {G : Nat → va_E} {q : Nat × va_E} (h : (gw ad N G)[k]? = some q) : k < N ∧ q = (ad k, G k) := by
  have hk : k < N := by
    have := (List.getElem?_eq_some_iff.mp h).1
    rwa [gw_len] at this
  exact ⟨hk, (Option.some.inj ((gw_get hk).symm.trans h)).symm⟩
theorem gw_set {ad : Nat → Nat} {N k : Nat} {G : Nat → va_E} {e : va_E} (hk : k < N) : (gw ad N G).set k (ad k, e) = gw ad N (va_up G k e) := by
  apply List.ext_getElem?
  intro i
  by_cases hi : i < N
  · by_cases hik : i = k
    · subst hik
      rw [List.getElem?_set_self (by rw [gw_len]; exact hi), gw_get hi]
      simp [va_up]
    · rw [List.getElem?_set_ne (Ne.symm hik), gw_get hi, gw_get hi]
      simp [va_up, hik]
  · rw [List.getElem?_eq_none (by rw [List.length_set, gw_len]; omega), List.getElem?_eq_none (by rw [gw_len]; omega)]
theorem gw_push {ad : Nat → Nat} {N q : Nat} {G : Nat → va_E} {e : va_E} : gw ad N G ++ [(q, e)] = gw (va_up ad N q) (N + 1) (va_up G N e) := by
  apply List.ext_getElem?
  intro i
  by_cases hi : i < N
  · rw [List.getElem?_append_left (by rw [gw_len]; exact hi), gw_get hi, gw_get (by omega)]
    simp [va_up, Nat.ne_of_lt hi]
  · by_cases hN : i = N
    · subst hN
      rw [List.getElem?_append_right (by rw [gw_len]; exact Nat.le_refl _), gw_len, Nat.sub_self, gw_get (by omega)]
      simp [va_up]
    · rw [List.getElem?_eq_none (by simp [gw_len]; omega), List.getElem?_eq_none (by rw [gw_len]; omega)]
def gD (L : GL) (ad : Nat → Nat) (N : Nat) : Prop := (∀ i j : Nat, i < N → j < N → ad i = ad j → i = j) ∧ ∀ i : Nat, i < N → L.b0 ≤ ad i
theorem gD.va {L : GL} {ad : Nat → Nat} {N : Nat} (h : gD L ad N) (G : Nat → va_E) : va_D (gA L) (gw ad N G) := by
  refine ⟨fun i j p q hi hj e => ?_, fun k q hk => ?_⟩
  · obtain ⟨h1, rfl⟩ := gw_some hi
    obtain ⟨h2, rfl⟩ := gw_some hj
    exact h.1 i j h1 h2 e
  · obtain ⟨h1, rfl⟩ := gw_some hk
    exact h.2 k h1
theorem gD.of {L : GL} {ad : Nat → Nat} {N : Nat} {G : Nat → va_E} (h : va_D (gA L) (gw ad N G)) : gD L ad N :=
  ⟨fun i j hi hj e => h.1 i j _ _ (gw_get hi) (gw_get hj) e, fun i hi => h.2 i _ (gw_get hi)⟩
/-- the picture: heap and tables of U -/
def gS (L : GL) (N : Nat) (ad : Nat → Nat) (G : Nat → va_E) (U : State) : Prop := va_P L.D vwCl (gw ad N G) U.heap ∧ gD L ad N ∧ gK L U
theorem gK.same {L : GL} {u U : State} (hv : u.vm = U.vm) (hh : u.heap = U.heap) (h : gK L u) : gK L U := by
  obtain ⟨h1, h2, h3, h4, h5, h6, h7, h8, h9⟩ := h
  have hal : u.vm.Alike U.vm := hv ▸ Vm.Alike.refl u.vm
  refine ⟨h1.moved hal, hh ▸ h2.moved hal, hh ▸ h3.moved hal, fun q hq => ?_, fun w hw => ?_, ⟨h6.1.moved hal, h6.2.moved hal⟩, ⟨hh ▸ h7.1, h7.2.1, hh ▸ (h7.2.2.moved hal)⟩, ⟨h8.1.moved hal, h8.2.moved hal⟩, h9⟩
  · obtain ⟨a, ha⟩ := h4 q hq
    exact ⟨a, vk_R.same hv.symm ha⟩
  · have hg : cnWord w = true := (List.mem_filter.mp hw).2
    exact va_Nw.same (by cases w <;> first | rfl | exact absurd hg Bool.false_ne_true) hv (h5 w hw)
theorem cn_warm {w : Cond} {s U : State} (hg : cnWord w = true) (hW : s.WarmedH U.vm) (h : va_Nw w s) : va_Nw w U := by
  cases w <;> first | exact va_Nw.warmC hW h | exact va_Nw.warmM hW h | exact va_Nw.warmD hW h | exact absurd hg Bool.false_ne_true
theorem gK.warm {L : GL} {s U : State} (hW : s.WarmedH U.vm) (hz : s.heap.size ≤ U.heap.size) (hk : ∀ q : Nat, q < s.heap.size → ¬ gA L q → U.heap[q]? = s.heap[q]?) (h : gK L s) : gK L U := by
  obtain ⟨h1, h2, h3, h4, h5, h6, h7, h8, h9⟩ := h
  have hal : s.vm.Alike U.vm := hW.alike
  refine ⟨h1.moved hal, (h2.kept hk).moved hal, (h3.kept hk).moved hal, fun q hq => ?_, fun w hw => cn_warm (List.mem_filter.mp hw).2 hW (h5 w hw), ⟨h6.1.moved hal, h6.2.moved hal⟩, ⟨Nat.le_trans h7.1 hz, h7.2.1, (h7.2.2.kept (hk _ (Nat.lt_of_lt_of_le h7.2.1 h7.1) (fun z => absurd z (Nat.not_le.mpr h7.2.1)))).moved hal⟩, ⟨h8.1.moved hal, h8.2.moved hal⟩, h9⟩
  obtain ⟨a, ha⟩ := h4 q hq
  exact ⟨a, vk_R.warm hW ha⟩
theorem gS.blind {L : GL} {N : Nat} {ad : Nat → Nat} {G : Nat → va_E} {av : List Value} : FrameBlind (va_Pc av (gS L N ad G)) := fun a U g mk q => ⟨q.1, q.2.1, q.2.2.1, gK.same (u := U) (U := U.calling g mk a) rfl rfl q.2.2.2⟩
def gQ (L : GL) (N : Nat) (ad : Nat → Nat) (Q : Option Value → (Nat → va_E) → Prop) : Array Value → State → Outcome → State → Prop := fun _ st oc t => (∃ v G', oc = .returned v ∧ Q v G' ∧ va_P L.D vwCl (gw ad N G') t.heap) ∧ va_F (gA L) st t
def gQn (L : GL) (Q : Nat → (Nat → Nat) → (Nat → va_E) → Prop) : Array Value → State → Outcome → State → Prop := fun _ st oc t => (∃ N' ad' G', oc = .returned none ∧ Q N' ad' G' ∧ gD L ad' N' ∧ va_P L.D vwCl (gw ad' N' G') t.heap) ∧ va_F (gA L) st t
def gX (L : GL) (N : Nat) (ad : Nat → Nat) (X : String → (Nat → va_E) → Prop) : String → State → State → Prop := fun E st t => ∃ G', X E G' ∧ va_P L.D vwCl (gw ad N G') t.heap ∧ va_F (gA L) st t
/-- a method's contract: from the heap G it returns v and leaves G', with Q v G' -/
def GM (L : GL) (y : MethodName) (cc : ByteArray) (maxL : Nat) (ret : Option FieldType) (rm : Room) (N : Nat) (ad : Nat → Nat) (G : Nat → va_E) (av : List Value) (Q : Option Value → (Nat → va_E) → Prop) : Prop :=
  Met L.1 y (.code y cc maxL ret :: AW) rm (va_Pc av (gS L N ad G)) (gQ L N ad Q) rm.cells rm.slots (gA L)
/-- .. of a constructor that makes cells -/
def GN (L : GL) (y : MethodName) (cc : ByteArray) (maxL : Nat) (rm : Room) (N : Nat) (ad : Nat → Nat) (G : Nat → va_E) (av : List Value) (Q : Nat → (Nat → Nat) → (Nat → va_E) → Prop) : Prop :=
  Met L.1 y (.code y cc maxL none :: AW) rm (va_Pc av (gS L N ad G)) (gQn L Q) rm.cells rm.slots (gA L)
/-- .. of one that may throw E, leaving G', with X E G' -/
def GX (L : GL) (y : MethodName) (cc : ByteArray) (maxL : Nat) (ret : Option FieldType) (rm : Room) (N : Nat) (ad : Nat → Nat) (G : Nat → va_E) (av : List Value) (Q : Option Value → (Nat → va_E) → Prop) (X : String → (Nat → va_E) → Prop) : Prop :=
  vx_Met L.1 y (.code y cc maxL ret :: AW) rm (va_Pc av (gS L N ad G)) (gQ L N ad Q) (gX L N ad X) rm.cells rm.slots (gA L)
/-- a method's own frame: program, environment, room, start, method, arguments, below, method and code, what is owed, number of locals -/
abbrev GE : Type := Program × Env × Room × State × MethodId × Array Value × List Frame × Method × Code × (State → Prop) × Nat
abbrev GE.p (E : GE) := E.1
abbrev GE.e (E : GE) := E.2.1
abbrev GE.R (E : GE) := E.2.2.1
abbrev GE.s (E : GE) := E.2.2.2.1
abbrev GE.m (E : GE) := E.2.2.2.2.1
abbrev GE.args (E : GE) := E.2.2.2.2.2.1
abbrev GE.below (E : GE) := E.2.2.2.2.2.2.1
abbrev GE.meth (E : GE) := E.2.2.2.2.2.2.2.1
abbrev GE.c (E : GE) := E.2.2.2.2.2.2.2.2.1
abbrev GE.Q (E : GE) := E.2.2.2.2.2.2.2.2.2.1
abbrev GE.nL (E : GE) := E.2.2.2.2.2.2.2.2.2.2
abbrev GV (L : GL) (E : GE) (H : Heap) (locs : List Loc) (cells slots : Nat) (g : JFrame) : Prop := W E.p L.1 E.e E.R E.s E.m E.args E.below E.meth E.c H locs cells slots E.Q g
/-- the machine goes on to what is owed from pc, with these locals and this stack, over the heap G -/
def GW (L : GL) (E : GE) (N : Nat) (ad : Nat → Nat) (G : Nat → va_E) (cells slots : Nat) (pc : Nat) (lo : List (Nat × Value)) (st : List Value) : Prop :=
  gD L ad N → ∀ (H : Heap) (locs : List Loc) (ls : Array Slot), lv_has ls E.nL lo → va_P L.D vwCl (gw ad N G) H → va_S (gA L) E.s.heap H locs → GV L E H locs cells slots (F0 E.m pc ls st)
def gC (L : GL) (E : GE) (cc : ByteArray) (own : String) (nL : Nat) (R : Room) : Prop :=
  E.p.tables.exec = Jvm.exec ∧ E.c.code = cc ∧ E.c.maxLocals = E.nL ∧ E.nL = nL ∧ E.R = R ∧ E.s.vm.findClass own = some E.m.cls ∧ (∀ w ∈ AW, w.before E.args E.s = true) ∧ gK L E.s ∧ E.meth.locks = false
def lkp : List (Nat × Value) → Nat → Option Value
  | [], _ => none
  | (i, v) :: l, k => bif Nat.beq i k then some v else lkp l k
theorem lkp_mem : ∀ {l : List (Nat × Value)} {k : Nat} {v : Value}, lkp l k = some v → (k, v) ∈ l
  | (i, u) :: l, k, v, h => by
    unfold lkp at h
    cases hb : Nat.beq i k with
    | true =>
      rw [hb] at h
      have hi : i = k := Nat.eq_of_beq_eq_true hb
      subst hi
      have : u = v := Option.some.inj h
      subst this
      exact List.mem_cons_self
    | false =>
      rw [hb] at h
      exact List.mem_cons_of_mem _ (lkp_mem h)
theorem lkp_at {ls : Array Slot} {nL : Nat} {l : List (Nat × Value)} {k : Nat} {v : Value} (h : lv_has ls nL l) (hk : lkp l k = some v) : ls[k]? = some (.val v) := h.2.2 (k, v) (lkp_mem hk)
theorem GW.eqG {L : GL} {E : GE} {N : Nat} {ad : Nat → Nat} {G G' : Nat → va_E} {a b pc : Nat} {lo : List (Nat × Value)} {st : List Value} (h : G = G') (k : GW L E N ad G' a b pc lo st) : GW L E N ad G a b pc lo st := h ▸ k
section GR
variable {L : GL} {E : GE} {cc : ByteArray} {own : String} {nL N cs ss pc : Nat} {R : Room} {ad : Nat → Nat} {G : Nat → va_E} {lo : List (Nat × Value)} {st : List Value}
theorem GW.sub (lo' : List (Nat × Value)) (h : ∀ q ∈ lo', q ∈ lo) (k : GW L E N ad G cs ss pc lo' st) : GW L E N ad G cs ss pc lo st :=
  fun hD H locs ls hl hP hS => k hD H locs ls ⟨hl.1, hl.2.1, fun q hq => hl.2.2 q (h q hq)⟩ hP hS
theorem GW.widen {c1 s1 : Nat} (h1 : cs ≤ c1) (h2 : ss ≤ s1) (k : GW L E N ad G c1 s1 pc lo st) : GW L E N ad G cs ss pc lo st :=
  fun hD H locs ls hl hP hS => W.widen h1 h2 (k hD H locs ls hl hP hS)
theorem GW.topi {x : Int32} (k : ∀ y : Int32, y = x → GW L E N ad G cs ss pc lo (.int y :: st)) : GW L E N ad G cs ss pc lo (.int x :: st) := k x rfl
theorem GW.topl {x : Int64} (k : ∀ y : Int64, y = x → GW L E N ad G cs ss pc lo (.long y :: st)) : GW L E N ad G cs ss pc lo (.long x :: st) := k x rfl

theorem G_iload_n (C : gC L E cc own nL R) {k : Fin 4} (i : Nat) {x : Int32} (hdg : decode cc pc = .ok (.iload_n k, 1)) (hi : (k : Nat) = i) (hk : lkp lo i = some (.int x)) (kk : GW L E N ad G cs ss (pc + 1) lo (.int x :: st)) : GW L E N ad G cs ss pc lo st :=
  fun hD H locs ls hl hP hS => lv_iload_n C.1 C.2.1 hdg hi (lkp_at hl hk) (kk hD H locs ls hl hP hS)
theorem G_iload (C : gC L E cc own nL R) {i : Nat} {x : Int32} (hdg : decode cc pc = .ok (.iload i, 2)) (hk : lkp lo i = some (.int x)) (kk : GW L E N ad G cs ss (pc + 2) lo (.int x :: st)) : GW L E N ad G cs ss pc lo st :=
  fun hD H locs ls hl hP hS => lv_iload C.1 C.2.1 hdg (lkp_at hl hk) (kk hD H locs ls hl hP hS)
theorem G_lload_n (C : gC L E cc own nL R) {k : Fin 4} (i : Nat) {x : Int64} (hdg : decode cc pc = .ok (.lload_n k, 1)) (hi : (k : Nat) = i) (hk : lkp lo i = some (.long x)) (kk : GW L E N ad G cs ss (pc + 1) lo (.long x :: st)) : GW L E N ad G cs ss pc lo st :=
  fun hD H locs ls hl hP hS => lv_lload_n C.1 C.2.1 hdg hi (lkp_at hl hk) (kk hD H locs ls hl hP hS)
theorem G_lload (C : gC L E cc own nL R) {i : Nat} {x : Int64} (hdg : decode cc pc = .ok (.lload i, 2)) (hk : lkp lo i = some (.long x)) (kk : GW L E N ad G cs ss (pc + 2) lo (.long x :: st)) : GW L E N ad G cs ss pc lo st :=
  fun hD H locs ls hl hP hS => lv_lload C.1 C.2.1 hdg (lkp_at hl hk) (kk hD H locs ls hl hP hS)
theorem G_aload_n (C : gC L E cc own nL R) {k : Fin 4} (i : Nat) {x : Nat} (hdg : decode cc pc = .ok (.aload_n k, 1)) (hi : (k : Nat) = i) (hk : lkp lo i = some (.ref x)) (kk : GW L E N ad G cs ss (pc + 1) lo (.ref x :: st)) : GW L E N ad G cs ss pc lo st :=
  fun hD H locs ls hl hP hS => lv_aload_n C.1 C.2.1 hdg hi (lkp_at hl hk) (kk hD H locs ls hl hP hS)
theorem G_aload (C : gC L E cc own nL R) {i : Nat} {x : Nat} (hdg : decode cc pc = .ok (.aload i, 2)) (hk : lkp lo i = some (.ref x)) (kk : GW L E N ad G cs ss (pc + 2) lo (.ref x :: st)) : GW L E N ad G cs ss pc lo st :=
  fun hD H locs ls hl hP hS => lv_aload C.1 C.2.1 hdg (lkp_at hl hk) (kk hD H locs ls hl hP hS)
theorem G_fload_n (C : gC L E cc own nL R) {k : Fin 4} (i : Nat) {x : UInt32} (hdg : decode cc pc = .ok (.fload_n k, 1)) (hi : (k : Nat) = i) (hk : lkp lo i = some (.float x)) (kk : GW L E N ad G cs ss (pc + 1) lo (.float x :: st)) : GW L E N ad G cs ss pc lo st :=
  fun hD H locs ls hl hP hS => lv_fload_n C.1 C.2.1 hdg hi (lkp_at hl hk) (kk hD H locs ls hl hP hS)
theorem G_fload (C : gC L E cc own nL R) {i : Nat} {x : UInt32} (hdg : decode cc pc = .ok (.fload i, 2)) (hk : lkp lo i = some (.float x)) (kk : GW L E N ad G cs ss (pc + 2) lo (.float x :: st)) : GW L E N ad G cs ss pc lo st :=
  fun hD H locs ls hl hP hS => lv_fload C.1 C.2.1 hdg (lkp_at hl hk) (kk hD H locs ls hl hP hS)
theorem G_dload_n (C : gC L E cc own nL R) {k : Fin 4} (i : Nat) {x : UInt64} (hdg : decode cc pc = .ok (.dload_n k, 1)) (hi : (k : Nat) = i) (hk : lkp lo i = some (.double x)) (kk : GW L E N ad G cs ss (pc + 1) lo (.double x :: st)) : GW L E N ad G cs ss pc lo st :=
  fun hD H locs ls hl hP hS => lv_dload_n C.1 C.2.1 hdg hi (lkp_at hl hk) (kk hD H locs ls hl hP hS)
theorem G_dload (C : gC L E cc own nL R) {i : Nat} {x : UInt64} (hdg : decode cc pc = .ok (.dload i, 2)) (hk : lkp lo i = some (.double x)) (kk : GW L E N ad G cs ss (pc + 2) lo (.double x :: st)) : GW L E N ad G cs ss pc lo st :=
  fun hD H locs ls hl hP hS => lv_dload C.1 C.2.1 hdg (lkp_at hl hk) (kk hD H locs ls hl hP hS)
theorem G_aload_nN (C : gC L E cc own nL R) {k : Fin 4} (i : Nat) (hdg : decode cc pc = .ok (.aload_n k, 1)) (hi : (k : Nat) = i) (hk : lkp lo i = some .null) (kk : GW L E N ad G cs ss (pc + 1) lo (.null :: st)) : GW L E N ad G cs ss pc lo st :=
  fun hD H locs ls hl hP hS => lv_aload_nN C.1 C.2.1 hdg hi (lkp_at hl hk) (kk hD H locs ls hl hP hS)
theorem G_istore_n (C : gC L E cc own nL R) {k : Fin 4} (i : Nat) {x : Int32} {lo' : List (Nat × Value)} (hdg : decode cc pc = .ok (.istore_n k, 1)) (hi : (k : Nat) = i) (hn : i < nL) (hlo : (i, Value.int x) :: lo.filter (fun q => !(q.1 == i) && !(q.1 + 1 == i && q.2.category == 2)) = lo') (kk : GW L E N ad G cs ss (pc + 1) lo' st) : GW L E N ad G cs ss pc lo (.int x :: st) :=
  fun hD H locs ls hl hP hS => lv_istore_n C.1 C.2.1 hdg hi hl (by rw [C.2.2.2.1]; exact hn) hlo (fun ls hl => kk hD H locs ls hl hP hS)
theorem G_istore (C : gC L E cc own nL R) {i : Nat} {x : Int32} {lo' : List (Nat × Value)} (hdg : decode cc pc = .ok (.istore i, 2)) (hn : i < nL) (hlo : (i, Value.int x) :: lo.filter (fun q => !(q.1 == i) && !(q.1 + 1 == i && q.2.category == 2)) = lo') (kk : GW L E N ad G cs ss (pc + 2) lo' st) : GW L E N ad G cs ss pc lo (.int x :: st) :=
  fun hD H locs ls hl hP hS => lv_istore C.1 C.2.1 hdg hl (by rw [C.2.2.2.1]; exact hn) hlo (fun ls hl => kk hD H locs ls hl hP hS)
theorem G_astore_n (C : gC L E cc own nL R) {k : Fin 4} (i : Nat) {x : Nat} {lo' : List (Nat × Value)} (hdg : decode cc pc = .ok (.astore_n k, 1)) (hi : (k : Nat) = i) (hn : i < nL) (hlo : (i, Value.ref x) :: lo.filter (fun q => !(q.1 == i) && !(q.1 + 1 == i && q.2.category == 2)) = lo') (kk : GW L E N ad G cs ss (pc + 1) lo' st) : GW L E N ad G cs ss pc lo (.ref x :: st) :=
  fun hD H locs ls hl hP hS => lv_astore_n C.1 C.2.1 hdg hi hl (by rw [C.2.2.2.1]; exact hn) hlo (fun ls hl => kk hD H locs ls hl hP hS)
theorem G_astore (C : gC L E cc own nL R) {i : Nat} {x : Nat} {lo' : List (Nat × Value)} (hdg : decode cc pc = .ok (.astore i, 2)) (hn : i < nL) (hlo : (i, Value.ref x) :: lo.filter (fun q => !(q.1 == i) && !(q.1 + 1 == i && q.2.category == 2)) = lo') (kk : GW L E N ad G cs ss (pc + 2) lo' st) : GW L E N ad G cs ss pc lo (.ref x :: st) :=
  fun hD H locs ls hl hP hS => lv_astore C.1 C.2.1 hdg hl (by rw [C.2.2.2.1]; exact hn) hlo (fun ls hl => kk hD H locs ls hl hP hS)
theorem G_fstore_n (C : gC L E cc own nL R) {k : Fin 4} (i : Nat) {x : UInt32} {lo' : List (Nat × Value)} (hdg : decode cc pc = .ok (.fstore_n k, 1)) (hi : (k : Nat) = i) (hn : i < nL) (hlo : (i, Value.float x) :: lo.filter (fun q => !(q.1 == i) && !(q.1 + 1 == i && q.2.category == 2)) = lo') (kk : GW L E N ad G cs ss (pc + 1) lo' st) : GW L E N ad G cs ss pc lo (.float x :: st) :=
  fun hD H locs ls hl hP hS => lv_fstore_n C.1 C.2.1 hdg hi hl (by rw [C.2.2.2.1]; exact hn) hlo (fun ls hl => kk hD H locs ls hl hP hS)
theorem G_fstore (C : gC L E cc own nL R) {i : Nat} {x : UInt32} {lo' : List (Nat × Value)} (hdg : decode cc pc = .ok (.fstore i, 2)) (hn : i < nL) (hlo : (i, Value.float x) :: lo.filter (fun q => !(q.1 == i) && !(q.1 + 1 == i && q.2.category == 2)) = lo') (kk : GW L E N ad G cs ss (pc + 2) lo' st) : GW L E N ad G cs ss pc lo (.float x :: st) :=
  fun hD H locs ls hl hP hS => lv_fstore C.1 C.2.1 hdg hl (by rw [C.2.2.2.1]; exact hn) hlo (fun ls hl => kk hD H locs ls hl hP hS)
theorem G_lstore_n (C : gC L E cc own nL R) {k : Fin 4} (i : Nat) {x : Int64} {lo' : List (Nat × Value)} (hdg : decode cc pc = .ok (.lstore_n k, 1)) (hi : (k : Nat) = i) (hn : i + 1 < nL) (hlo : (i, Value.long x) :: lo.filter (fun q => !(q.1 == i) && (!(q.1 == i + 1) && !(q.1 + 1 == i && q.2.category == 2))) = lo') (kk : GW L E N ad G cs ss (pc + 1) lo' st) : GW L E N ad G cs ss pc lo (.long x :: st) :=
  fun hD H locs ls hl hP hS => lv_lstore_n C.1 C.2.1 hdg hi hl (by rw [C.2.2.2.1]; exact hn) hlo (fun ls hl => kk hD H locs ls hl hP hS)
theorem G_lstore (C : gC L E cc own nL R) {i : Nat} {x : Int64} {lo' : List (Nat × Value)} (hdg : decode cc pc = .ok (.lstore i, 2)) (hn : i + 1 < nL) (hlo : (i, Value.long x) :: lo.filter (fun q => !(q.1 == i) && (!(q.1 == i + 1) && !(q.1 + 1 == i && q.2.category == 2))) = lo') (kk : GW L E N ad G cs ss (pc + 2) lo' st) : GW L E N ad G cs ss pc lo (.long x :: st) :=
  fun hD H locs ls hl hP hS => lv_lstore C.1 C.2.1 hdg hl (by rw [C.2.2.2.1]; exact hn) hlo (fun ls hl => kk hD H locs ls hl hP hS)
theorem G_dstore_n (C : gC L E cc own nL R) {k : Fin 4} (i : Nat) {x : UInt64} {lo' : List (Nat × Value)} (hdg : decode cc pc = .ok (.dstore_n k, 1)) (hi : (k : Nat) = i) (hn : i + 1 < nL) (hlo : (i, Value.double x) :: lo.filter (fun q => !(q.1 == i) && (!(q.1 == i + 1) && !(q.1 + 1 == i && q.2.category == 2))) = lo') (kk : GW L E N ad G cs ss (pc + 1) lo' st) : GW L E N ad G cs ss pc lo (.double x :: st) :=
  fun hD H locs ls hl hP hS => lv_dstore_n C.1 C.2.1 hdg hi hl (by rw [C.2.2.2.1]; exact hn) hlo (fun ls hl => kk hD H locs ls hl hP hS)
theorem G_dstore (C : gC L E cc own nL R) {i : Nat} {x : UInt64} {lo' : List (Nat × Value)} (hdg : decode cc pc = .ok (.dstore i, 2)) (hn : i + 1 < nL) (hlo : (i, Value.double x) :: lo.filter (fun q => !(q.1 == i) && (!(q.1 == i + 1) && !(q.1 + 1 == i && q.2.category == 2))) = lo') (kk : GW L E N ad G cs ss (pc + 2) lo' st) : GW L E N ad G cs ss pc lo (.double x :: st) :=
  fun hD H locs ls hl hP hS => lv_dstore C.1 C.2.1 hdg hl (by rw [C.2.2.2.1]; exact hn) hlo (fun ls hl => kk hD H locs ls hl hP hS)
theorem G_astore_nN (C : gC L E cc own nL R) {k : Fin 4} (i : Nat) {lo' : List (Nat × Value)} (hdg : decode cc pc = .ok (.astore_n k, 1)) (hi : (k : Nat) = i) (hn : i < nL) (hlo : (i, Value.null) :: lo.filter (fun q => !(q.1 == i) && !(q.1 + 1 == i && q.2.category == 2)) = lo') (kk : GW L E N ad G cs ss (pc + 1) lo' st) : GW L E N ad G cs ss pc lo (.null :: st) :=
  fun hD H locs ls hl hP hS => lv_astore_nN C.1 C.2.1 hdg hi hl (by rw [C.2.2.2.1]; exact hn) hlo (fun ls hl => kk hD H locs ls hl hP hS)
theorem G_iinc (C : gC L E cc own nL R) {i : Nat} {n : Int} {x v : Int32} {lo' : List (Nat × Value)} (hdg : decode cc pc = .ok (.iinc i n, 3)) (hk : lkp lo i = some (.int x)) (hv : x + Int32.ofInt n = v) (hn : i < nL) (hlo : (i, Value.int v) :: lo.filter (fun q => !(q.1 == i) && !(q.1 + 1 == i && q.2.category == 2)) = lo') (kk : GW L E N ad G cs ss (pc + 3) lo' st) : GW L E N ad G cs ss pc lo st := by
  intro hD H locs ls hl hP hS
  obtain ⟨k, hk2⟩ := List.getElem?_of_mem (lkp_mem hk)
  exact lv_iinc C.1 C.2.1 hdg hl hk2 hv (by rw [C.2.2.2.1]; exact hn) hlo (fun ls hl => kk hD H locs ls hl hP hS)
theorem G_iconst (C : gC L E cc own nL R) {n : Int} {v : Int32} (hdg : decode cc pc = .ok (.iconst n, 1)) (hv : Int32.ofInt n = v) (kk : GW L E N ad G cs ss (pc + 1) lo (.int v :: st)) : GW L E N ad G cs ss pc lo st :=
  fun hD H locs ls hl hP hS => lv_iconst C.1 C.2.1 hdg hv (kk hD H locs ls hl hP hS)
theorem G_bipush (C : gC L E cc own nL R) {n : Int} {v : Int32} (hdg : decode cc pc = .ok (.bipush n, 2)) (hv : (Int8.ofInt n).toInt32 = v) (kk : GW L E N ad G cs ss (pc + 2) lo (.int v :: st)) : GW L E N ad G cs ss pc lo st :=
  fun hD H locs ls hl hP hS => lv_bipush C.1 C.2.1 hdg hv (kk hD H locs ls hl hP hS)
theorem G_sipush (C : gC L E cc own nL R) {n : Int} {v : Int32} (hdg : decode cc pc = .ok (.sipush n, 3)) (hv : (Int16.ofInt n).toInt32 = v) (kk : GW L E N ad G cs ss (pc + 3) lo (.int v :: st)) : GW L E N ad G cs ss pc lo st :=
  fun hD H locs ls hl hP hS => lv_sipush C.1 C.2.1 hdg hv (kk hD H locs ls hl hP hS)
theorem G_lconst (C : gC L E cc own nL R) {n : Fin 2} {v : Int64} (hdg : decode cc pc = .ok (.lconst n, 1)) (hv : Int64.ofNat (n : Nat) = v) (kk : GW L E N ad G cs ss (pc + 1) lo (.long v :: st)) : GW L E N ad G cs ss pc lo st :=
  fun hD H locs ls hl hP hS => lv_lconst C.1 C.2.1 hdg hv (kk hD H locs ls hl hP hS)
theorem G_fconst0 (C : gC L E cc own nL R)  (hdg : decode cc pc = .ok (.fconst 0, 1))  (kk : GW L E N ad G cs ss (pc + 1) lo (.float FP.fconst0 :: st)) : GW L E N ad G cs ss pc lo st :=
  fun hD H locs ls hl hP hS => lv_fconst0 C.1 C.2.1 hdg (kk hD H locs ls hl hP hS)
theorem G_iadd (C : gC L E cc own nL R) {x y : Int32} (hdg : decode cc pc = .ok (.iadd, 1))  (kk : GW L E N ad G cs ss (pc + 1) lo (.int (x + y) :: st)) : GW L E N ad G cs ss pc lo (.int y :: .int x :: st) :=
  fun hD H locs ls hl hP hS => lv_iadd C.1 C.2.1 hdg (kk hD H locs ls hl hP hS)
theorem G_isub (C : gC L E cc own nL R) {x y : Int32} (hdg : decode cc pc = .ok (.isub, 1))  (kk : GW L E N ad G cs ss (pc + 1) lo (.int (x - y) :: st)) : GW L E N ad G cs ss pc lo (.int y :: .int x :: st) :=
  fun hD H locs ls hl hP hS => lv_isub C.1 C.2.1 hdg (kk hD H locs ls hl hP hS)
theorem G_imul (C : gC L E cc own nL R) {x y : Int32} (hdg : decode cc pc = .ok (.imul, 1))  (kk : GW L E N ad G cs ss (pc + 1) lo (.int (x * y) :: st)) : GW L E N ad G cs ss pc lo (.int y :: .int x :: st) :=
  fun hD H locs ls hl hP hS => lv_imul C.1 C.2.1 hdg (kk hD H locs ls hl hP hS)
theorem G_iand (C : gC L E cc own nL R) {x y : Int32} (hdg : decode cc pc = .ok (.iand, 1))  (kk : GW L E N ad G cs ss (pc + 1) lo (.int (x &&& y) :: st)) : GW L E N ad G cs ss pc lo (.int y :: .int x :: st) :=
  fun hD H locs ls hl hP hS => lv_iand C.1 C.2.1 hdg (kk hD H locs ls hl hP hS)
theorem G_idiv (C : gC L E cc own nL R) {x y : Int32} (hdg : decode cc pc = .ok (.idiv, 1)) (hne : ¬ y = 0) (kk : GW L E N ad G cs ss (pc + 1) lo (.int (x / y) :: st)) : GW L E N ad G cs ss pc lo (.int y :: .int x :: st) :=
  fun hD H locs ls hl hP hS => lv_idiv C.1 C.2.1 hdg hne (kk hD H locs ls hl hP hS)
theorem G_irem (C : gC L E cc own nL R) {x y : Int32} (hdg : decode cc pc = .ok (.irem, 1)) (hne : ¬ y = 0) (kk : GW L E N ad G cs ss (pc + 1) lo (.int (x - x / y * y) :: st)) : GW L E N ad G cs ss pc lo (.int y :: .int x :: st) :=
  fun hD H locs ls hl hP hS => lv_irem C.1 C.2.1 hdg hne (kk hD H locs ls hl hP hS)
theorem G_ladd (C : gC L E cc own nL R) {x y : Int64} (hdg : decode cc pc = .ok (.ladd, 1))  (kk : GW L E N ad G cs ss (pc + 1) lo (.long (x + y) :: st)) : GW L E N ad G cs ss pc lo (.long y :: .long x :: st) :=
  fun hD H locs ls hl hP hS => lv_ladd C.1 C.2.1 hdg (kk hD H locs ls hl hP hS)
theorem G_lsub (C : gC L E cc own nL R) {x y : Int64} (hdg : decode cc pc = .ok (.lsub, 1))  (kk : GW L E N ad G cs ss (pc + 1) lo (.long (x - y) :: st)) : GW L E N ad G cs ss pc lo (.long y :: .long x :: st) :=
  fun hD H locs ls hl hP hS => lv_lsub C.1 C.2.1 hdg (kk hD H locs ls hl hP hS)
theorem G_lmul (C : gC L E cc own nL R) {x y : Int64} (hdg : decode cc pc = .ok (.lmul, 1))  (kk : GW L E N ad G cs ss (pc + 1) lo (.long (x * y) :: st)) : GW L E N ad G cs ss pc lo (.long y :: .long x :: st) :=
  fun hD H locs ls hl hP hS => lv_lmul C.1 C.2.1 hdg (kk hD H locs ls hl hP hS)
theorem G_land (C : gC L E cc own nL R) {x y : Int64} (hdg : decode cc pc = .ok (.land, 1))  (kk : GW L E N ad G cs ss (pc + 1) lo (.long (x &&& y) :: st)) : GW L E N ad G cs ss pc lo (.long y :: .long x :: st) :=
  fun hD H locs ls hl hP hS => lv_land C.1 C.2.1 hdg (kk hD H locs ls hl hP hS)
theorem G_lor (C : gC L E cc own nL R) {x y : Int64} (hdg : decode cc pc = .ok (.lor, 1))  (kk : GW L E N ad G cs ss (pc + 1) lo (.long (x ||| y) :: st)) : GW L E N ad G cs ss pc lo (.long y :: .long x :: st) :=
  fun hD H locs ls hl hP hS => lv_lor C.1 C.2.1 hdg (kk hD H locs ls hl hP hS)
theorem G_lxor (C : gC L E cc own nL R) {x y : Int64} (hdg : decode cc pc = .ok (.lxor, 1))  (kk : GW L E N ad G cs ss (pc + 1) lo (.long (x ^^^ y) :: st)) : GW L E N ad G cs ss pc lo (.long y :: .long x :: st) :=
  fun hD H locs ls hl hP hS => lv_lxor C.1 C.2.1 hdg (kk hD H locs ls hl hP hS)
theorem G_ldiv (C : gC L E cc own nL R) {x y : Int64} (hdg : decode cc pc = .ok (.ldiv, 1)) (hne : ¬ y = 0) (kk : GW L E N ad G cs ss (pc + 1) lo (.long (x / y) :: st)) : GW L E N ad G cs ss pc lo (.long y :: .long x :: st) :=
  fun hD H locs ls hl hP hS => lv_ldiv C.1 C.2.1 hdg hne (kk hD H locs ls hl hP hS)
theorem G_lrem (C : gC L E cc own nL R) {x y : Int64} (hdg : decode cc pc = .ok (.lrem, 1)) (hne : ¬ y = 0) (kk : GW L E N ad G cs ss (pc + 1) lo (.long (x - x / y * y) :: st)) : GW L E N ad G cs ss pc lo (.long y :: .long x :: st) :=
  fun hD H locs ls hl hP hS => lv_lrem C.1 C.2.1 hdg hne (kk hD H locs ls hl hP hS)
theorem G_lshl (C : gC L E cc own nL R) {x v : Int64} {y : Int32} (hdg : decode cc pc = .ok (.lshl, 1)) (hv : x <<< (y.toInt64 &&& 63) = v) (kk : GW L E N ad G cs ss (pc + 1) lo (.long v :: st)) : GW L E N ad G cs ss pc lo (.int y :: .long x :: st) :=
  fun hD H locs ls hl hP hS => lv_lshl C.1 C.2.1 hdg hv (kk hD H locs ls hl hP hS)
theorem G_i2l (C : gC L E cc own nL R) {x : Int32} {v : Int64} (hdg : decode cc pc = .ok (.i2l, 1)) (hv : x.toInt64 = v) (kk : GW L E N ad G cs ss (pc + 1) lo (.long v :: st)) : GW L E N ad G cs ss pc lo (.int x :: st) :=
  fun hD H locs ls hl hP hS => lv_i2l C.1 C.2.1 hdg hv (kk hD H locs ls hl hP hS)
theorem G_l2i (C : gC L E cc own nL R) {x : Int64} {v : Int32} (hdg : decode cc pc = .ok (.l2i, 1)) (hv : x.toInt32 = v) (kk : GW L E N ad G cs ss (pc + 1) lo (.int v :: st)) : GW L E N ad G cs ss pc lo (.long x :: st) :=
  fun hD H locs ls hl hP hS => lv_l2i C.1 C.2.1 hdg hv (kk hD H locs ls hl hP hS)
theorem G_i2c (C : gC L E cc own nL R) {x v : Int32} (hdg : decode cc pc = .ok (.i2c, 1)) (hv : (x.toUInt32 % 65536).toInt32 = v) (kk : GW L E N ad G cs ss (pc + 1) lo (.int v :: st)) : GW L E N ad G cs ss pc lo (.int x :: st) :=
  fun hD H locs ls hl hP hS => lv_i2c C.1 C.2.1 hdg hv (kk hD H locs ls hl hP hS)
theorem G_l2f (C : gC L E cc own nL R) {x : Int64} (hdg : decode cc pc = .ok (.l2f, 1))  (kk : GW L E N ad G cs ss (pc + 1) lo (.float (FP.l2f x) :: st)) : GW L E N ad G cs ss pc lo (.long x :: st) :=
  fun hD H locs ls hl hP hS => lv_l2f C.1 C.2.1 hdg (kk hD H locs ls hl hP hS)
theorem G_f2d (C : gC L E cc own nL R) {x : UInt32} (hdg : decode cc pc = .ok (.f2d, 1)) (hne : vf_n64 (FP.f2d x)) (kk : GW L E N ad G cs ss (pc + 1) lo (.double (FP.f2d x) :: st)) : GW L E N ad G cs ss pc lo (.float x :: st) :=
  fun hD H locs ls hl hP hS => lv_f2d C.1 C.2.1 hdg hne (kk hD H locs ls hl hP hS)
theorem G_fdiv (C : gC L E cc own nL R) {x y : UInt32} (hdg : decode cc pc = .ok (.fdiv, 1)) (hne : vf_n32 (FP.fdiv x y)) (kk : GW L E N ad G cs ss (pc + 1) lo (.float (FP.fdiv x y) :: st)) : GW L E N ad G cs ss pc lo (.float y :: .float x :: st) :=
  fun hD H locs ls hl hP hS => lv_fdiv C.1 C.2.1 hdg hne (kk hD H locs ls hl hP hS)
theorem G_dcmp (C : gC L E cc own nL R) {x y : UInt64} {op : CmpOp} (hdg : decode cc pc = .ok (.dcmp op, 1))  (kk : GW L E N ad G cs ss (pc + 1) lo (.int (Op.cmpValue (FP.dcmp x y) op) :: st)) : GW L E N ad G cs ss pc lo (.double y :: .double x :: st) :=
  fun hD H locs ls hl hP hS => lv_dcmp C.1 C.2.1 hdg (kk hD H locs ls hl hP hS)
theorem G_lcmp (C : gC L E cc own nL R) {x y : Int64} (hdg : decode cc pc = .ok (.lcmp, 1))  (kk : GW L E N ad G cs ss (pc + 1) lo (.int (lg_cmp x y) :: st)) : GW L E N ad G cs ss pc lo (.long y :: .long x :: st) :=
  fun hD H locs ls hl hP hS => W.lcmp C.1 C.2.1 hdg (kk hD H locs ls hl hP hS)
theorem G_dup (C : gC L E cc own nL R) {va : Value} (hdg : decode cc pc = .ok (.dup, 1)) (hva : va.category = 1) (kk : GW L E N ad G cs ss (pc + 1) lo (va :: va :: st)) : GW L E N ad G cs ss pc lo (va :: st) :=
  fun hD H locs ls hl hP hS => lv_dup C.1 C.2.1 hdg hva (kk hD H locs ls hl hP hS)
theorem G_dup2 (C : gC L E cc own nL R) {va vb : Value} (hdg : decode cc pc = .ok (.dup2, 1)) (hva : va.category = 1) (hvb : vb.category = 1) (kk : GW L E N ad G cs ss (pc + 1) lo (va :: vb :: va :: vb :: st)) : GW L E N ad G cs ss pc lo (va :: vb :: st) :=
  fun hD H locs ls hl hP hS => lv_dup2_11 C.1 C.2.1 hdg hva hvb (kk hD H locs ls hl hP hS)
theorem G_pop (C : gC L E cc own nL R) {va : Value} (hdg : decode cc pc = .ok (.pop, 1)) (hva : va.category = 1) (kk : GW L E N ad G cs ss (pc + 1) lo st) : GW L E N ad G cs ss pc lo (va :: st) :=
  fun hD H locs ls hl hP hS => lv_pop C.1 C.2.1 hdg hva (kk hD H locs ls hl hP hS)
theorem G_goto (C : gC L E cc own nL R) {off : Int} (tgt : Nat) (hdg : decode cc pc = .ok (.goto off, 3)) (ht : (pc : Int) + off = (tgt : Int)) (kk : GW L E N ad G cs ss tgt lo st) : GW L E N ad G cs ss pc lo st :=
  fun hD H locs ls hl hP hS => lv_goto C.1 C.2.1 hdg ht (kk hD H locs ls hl hP hS)
theorem G_null (C : gC L E cc own nL R)  (hdg : decode cc pc = .ok (.aconst_null, 1))  (kk : GW L E N ad G cs ss (pc + 1) lo (.null :: st)) : GW L E N ad G cs ss pc lo st :=
  fun hD H locs ls hl hP hS => lv_null C.1 C.2.1 hdg (kk hD H locs ls hl hP hS)
theorem G_nonnull (C : gC L E cc own nL R) {x : Nat} {off : Int} (tgt : Nat) (hdg : decode cc pc = .ok (.ifnonnull off, 3)) (ht : (pc : Int) + off = (tgt : Int)) (kk : GW L E N ad G cs ss tgt lo st) : GW L E N ad G cs ss pc lo (.ref x :: st) :=
  fun hD H locs ls hl hP hS => lv_ifnonnull C.1 C.2.1 hdg ht (kk hD H locs ls hl hP hS)
theorem G_nonnullN (C : gC L E cc own nL R) {off : Int} (hdg : decode cc pc = .ok (.ifnonnull off, 3))  (kk : GW L E N ad G cs ss (pc + 3) lo st) : GW L E N ad G cs ss pc lo (.null :: st) :=
  fun hD H locs ls hl hP hS => lv_ifnonnullN C.1 C.2.1 hdg (kk hD H locs ls hl hP hS)
theorem G_ldc (C : gC L E cc own nL R) {index : Nat} {v : Int32} (hdg : decode cc pc = .ok (.ldc index, 2)) (hw : Cond.constant own index v ∈ AW) (kk : GW L E N ad G cs ss (pc + 2) lo (.int v :: st)) : GW L E N ad G cs ss pc lo st :=
  fun hD H locs ls hl hP hS => lv_ldc C.1 C.2.1 C.2.2.2.2.2.1 (C.2.2.2.2.2.2.1 _ hw) hdg (kk hD H locs ls hl hP hS)
theorem G_ldcw (C : gC L E cc own nL R) {index : Nat} {v : Int32} (hdg : decode cc pc = .ok (.ldc_w index, 3)) (hw : Cond.constant own index v ∈ AW) (kk : GW L E N ad G cs ss (pc + 3) lo (.int v :: st)) : GW L E N ad G cs ss pc lo st :=
  fun hD H locs ls hl hP hS => lv_ldcw C.1 C.2.1 C.2.2.2.2.2.1 (C.2.2.2.2.2.2.1 _ hw) hdg (kk hD H locs ls hl hP hS)
theorem G_ldc2 (C : gC L E cc own nL R) {index : Nat} {v : Int64} (hdg : decode cc pc = .ok (.ldc2_w index, 3)) (hw : Cond.constantLong own index v ∈ AW) (kk : GW L E N ad G cs ss (pc + 3) lo (.long v :: st)) : GW L E N ad G cs ss pc lo st :=
  fun hD H locs ls hl hP hS => lv_ldc2 C.1 C.2.1 C.2.2.2.2.2.1 (C.2.2.2.2.2.2.1 _ hw) hdg (kk hD H locs ls hl hP hS)
theorem G_if_eq (C : gC L E cc own nL R) {x : Int32} {off : Int} (tgt : Nat) (hdg : decode cc pc = .ok (.ifCond .eq off, 3)) (ht : (pc : Int) + off = (tgt : Int)) (kt : x = 0 → GW L E N ad G cs ss tgt lo st) (kf : ¬ x = 0 → GW L E N ad G cs ss (pc + 3) lo st) : GW L E N ad G cs ss pc lo (.int x :: st) :=
  fun hD H locs ls hl hP hS => lv_if_eq C.1 C.2.1 hdg ht (fun h => kt h hD H locs ls hl hP hS) (fun h => kf h hD H locs ls hl hP hS)
theorem G_icmp_eq (C : gC L E cc own nL R) {x y : Int32} {off : Int} (tgt : Nat) (hdg : decode cc pc = .ok (.if_icmp .eq off, 3)) (ht : (pc : Int) + off = (tgt : Int)) (kt : x = y → GW L E N ad G cs ss tgt lo st) (kf : ¬ x = y → GW L E N ad G cs ss (pc + 3) lo st) : GW L E N ad G cs ss pc lo (.int y :: .int x :: st) :=
  fun hD H locs ls hl hP hS => lv_icmp_eq C.1 C.2.1 hdg ht (fun h => kt h hD H locs ls hl hP hS) (fun h => kf h hD H locs ls hl hP hS)
theorem G_if_ne (C : gC L E cc own nL R) {x : Int32} {off : Int} (tgt : Nat) (hdg : decode cc pc = .ok (.ifCond .ne off, 3)) (ht : (pc : Int) + off = (tgt : Int)) (kt : ¬ x = 0 → GW L E N ad G cs ss tgt lo st) (kf : x = 0 → GW L E N ad G cs ss (pc + 3) lo st) : GW L E N ad G cs ss pc lo (.int x :: st) :=
  fun hD H locs ls hl hP hS => lv_if_ne C.1 C.2.1 hdg ht (fun h => kt h hD H locs ls hl hP hS) (fun h => kf h hD H locs ls hl hP hS)
theorem G_icmp_ne (C : gC L E cc own nL R) {x y : Int32} {off : Int} (tgt : Nat) (hdg : decode cc pc = .ok (.if_icmp .ne off, 3)) (ht : (pc : Int) + off = (tgt : Int)) (kt : ¬ x = y → GW L E N ad G cs ss tgt lo st) (kf : x = y → GW L E N ad G cs ss (pc + 3) lo st) : GW L E N ad G cs ss pc lo (.int y :: .int x :: st) :=
  fun hD H locs ls hl hP hS => lv_icmp_ne C.1 C.2.1 hdg ht (fun h => kt h hD H locs ls hl hP hS) (fun h => kf h hD H locs ls hl hP hS)
theorem G_if_lt (C : gC L E cc own nL R) {x : Int32} {off : Int} (tgt : Nat) (hdg : decode cc pc = .ok (.ifCond .lt off, 3)) (ht : (pc : Int) + off = (tgt : Int)) (kt : x < 0 → GW L E N ad G cs ss tgt lo st) (kf : ¬ x < 0 → GW L E N ad G cs ss (pc + 3) lo st) : GW L E N ad G cs ss pc lo (.int x :: st) :=
  fun hD H locs ls hl hP hS => lv_if_lt C.1 C.2.1 hdg ht (fun h => kt h hD H locs ls hl hP hS) (fun h => kf h hD H locs ls hl hP hS)
theorem G_icmp_lt (C : gC L E cc own nL R) {x y : Int32} {off : Int} (tgt : Nat) (hdg : decode cc pc = .ok (.if_icmp .lt off, 3)) (ht : (pc : Int) + off = (tgt : Int)) (kt : x < y → GW L E N ad G cs ss tgt lo st) (kf : ¬ x < y → GW L E N ad G cs ss (pc + 3) lo st) : GW L E N ad G cs ss pc lo (.int y :: .int x :: st) :=
  fun hD H locs ls hl hP hS => lv_icmp_lt C.1 C.2.1 hdg ht (fun h => kt h hD H locs ls hl hP hS) (fun h => kf h hD H locs ls hl hP hS)
theorem G_if_ge (C : gC L E cc own nL R) {x : Int32} {off : Int} (tgt : Nat) (hdg : decode cc pc = .ok (.ifCond .ge off, 3)) (ht : (pc : Int) + off = (tgt : Int)) (kt : 0 ≤ x → GW L E N ad G cs ss tgt lo st) (kf : ¬ 0 ≤ x → GW L E N ad G cs ss (pc + 3) lo st) : GW L E N ad G cs ss pc lo (.int x :: st) :=
  fun hD H locs ls hl hP hS => lv_if_ge C.1 C.2.1 hdg ht (fun h => kt h hD H locs ls hl hP hS) (fun h => kf h hD H locs ls hl hP hS)
theorem G_icmp_ge (C : gC L E cc own nL R) {x y : Int32} {off : Int} (tgt : Nat) (hdg : decode cc pc = .ok (.if_icmp .ge off, 3)) (ht : (pc : Int) + off = (tgt : Int)) (kt : y ≤ x → GW L E N ad G cs ss tgt lo st) (kf : ¬ y ≤ x → GW L E N ad G cs ss (pc + 3) lo st) : GW L E N ad G cs ss pc lo (.int y :: .int x :: st) :=
  fun hD H locs ls hl hP hS => lv_icmp_ge C.1 C.2.1 hdg ht (fun h => kt h hD H locs ls hl hP hS) (fun h => kf h hD H locs ls hl hP hS)
theorem G_if_gt (C : gC L E cc own nL R) {x : Int32} {off : Int} (tgt : Nat) (hdg : decode cc pc = .ok (.ifCond .gt off, 3)) (ht : (pc : Int) + off = (tgt : Int)) (kt : 0 < x → GW L E N ad G cs ss tgt lo st) (kf : ¬ 0 < x → GW L E N ad G cs ss (pc + 3) lo st) : GW L E N ad G cs ss pc lo (.int x :: st) :=
  fun hD H locs ls hl hP hS => lv_if_gt C.1 C.2.1 hdg ht (fun h => kt h hD H locs ls hl hP hS) (fun h => kf h hD H locs ls hl hP hS)
theorem G_icmp_gt (C : gC L E cc own nL R) {x y : Int32} {off : Int} (tgt : Nat) (hdg : decode cc pc = .ok (.if_icmp .gt off, 3)) (ht : (pc : Int) + off = (tgt : Int)) (kt : y < x → GW L E N ad G cs ss tgt lo st) (kf : ¬ y < x → GW L E N ad G cs ss (pc + 3) lo st) : GW L E N ad G cs ss pc lo (.int y :: .int x :: st) :=
  fun hD H locs ls hl hP hS => lv_icmp_gt C.1 C.2.1 hdg ht (fun h => kt h hD H locs ls hl hP hS) (fun h => kf h hD H locs ls hl hP hS)
theorem G_if_le (C : gC L E cc own nL R) {x : Int32} {off : Int} (tgt : Nat) (hdg : decode cc pc = .ok (.ifCond .le off, 3)) (ht : (pc : Int) + off = (tgt : Int)) (kt : x ≤ 0 → GW L E N ad G cs ss tgt lo st) (kf : ¬ x ≤ 0 → GW L E N ad G cs ss (pc + 3) lo st) : GW L E N ad G cs ss pc lo (.int x :: st) :=
  fun hD H locs ls hl hP hS => lv_if_le C.1 C.2.1 hdg ht (fun h => kt h hD H locs ls hl hP hS) (fun h => kf h hD H locs ls hl hP hS)
theorem G_icmp_le (C : gC L E cc own nL R) {x y : Int32} {off : Int} (tgt : Nat) (hdg : decode cc pc = .ok (.if_icmp .le off, 3)) (ht : (pc : Int) + off = (tgt : Int)) (kt : x ≤ y → GW L E N ad G cs ss tgt lo st) (kf : ¬ x ≤ y → GW L E N ad G cs ss (pc + 3) lo st) : GW L E N ad G cs ss pc lo (.int y :: .int x :: st) :=
  fun hD H locs ls hl hP hS => lv_icmp_le C.1 C.2.1 hdg ht (fun h => kt h hD H locs ls hl hP hS) (fun h => kf h hD H locs ls hl hP hS)
theorem G_lookup (C : gC L E cc own nL R) {dflt : Int} {ps : Array (Int × Int)} {len : Nat} {x : Int32} {off : Int} (tgt : Nat) (hdg : decode cc pc = .ok (.lookupswitch dflt ps, len)) (hp : (ps.toList.zip (ps.toList.drop 1)).all (fun (a, next) => a.1 < next.1) = true) (ho : Op.lookupswitch.offset ps.toList dflt x.toInt = off) (ht : (pc : Int) + off = (tgt : Int)) (kk : GW L E N ad G cs ss tgt lo st) : GW L E N ad G cs ss pc lo (.int x :: st) :=
  fun hD H locs ls hl hP hS => lv_lookup C.1 C.2.1 hdg hp ho ht (kk hD H locs ls hl hP hS)
theorem G_tableIn (C : gC L E cc own nL R) {dflt lo0 hi : Int} {offs : Array Int} {len : Nat} {x : Int32} {off : Int} (tgt : Nat) (hdg : decode cc pc = .ok (.tableswitch dflt lo0 hi offs, len)) (h1 : ¬ x.toInt < lo0) (h2 : ¬ hi < x.toInt) (ho : offs[(x.toInt - lo0).toNat]? = some off) (ht : (pc : Int) + off = (tgt : Int)) (kk : GW L E N ad G cs ss tgt lo st) : GW L E N ad G cs ss pc lo (.int x :: st) :=
  fun hD H locs ls hl hP hS => lv_tableIn C.1 C.2.1 hdg h1 h2 ho ht (kk hD H locs ls hl hP hS)
theorem G_tableOut (C : gC L E cc own nL R) {dflt lo0 hi : Int} {offs : Array Int} {len : Nat} {x : Int32} (tgt : Nat) (hdg : decode cc pc = .ok (.tableswitch dflt lo0 hi offs, len)) (h : x.toInt < lo0 ∨ hi < x.toInt) (ht : (pc : Int) + dflt = (tgt : Int)) (kk : GW L E N ad G cs ss tgt lo st) : GW L E N ad G cs ss pc lo (.int x :: st) :=
  fun hD H locs ls hl hP hS => lv_tableOut C.1 C.2.1 hdg h ht (kk hD H locs ls hl hP hS)
theorem G_fcmp (C : gC L E cc own nL R) {x y : UInt32} {op : CmpOp} (hdg : decode cc pc = .ok (.fcmp op, 1))  (kk : GW L E N ad G cs ss (pc + 1) lo (.int (Op.cmpValue (FP.fcmp x y) op) :: st)) : GW L E N ad G cs ss pc lo (.float y :: .float x :: st) :=
  fun hD H locs ls hl hP hS => lv_fcmp C.1 C.2.1 hdg (kk hD H locs ls hl hP hS)
theorem G_get (C : gC L E cc own nL R) (k : Nat) (hk : k < N) {ci Nf index : Nat} {C' : String} {T : u_T} {fs : List Value} {v : Value} (hG : G k = .inr (ci, fs)) (hc : vwCl[ci]? = some (C', T, Nf)) (hin : ∀ w ∈ u_ws C' T Nf, w ∈ AW) (j : Nat) (hj : j < Nf) (hT : (T j).1 = C') (hw : Cond.fieldLink own index C' (T j).2.1 (T j).2.2.1 ∈ AW) (hv : fs[j]? = some v) (hdg : decode cc pc = .ok (.getfield index, 3)) (kk : GW L E N ad G cs ss (pc + 3) lo (v :: st)) : GW L E N ad G cs ss pc lo (.ref (ad k) :: st) :=
  fun hD H locs ls hl hP hS => va_get C.1 C.2.1 C.2.2.2.2.2.2.1 hin C.2.2.2.2.2.1 C.2.2.2.2.2.2.2.1.1 hP k (gw_get' hk hG) hc j hj (C.2.2.2.2.2.2.1 _ hw) (fun _ h => hT ▸ h) hv hdg (kk hD H locs ls hl hP hS)
theorem G_put (C : gC L E cc own nL R) (k : Nat) (hk : k < N) {ci Nf index : Nat} {C' : String} {T : u_T} {ty0 : Nat → FieldType} {fs fs' : List Value} {v : Value} (hG : G k = .inr (ci, fs)) (hc : vwCl[ci]? = some (C', T, Nf)) (hin : ∀ w ∈ u_ws C' T Nf, w ∈ AW) (hty : ∀ k, k < Nf → parseFieldDescriptor (T k).2.2.1 = some (ty0 k)) (hnm : ∀ a, a < Nf → ∀ b, b < Nf → a ≠ b → (T a).2.1 ≠ (T b).2.1) (j : Nat) (hj : j < Nf) (hT : (T j).1 = C') (hw : Cond.fieldLink own index C' (T j).2.1 (T j).2.2.1 ∈ AW) (hfin : (T j).2.2.2 = false) (hn : narrow (ty0 j) v = v) (hfit : fits (ty0 j) v = true) (hl0 : j < fs.length) (hfs : fs.set j v = fs') (hdg : decode cc pc = .ok (.putfield index, 3)) (kk : GW L E N ad (va_up G k (.inr (ci, fs'))) cs ss (pc + 3) lo st) : GW L E N ad G cs ss pc lo (v :: .ref (ad k) :: st) :=
  fun hD H locs ls hl hP hS => va_put C.1 C.2.1 C.2.2.2.2.2.2.1 hin ty0 hty hnm C.2.2.2.2.2.1 C.2.2.2.2.2.2.2.1.1 hP (hD.va G) hS k (gw_get' hk hG) hc j hj (C.2.2.2.2.2.2.1 _ hw) (fun _ h => hT ▸ h) hfin (hty j hj) hn hfit hl0 hdg (fun H1 locs1 hP1 _ hS1 => kk hD H1 locs1 ls hl (by rw [hfs, gw_set hk] at hP1; exact hP1) hS1)
theorem G_putF (C : gC L E cc own nL R) (hin2 : E.meth.name = "<init>") (k : Nat) (hk : k < N) {ci Nf index : Nat} {C' : String} {T : u_T} {ty0 : Nat → FieldType} {fs fs' : List Value} {v : Value} (hG : G k = .inr (ci, fs)) (hc : vwCl[ci]? = some (C', T, Nf)) (hin : ∀ w ∈ u_ws C' T Nf, w ∈ AW) (hty : ∀ k, k < Nf → parseFieldDescriptor (T k).2.2.1 = some (ty0 k)) (hnm : ∀ a, a < Nf → ∀ b, b < Nf → a ≠ b → (T a).2.1 ≠ (T b).2.1) (j : Nat) (hj : j < Nf) (hT : (T j).1 = C') (hT2 : (T j).1 = own) (hw : Cond.fieldLink own index C' (T j).2.1 (T j).2.2.1 ∈ AW) (hfin : (T j).2.2.2 = true) (hn : narrow (ty0 j) v = v) (hfit : fits (ty0 j) v = true) (hl0 : j < fs.length) (hfs : fs.set j v = fs') (hdg : decode cc pc = .ok (.putfield index, 3)) (kk : GW L E N ad (va_up G k (.inr (ci, fs'))) cs ss (pc + 3) lo st) : GW L E N ad G cs ss pc lo (v :: .ref (ad k) :: st) :=
  fun hD H locs ls hl hP hS => va_putF C.1 C.2.1 C.2.2.2.2.2.2.1 hin ty0 hty hnm C.2.2.2.2.2.1 C.2.2.2.2.2.2.2.1.1 hP (hD.va G) hS k (gw_get' hk hG) hc j hj (C.2.2.2.2.2.2.1 _ hw) (fun _ h => hT ▸ h) hfin hin2 hT2 (hty j hj) hn hfit hl0 hdg (fun H1 locs1 hP1 _ hS1 => kk hD H1 locs1 ls hl (by rw [hfs, gw_set hk] at hP1; exact hP1) hS1)
theorem G_alen (C : gC L E cc own nL R) (k : Nat) (hk : k < N) {x : vp_A} {ty : FieldType} (t0 : Nat) (hG : G k = .inl (L.ac t0, x)) (ht : (gTy L)[t0]? = some (L.ac t0, ty)) {v : Int32} (hv : Int32.ofNat x.1 = v) (hdg : decode cc pc = .ok (.arraylength, 1)) (kk : GW L E N ad G cs ss (pc + 1) lo (.int v :: st)) : GW L E N ad G cs ss pc lo (.ref (ad k) :: st) :=
  fun hD H locs ls hl hP hS => va_alen C.1 C.2.1 C.2.2.2.2.2.2.2.1.1 hP k t0 (gw_get' hk hG) ht hv hdg (kk hD H locs ls hl hP hS)
theorem G_iald (C : gC L E cc own nL R) (k : Nat) (hk : k < N) {n : Nat} {f : Nat → Int32} {i : Int32} (hG : G k = .inl (L.ac 0, n, .inl f)) (hin : vp_in i n) (hdg : decode cc pc = .ok (.iaload, 1)) (kk : GW L E N ad G cs ss (pc + 1) lo (.int (f i.toNatClampNeg) :: st)) : GW L E N ad G cs ss pc lo (.int i :: .ref (ad k) :: st) :=
  fun hD H locs ls hl hP hS => va_iald C.1 C.2.1 C.2.2.2.2.2.2.2.1.1 hP k 0 (gw_get' hk hG) rfl hin hdg (kk hD H locs ls hl hP hS)
theorem G_cald (C : gC L E cc own nL R) (k : Nat) (hk : k < N) {n : Nat} {f : Nat → Int32} {i : Int32} (hG : G k = .inl (L.ac 2, n, .inl f)) (hin : vp_in i n) (hdg : decode cc pc = .ok (.caload, 1)) (kk : GW L E N ad G cs ss (pc + 1) lo (.int (f i.toNatClampNeg) :: st)) : GW L E N ad G cs ss pc lo (.int i :: .ref (ad k) :: st) :=
  fun hD H locs ls hl hP hS => va_cald C.1 C.2.1 C.2.2.2.2.2.2.2.1.1 hP k 2 (gw_get' hk hG) rfl hin hdg (kk hD H locs ls hl hP hS)
theorem G_lald (C : gC L E cc own nL R) (k : Nat) (hk : k < N) {n : Nat} {f : Nat → Int64} {i : Int32} (hG : G k = .inl (L.ac 1, n, .inr (.inl f))) (hin : vp_in i n) (hdg : decode cc pc = .ok (.laload, 1)) (kk : GW L E N ad G cs ss (pc + 1) lo (.long (f i.toNatClampNeg) :: st)) : GW L E N ad G cs ss pc lo (.int i :: .ref (ad k) :: st) :=
  fun hD H locs ls hl hP hS => va_lald C.1 C.2.1 C.2.2.2.2.2.2.2.1.1 hP k 1 (gw_get' hk hG) rfl hin hdg (kk hD H locs ls hl hP hS)
theorem G_iast (C : gC L E cc own nL R) (k : Nat) (hk : k < N) {n : Nat} {f : Nat → Int32} {i : Int32} {x : Int32} (hG : G k = .inl (L.ac 0, n, .inl f)) (hin : vp_in i n) (hdg : decode cc pc = .ok (.iastore, 1)) (kk : GW L E N ad (va_up G k (.inl (L.ac 0, n, .inl (upd f i.toNatClampNeg x)))) cs ss (pc + 1) lo st) : GW L E N ad G cs ss pc lo (.int x :: .int i :: .ref (ad k) :: st) :=
  fun hD H locs ls hl hP hS => va_iast C.1 C.2.1 C.2.2.2.2.2.2.2.1.1 hP (hD.va G) hS k 0 (gw_get' hk hG) rfl hin hdg (fun H1 locs1 hP1 _ hS1 => kk hD H1 locs1 ls hl (by rw [gw_set hk] at hP1; exact hP1) hS1)
theorem G_cast (C : gC L E cc own nL R) (k : Nat) (hk : k < N) {n : Nat} {f : Nat → Int32} {i : Int32} {x : Int32} (hG : G k = .inl (L.ac 2, n, .inl f)) (hin : vp_in i n) (hdg : decode cc pc = .ok (.castore, 1)) (kk : GW L E N ad (va_up G k (.inl (L.ac 2, n, .inl (upd f i.toNatClampNeg (vp_nar .char x))))) cs ss (pc + 1) lo st) : GW L E N ad G cs ss pc lo (.int x :: .int i :: .ref (ad k) :: st) :=
  fun hD H locs ls hl hP hS => va_cast C.1 C.2.1 C.2.2.2.2.2.2.2.1.1 hP (hD.va G) hS k 2 (gw_get' hk hG) rfl hin hdg (fun H1 locs1 hP1 _ hS1 => kk hD H1 locs1 ls hl (by rw [gw_set hk] at hP1; exact hP1) hS1)
theorem G_last (C : gC L E cc own nL R) (k : Nat) (hk : k < N) {n : Nat} {f : Nat → Int64} {i : Int32} {x : Int64} (hG : G k = .inl (L.ac 1, n, .inr (.inl f))) (hin : vp_in i n) (hdg : decode cc pc = .ok (.lastore, 1)) (kk : GW L E N ad (va_up G k (.inl (L.ac 1, n, .inr (.inl (vp_updL f i.toNatClampNeg x))))) cs ss (pc + 1) lo st) : GW L E N ad G cs ss pc lo (.long x :: .int i :: .ref (ad k) :: st) :=
  fun hD H locs ls hl hP hS => va_last C.1 C.2.1 C.2.2.2.2.2.2.2.1.1 hP (hD.va G) hS k 1 (gw_get' hk hG) rfl hin hdg (fun H1 locs1 hP1 _ hS1 => kk hD H1 locs1 ls hl (by rw [gw_set hk] at hP1; exact hP1) hS1)
theorem G_aldq (C : gC L E cc own nL R) (k : Nat) (hk : k < N) {n m : Nat} {f : Nat → Option Nat} {i : Int32} (t0 : Nat) {Cn : String} (ht : (gTy L)[t0]? = some (L.ac t0, .object Cn)) (hG : G k = .inl (L.ac t0, n, .inr (.inr (.inr (.inr f))))) (hin : vp_in i n) (hf : f i.toNatClampNeg = some m) (hdg : decode cc pc = .ok (.aaload, 1)) (kk : GW L E N ad G cs ss (pc + 1) lo (.ref m :: st)) : GW L E N ad G cs ss pc lo (.int i :: .ref (ad k) :: st) :=
  fun hD H locs ls hl hP hS => va_aldq C.1 C.2.1 C.2.2.2.2.2.2.2.1.1 hP k t0 (gw_get' hk hG) ht hin hdg (by rw [hf]; exact kk hD H locs ls hl hP hS)
theorem G_astq (C : gC L E cc own nL R) (k : Nat) (hk : k < N) {n : Nat} {f : Nat → Option Nat} {i : Int32} (t0 : Nat) {r : vw_C} (ht : (gTy L)[t0]? = some (L.ac t0, .object r.1)) (hG : G k = .inl (L.ac t0, n, .inr (.inr (.inr (.inr f))))) (j : Nat) (hj : j < N) {ci : Nat} {vs : List Value} (hv : G j = .inr (ci, vs)) (hc : vwCl[ci]? = some r) (hin : vp_in i n) (hdg : decode cc pc = .ok (.aastore, 1)) (kk : GW L E N ad (va_up G k (.inl (L.ac t0, n, .inr (.inr (.inr (.inr (va_up f i.toNatClampNeg (some (ad j))))))))) cs ss (pc + 1) lo st) : GW L E N ad G cs ss pc lo (.ref (ad j) :: .int i :: .ref (ad k) :: st) :=
  fun hD H locs ls hl hP hS => va_astq C.1 C.2.1 C.2.2.2.2.2.2.2.1.1 hP (hD.va G) hS k t0 j ci (gw_get' hk hG) ht (gw_get' hj hv) hc hin hdg (fun H1 locs1 hP1 _ hS1 => kk hD H1 locs1 ls hl (by rw [gw_set hk] at hP1; exact hP1) hS1)
theorem G_copyi (C : gC L E cc own nL R) {index : Nat} (hw1 : Cond.methodLink own index arraycopyName ∈ AW) (hw2 : Cond.native arraycopyName ∈ AW) (hw3 : Cond.static arraycopyName ∈ AW) (hw4 : Cond.initialized "java/lang/System" ∈ AW) (k0 k1 : Nat) (hk0 : k0 < N) (hk : k1 < N) {n0 n1 : Nat} {f g : Nat → Int32} (hG0 : G k0 = .inl (L.ac 0, n0, .inl f)) (hG1 : G k1 = .inl (L.ac 0, n1, .inl g)) {sp dp n : Int32} (h1 : ¬ sp < 0) (h2 : ¬ dp < 0) (h3 : ¬ n < 0) (h4 : sp.toNatClampNeg + n.toNatClampNeg ≤ n0) (h5 : dp.toNatClampNeg + n.toNatClampNeg ≤ n1) (hfr : 1 ≤ R.frames) (hlo : (st.map fun v => v.category).sum + (nativeFrameWords "java/lang/System" "arraycopy" 5 + 11) ≤ R.locals) (hdg : decode cc pc = .ok (.invokestatic index, 3)) (kk : GW L E N ad (va_up G k1 (.inl (L.ac 0, n1, .inl (va_cpy f g sp.toNatClampNeg dp.toNatClampNeg n.toNatClampNeg)))) cs ss (pc + 3) lo st) : GW L E N ad G cs ss pc lo (.int n :: .int dp :: .ref (ad k1) :: .int sp :: .ref (ad k0) :: st) :=
  fun hD H locs ls hl hP hS => va_copyi (ty := .int) C.1 C.2.1 (by rw [hl.1]; exact C.2.2.1) C.2.2.2.2.2.1 (C.2.2.2.2.2.2.1 _ hw1) (C.2.2.2.2.2.2.1 _ hw2) (C.2.2.2.2.2.2.1 _ hw3) (C.2.2.2.2.2.2.1 _ hw4) C.2.2.2.2.2.2.2.1.1 hP (hD.va G) hS k0 k1 0 0 (gw_get' hk0 hG0) (gw_get' hk hG1) rfl rfl rfl h1 h2 h3 h4 h5 (fun _ _ => rfl) (by rw [C.2.2.2.2.1]; exact hfr) (by rw [C.2.2.2.2.1]; exact hlo) hdg (fun H1 locs1 hP1 _ hS1 => kk hD H1 locs1 ls hl (by rw [gw_set hk] at hP1; exact hP1) hS1)
theorem ac_uniq {L : GL} {U : State} {t0 : Nat} {cA : ClassId} {ty : FieldType} {tys : List (ClassId × FieldType)} (hK : va_K L.D vwCl (gTy L) U) (hK2 : va_K L.D vwCl (tys ++ [(cA, ty)]) U) (ht : (gTy L)[t0]? = some (L.ac t0, ty)) : cA = L.ac t0 := by
  have h1 := (hK.2 t0 _ ht).2
  have h2 := (hK2.2 tys.length (cA, ty) (by rw [List.getElem?_append_right (Nat.le_refl _), Nat.sub_self]; rfl)).2
  cases ty with
  | object Cn =>
    obtain ⟨k1, c1, -, -, -, a1⟩ := h1
    obtain ⟨k2, c2, -, -, -, a2⟩ := h2
    exact Option.some.inj (a2.symm.trans a1)
  | _ => exact Option.some.inj (Eq.trans (Eq.symm h2) h1)
theorem G_newa (C : gC L E cc own nL R) (t0 : Nat) {atype : ArrayType} {ty : FieldType} (hw : Cond.arrayClass (newarray.typeOf atype) ∈ AW) (hty : newarray.typeOf atype = ty) (ht : (gTy L)[t0]? = some (L.ac t0, ty)) {n : Int32} {N' : Nat} {a0 : vp_A} (ha : ∀ cA : ClassId, vp_cell cA a0 = arrV cA N' (fun _ => defaultValue ty)) (hn : ¬ n < 0) (hN : n.toNatClampNeg = N') (hby : N' * componentBytes ty ≤ 536870912) (hc1 : cs + 1 ≤ R.cells) (hs1 : ss + N' ≤ R.slots) (hdg : decode cc pc = .ok (.newarray atype, 2)) (kk : ∀ q : Nat, GW L E (N + 1) (va_up ad N q) (va_up G N (.inl (L.ac t0, a0))) (cs + 1) (ss + N') (pc + 2) lo (.ref q :: st)) : GW L E N ad G cs ss pc lo (.int n :: st) :=
  fun hD H locs ls hl hP hS => va_newa C.1 C.2.1 (C.2.2.2.2.2.2.1 _ hw) hty C.2.2.2.2.2.2.2.1.1 hP (hD.va G) hS (fun q h => Nat.le_trans C.2.2.2.2.2.2.2.1.2.2.2.2.2.2.1.1 h) ha hn hN hby (by rw [C.2.2.2.2.1]; exact hc1) (by rw [C.2.2.2.2.1]; exact hs1) hdg (fun q cA H1 hK1 hP1 hD1 hS1 => by
    have e := ac_uniq C.2.2.2.2.2.2.2.1.1 hK1 ht
    subst e
    rw [gw_push] at hP1 hD1
    exact kk q (gD.of hD1) H1 locs ls hl hP1 hS1)
theorem G_newq (C : gC L E cc own nL R) (t0 : Nat) {Cn : String} {index : Nat} (hw : Cond.classLink own index Cn ∈ AW) (hao : va_AO Cn E.s) (ht : (gTy L)[t0]? = some (L.ac t0, .object Cn)) {n : Int32} {N' : Nat} (hn : ¬ n < 0) (hN : n.toNatClampNeg = N') (hby : N' * 4 ≤ 536870912) (hc1 : cs + 1 ≤ R.cells) (hs1 : ss + N' ≤ R.slots) (hdg : decode cc pc = .ok (.anewarray index, 3)) (kk : ∀ q : Nat, GW L E (N + 1) (va_up ad N q) (va_up G N (.inl (L.ac t0, N', .inr (.inr (.inr (.inr (fun _ => none))))))) (cs + 1) (ss + N') (pc + 3) lo (.ref q :: st)) : GW L E N ad G cs ss pc lo (.int n :: st) :=
  fun hD H locs ls hl hP hS => va_newq C.1 C.2.1 C.2.2.2.2.2.1 (C.2.2.2.2.2.2.1 _ hw) hao C.2.2.2.2.2.2.2.1.1 hP (hD.va G) hS (fun q h => Nat.le_trans C.2.2.2.2.2.2.2.1.2.2.2.2.2.2.1.1 h) hn hN hby (by rw [C.2.2.2.2.1]; exact hc1) (by rw [C.2.2.2.2.1]; exact hs1) hdg (fun q cA H1 hK1 hP1 hD1 hS1 => by
    have e := ac_uniq C.2.2.2.2.2.2.2.1.1 hK1 ht
    subst e
    rw [gw_push] at hP1 hD1
    exact kk q (gD.of hD1) H1 locs ls hl hP1 hS1)
theorem G_new (C : gC L E cc own nL R) {ci Nf index : Nat} {C' : String} {T : u_T} {ty0 : Nat → FieldType} {fs : List Value} (hc : vwCl[ci]? = some (C', T, Nf)) (hin : ∀ w ∈ u_ws C' T Nf, w ∈ AW) (hty : ∀ k, k < Nf → parseFieldDescriptor (T k).2.2.1 = some (ty0 k)) (hw1 : Cond.classLink own index C' ∈ AW) (hw2 : Cond.instantiable C' Nf ∈ AW) (hw3 : Cond.initialized C' ∈ AW) (hfs : ∀ j, j < Nf → defaultValue (ty0 j) = vp_V fs j) (hc1 : cs + 1 ≤ R.cells) (hs1 : ss + Nf ≤ R.slots) (hdg : decode cc pc = .ok (.new index, 3)) (kk : ∀ q : Nat, GW L E (N + 1) (va_up ad N q) (va_up G N (.inr (ci, fs))) (cs + 1) (ss + Nf) (pc + 3) lo (.ref q :: st)) : GW L E N ad G cs ss pc lo st :=
  fun hD H locs ls hl hP hS => va_new C.1 C.2.1 C.2.2.2.2.2.2.1 hin ty0 hty C.2.2.2.2.2.1 (C.2.2.2.2.2.2.1 _ hw1) (C.2.2.2.2.2.2.1 _ hw2) (C.2.2.2.2.2.2.1 _ hw3) C.2.2.2.2.2.2.2.1.1 hP (hD.va G) hS (fun q h => Nat.le_trans C.2.2.2.2.2.2.2.1.2.2.2.2.2.2.1.1 h) hc hfs (by rw [C.2.2.2.2.1]; exact hc1) (by rw [C.2.2.2.2.1]; exact hs1) hdg (fun q H1 hP1 hD1 hS1 => by
    rw [gw_push] at hP1 hD1
    exact kk q (gD.of hD1) H1 locs ls hl hP1 hS1)
theorem G_objInit (C : gC L E cc own nL R) {idx a : Nat} (hw1 : Cond.methodLink own idx Lib.objectInit ∈ AW) (hw2 : Cond.instanceMethod Lib.objectInit ∈ AW) (hw3 : Cond.code Lib.objectInit ⟨#[0xb1]⟩ 1 none ∈ AW) (hd : decode cc pc = .ok (.invokespecial idx, 3)) (hfr : 1 ≤ R.frames) (hlo : (st.map fun v => v.category).sum + 12 ≤ R.locals) (kk : GW L E N ad G cs ss (pc + 3) lo st) : GW L E N ad G cs ss pc lo (.ref a :: st) :=
  fun hD H locs ls hl hP hS => W.objInit C.1 C.2.1 C.2.2.2.2.2.1 (C.2.2.2.2.2.2.1 _ hw1) (C.2.2.2.2.2.2.1 _ hw2) (C.2.2.2.2.2.2.1 _ hw3) rfl (by show ls.size = _; rw [hl.1]; exact C.2.2.1.symm) rfl hd (by rw [C.2.2.2.2.1]; exact hfr) (by rw [C.2.2.2.2.1]; show 2 * 0 + _ + 12 ≤ _; omega) (kk hD H locs ls hl hP hS)
/-- what a method owes at its end -/
def gR (L : GL) (E : GE) (ret : Option FieldType) (mc ms N : Nat) (ad : Nat → Nat) (Q : Option Value → (Nat → va_E) → Prop) : Prop :=
  E.meth.sig.returnType = ret ∧ ∀ t, MQ E.below (gQ L N ad Q) E.args E.s mc ms (gA L) t → E.Q t
def gRn (L : GL) (E : GE) (mc ms : Nat) (Q : Nat → (Nat → Nat) → (Nat → va_E) → Prop) : Prop :=
  E.meth.sig.returnType = none ∧ E.meth.name = "<init>" ∧ ∀ t, MQ E.below (gQn L Q) E.args E.s mc ms (gA L) t → E.Q t
def gRx (L : GL) (E : GE) (mc ms N : Nat) (ad : Nat → Nat) (X : String → (Nat → va_E) → Prop) : Prop :=
  (∀ x ∈ E.c.exceptionTable.toList, False) ∧ ∀ t, vx_MQ E.below (fun _ _ _ _ => False) (gX L N ad X) E.args E.s mc ms (gA L) t → E.Q t
theorem W_mono {p : Program} {l : Launch} {e : Env} {R : Room} {s : State} {m : MethodId} {args : Array Value} {below : List Frame} {meth : Method} {c : Code} {H : Heap} {locs : List Loc} {cells slots : Nat} {Q Q' : State → Prop} {g : JFrame} (h : ∀ t, Q t → Q' t) (k : W p l e R s m args below meth c H locs cells slots Q g) : W p l e R s m args below meth c H locs cells slots Q' g := by
  intro T hT X
  obtain ⟨t, a, b⟩ := k T hT X
  exact ⟨t, a, h t b⟩
theorem G_iret (C : gC L E cc own nL R) {Q : Option Value → (Nat → va_E) → Prop} (hr : gR L E (some .int) cs ss N ad Q) {v : Int32} (hdg : decode cc pc = .ok (.ireturn, 1)) (hq : Q (some (.int v)) G) : GW L E N ad G cs ss pc lo [.int v] :=
  fun hD H locs ls hl hP hS => W_mono hr.2 (W.iret (hlocks := C.2.2.2.2.2.2.2.2) C.1 C.2.1 hr.1 (fun t ht hW => ⟨⟨_, G, rfl, hq, by rw [ht]; exact hP⟩, hS.F ht⟩) hS.2.2 hdg)
theorem G_lret (C : gC L E cc own nL R) {Q : Option Value → (Nat → va_E) → Prop} (hr : gR L E (some .long) cs ss N ad Q) {v : Int64} (hdg : decode cc pc = .ok (.lreturn, 1)) (hq : Q (some (.long v)) G) : GW L E N ad G cs ss pc lo [.long v] :=
  fun hD H locs ls hl hP hS => W_mono hr.2 (W.lret (hlocks := C.2.2.2.2.2.2.2.2) C.1 C.2.1 hr.1 (fun t ht hW => ⟨⟨_, G, rfl, hq, by rw [ht]; exact hP⟩, hS.F ht⟩) hS.2.2 hdg)
theorem G_fret (C : gC L E cc own nL R) {Q : Option Value → (Nat → va_E) → Prop} (hr : gR L E (some .float) cs ss N ad Q) {v : UInt32} (hdg : decode cc pc = .ok (.freturn, 1)) (hq : Q (some (.float v)) G) : GW L E N ad G cs ss pc lo [.float v] :=
  fun hD H locs ls hl hP hS => W_mono hr.2 (W.fret (hlocks := C.2.2.2.2.2.2.2.2) C.1 C.2.1 hr.1 (fun t ht hW => ⟨⟨_, G, rfl, hq, by rw [ht]; exact hP⟩, hS.F ht⟩) hS.2.2 hdg)
theorem G_zret (C : gC L E cc own nL R) {Q : Option Value → (Nat → va_E) → Prop} {ty : FieldType} (hr : gR L E (some ty) cs ss N ad Q) {v : Int32} (hn : narrow ty (.int v) = .int v) (hdg : decode cc pc = .ok (.ireturn, 1)) (hq : Q (some (.int v)) G) : GW L E N ad G cs ss pc lo [.int v] :=
  fun hD H locs ls hl hP hS => W_mono hr.2 (W.zret (hlocks := C.2.2.2.2.2.2.2.2) C.1 C.2.1 hr.1 hn (fun t ht hW => ⟨⟨_, G, rfl, hq, by rw [ht]; exact hP⟩, hS.F ht⟩) hS.2.2 hdg)
theorem G_vret (C : gC L E cc own nL R) {Q : Option Value → (Nat → va_E) → Prop} (hr : gR L E none cs ss N ad Q) (hdg : decode cc pc = .ok (.return_, 1)) (hq : Q none G) : GW L E N ad G cs ss pc lo [] :=
  fun hD H locs ls hl hP hS => W_mono hr.2 (W.vret (hlocks := C.2.2.2.2.2.2.2.2) C.1 C.2.1 hr.1 (fun t ht hW => ⟨⟨_, G, rfl, hq, by rw [ht]; exact hP⟩, hS.F ht⟩) hS.2.2 hdg)
theorem G_nret (C : gC L E cc own nL R) {Q : Nat → (Nat → Nat) → (Nat → va_E) → Prop} (hr : gRn L E cs ss Q) (hdg : decode cc pc = .ok (.return_, 1)) (hq : Q N ad G) : GW L E N ad G cs ss pc lo [] :=
  fun hD H locs ls hl hP hS => W_mono hr.2.2 (W.vret (hlocks := C.2.2.2.2.2.2.2.2) C.1 C.2.1 hr.1 (fun t ht hW => ⟨⟨N, ad, G, rfl, hq, hD, by rw [ht]; exact hP⟩, hS.F ht⟩) hS.2.2 hdg)
theorem G_aret (C : gC L E cc own nL R) {Q : Option Value → (Nat → va_E) → Prop} {rt : FieldType} (hr : gR L E (some rt) cs ss N ad Q) (hrt : (∃ n, rt = .object n) ∨ ∃ t, rt = .array t) {v : Value} (hv : v = .null ∨ ∃ a, v = .ref a) (hdg : decode cc pc = .ok (.areturn, 1)) (hq : Q (some v) G) : GW L E N ad G cs ss pc lo [v] :=
  fun hD H locs ls hl hP hS => W_mono hr.2 (W.aret (hlocks := C.2.2.2.2.2.2.2.2) C.1 C.2.1 hr.1 hrt hv (fun t ht hW => ⟨⟨_, G, rfl, hq, by rw [ht]; exact hP⟩, hS.F ht⟩) hS.2.2 hdg)
end GR
section GCALL
variable {p : Program} {l : Launch} {e : Env} {R : Room} {s : State} {m : MethodId} {args : Array Value} {below : List Frame} {meth : Method} {c : Code} {H H0 : Heap} {locs : List Loc} {cells slots mc ms : Nat} {Q0 : State → Prop} {pc : Nat} {ls : Array Slot} {st0 rest : List Value} {a : Array Value} {L : GL} {N : Nat} {ad : Nat → Nat}
theorem g_keep {st₀ t T' : State} {Lc : List Loc} (h0 : st₀.heap = H) (e1 : T'.heap = t.heap) (hS : va_S (gA L) H0 H locs) (hL : ∀ q ∈ Lc, gA L q.base) (hF : va_F (gA L) st₀ t) : va_S (gA L) H0 T'.heap (locs ++ Lc) := by
  obtain ⟨hz, hk⟩ := hF
  rw [h0] at hz hk
  exact ⟨Nat.le_trans hS.1 (by rw [e1]; exact hz), fun q h1 h2 => by rw [e1, hk q (Nat.lt_of_lt_of_le h1 hS.1) h2]; exact hS.2.1 q h1 h2, fun q hq => by
    rcases List.mem_append.mp hq with h | h
    · exact hS.2.2 q h
    · exact hL q h⟩
theorem g_call {Q : Option Value → (Nat → va_E) → Prop} (hr : va_Run p l e R s m args below meth c H locs cells slots mc ms (F0 m pc ls st0) rest (gQ L N ad Q a) (gA L)) (hS : va_S (gA L) H0 H locs)
    (kk : ∀ (v : Option Value) (G' : Nat → va_E) (H1 : Heap) (locs1 : List Loc), Q v G' → va_P L.D vwCl (gw ad N G') H1 → va_S (gA L) H0 H1 locs1 → W p l e R s m args below meth c H1 locs1 (cells + mc) (slots + ms) Q0 (F0 m (pc + 3) ls (v.toList ++ rest))) : W p l e R s m args below meth c H locs cells slots Q0 (F0 m pc ls st0) := by
  intro T hT X
  obtain ⟨v, st₀, t, T', Lc, h0, X', hL, e1, e2, ⟨⟨v', G', hv, hq, hP'⟩, hF⟩, st⟩ := hr T hT X
  cases hv
  obtain ⟨t2, a1, b1⟩ := kk v G' T'.heap (locs ++ Lc) hq (by rw [e1]; exact hP') (g_keep h0 e1 hS hL hF) T' rfl X'
  exact ⟨t2, st t2 a1, b1⟩
theorem g_calln {Q : Nat → (Nat → Nat) → (Nat → va_E) → Prop} (hr : va_Run p l e R s m args below meth c H locs cells slots mc ms (F0 m pc ls st0) rest (gQn L Q a) (gA L)) (hS : va_S (gA L) H0 H locs)
    (kk : ∀ (N' : Nat) (ad' : Nat → Nat) (G' : Nat → va_E) (H1 : Heap) (locs1 : List Loc), Q N' ad' G' → gD L ad' N' → va_P L.D vwCl (gw ad' N' G') H1 → va_S (gA L) H0 H1 locs1 → W p l e R s m args below meth c H1 locs1 (cells + mc) (slots + ms) Q0 (F0 m (pc + 3) ls rest)) : W p l e R s m args below meth c H locs cells slots Q0 (F0 m pc ls st0) := by
  intro T hT X
  obtain ⟨v, st₀, t, T', Lc, h0, X', hL, e1, e2, ⟨⟨N', ad', G', hv, hq, hD', hP'⟩, hF⟩, st⟩ := hr T hT X
  cases hv
  obtain ⟨t2, a1, b1⟩ := kk N' ad' G' T'.heap (locs ++ Lc) hq hD' (by rw [e1]; exact hP') (g_keep h0 e1 hS hL hF) T' rfl X'
  exact ⟨t2, st t2 a1, b1⟩
theorem g_callx {Q : Option Value → (Nat → va_E) → Prop} {X : String → (Nat → va_E) → Prop} (hr : vx_Run p l e R s m args below meth c H locs cells slots mc ms (F0 m pc ls st0) rest (gQ L N ad Q a) (gX L N ad X) (gA L)) (hS : va_S (gA L) H0 H locs)
    (kx : ∀ (E : String) (ce : Cell) (q9 : Addr) (G' : Nat → va_E) (H1 : Heap) (locs1 : List Loc), X E G' → va_P L.D vwCl (gw ad N G') H1 → va_S (gA L) H0 H1 locs1 → H1[q9]? = some ce → ce.vm = .none → s.vm.findClass E = some ce.cls → vx_W p l e R s m args below meth c H1 locs1 (cells + mc) (slots + ms) Q0 (F0 m pc ls rest) q9)
    (kk : ∀ (v : Option Value) (G' : Nat → va_E) (H1 : Heap) (locs1 : List Loc), Q v G' → va_P L.D vwCl (gw ad N G') H1 → va_S (gA L) H0 H1 locs1 → W p l e R s m args below meth c H1 locs1 (cells + mc) (slots + ms) Q0 (F0 m (pc + 3) ls (v.toList ++ rest))) : W p l e R s m args below meth c H locs cells slots Q0 (F0 m pc ls st0) := by
  intro T hT Z
  rcases hr T hT Z with ⟨v, st₀, t, T', Lc, h0, X', hL, e1, e2, ⟨⟨v', G', hv, hq, hP'⟩, hF⟩, st⟩ | ⟨q, st₀, t, T', Lc, E, ce, h0, X', hL, e1, e2, ⟨G', hx, hP', hF⟩, hce, hcv, hcl, st⟩
  · cases hv
    obtain ⟨t2, a1, b1⟩ := kk v G' T'.heap (locs ++ Lc) hq (by rw [e1]; exact hP') (g_keep h0 e1 hS hL hF) T' rfl X'
    exact ⟨t2, st t2 a1, b1⟩
  · obtain ⟨t2, a1, b1⟩ := kx E ce q G' T'.heap (locs ++ Lc) hx (by rw [e1]; exact hP') (g_keep h0 e1 hS hL hF) (by rw [e1]; exact hce) hcv hcl T' rfl X'
    exact ⟨t2, st.trans a1, b1⟩
end GCALL
/-- the words that any call of y wants -/
def CalV (Cn : String) (y : MethodName) (cy : ByteArray) (mL : Nat) (rt : Option FieldType) (n : Nat) : Prop :=
  Cond.instanceMethod y ∈ AW ∧ Cond.selects Cn y y ∈ AW ∧ Cond.initialized Cn ∈ AW ∧ Cond.code y cy mL rt ∈ AW ∧ y.cls = Cn ∧ y.cls ≠ "java/lang/invoke/MethodHandle" ∧ y.cls ≠ "java/lang/invoke/VarHandle" ∧ (parseMethodDescriptor y.desc).map (fun d => d.parameters.length) = some n
def CalS (y : MethodName) (cy : ByteArray) (mL : Nat) (rt : Option FieldType) (n : Nat) : Prop :=
  Cond.static y ∈ AW ∧ Cond.initialized y.cls ∈ AW ∧ Cond.code y cy mL rt ∈ AW ∧ y.cls ≠ "java/lang/invoke/MethodHandle" ∧ y.cls ≠ "java/lang/invoke/VarHandle" ∧ (parseMethodDescriptor y.desc).map (fun d => d.parameters.length) = some n
def CalI (y : MethodName) (cy : ByteArray) (mL : Nat) (n : Nat) : Prop :=
  y.name = "<init>" ∧ Cond.instanceMethod y ∈ AW ∧ Cond.initialized y.cls ∈ AW ∧ Cond.code y cy mL none ∈ AW ∧ y.cls ≠ "java/lang/invoke/MethodHandle" ∧ y.cls ≠ "java/lang/invoke/VarHandle" ∧ (parseMethodDescriptor y.desc).map (fun d => d.parameters.length) = some n
theorem CalV.good {own Cn : String} {y : MethodName} {cy : ByteArray} {mL n index : Nat} {rt : Option FieldType} (h : CalV Cn y cy mL rt n) (hl : Cond.methodLink own index y ∈ AW) : GoodIn AW (wsV own index Cn y (.code y cy mL rt :: AW)) :=
  goodIn_app (GI_cons hl (GI_cons h.1 (GI_cons h.2.1 (GI_cons h.2.2.1 GI_nil)))) (GI_cons h.2.2.2.1 AW_good)
theorem CalS.good {own : String} {y : MethodName} {cy : ByteArray} {mL n index : Nat} {rt : Option FieldType} (h : CalS y cy mL rt n) (hl : Cond.methodLink own index y ∈ AW) : GoodIn AW (va_wsS own index y (.code y cy mL rt :: AW)) :=
  goodIn_app (GI_cons hl (GI_cons h.1 (GI_cons h.2.1 GI_nil))) (GI_cons h.2.2.1 AW_good)
section GCR
variable {L : GL} {E : GE} {cc : ByteArray} {own : String} {nL N cs ss pc : Nat} {R : Room} {ad : Nat → Nat} {G : Nat → va_E} {lo : List (Nat × Value)} {st : List Value} {y : MethodName} {cy : ByteArray} {mL n : Nat} {rt : Option FieldType} {rm : Room}
theorem gC.fix (C : gC L E cc own nL R) : CallFix E.p E.m E.c cc E.nL E.s E.args AW own := ⟨C.1, C.2.1, C.2.2.1, C.2.2.2.2.2.1, C.2.2.2.2.2.2.1⟩
theorem gC.pre (C : gC L E cc own nL R) (hD : gD L ad N) {H : Heap} {locs : List Loc} (hP : va_P L.D vwCl (gw ad N G) H) (hS : va_S (gA L) E.s.heap H locs) (av : List Value) : PreS E.s H (va_Pc av (gS L N ad G)) av :=
  ⟨gS.blind, fun U hU hW => ⟨rfl, by rw [hU]; exact hP, hD, gK.warm hW (by rw [hU]; exact hS.1) (fun q h1 h2 => by rw [hU]; exact hS.2.1 q h1 h2) C.2.2.2.2.2.2.2.1⟩⟩
theorem gC.preV (C : gC L E cc own nL R) (hD : gD L ad N) {H : Heap} {locs : List Loc} (hP : va_P L.D vwCl (gw ad N G) H) (hS : va_S (gA L) E.s.heap H locs) {Cn : String} {k ci : Nat} {fs : List Value} {q : vw_C} (hk : k < N) (hG : G k = .inr (ci, fs)) (hc : vwCl[ci]? = some q) (hq : q.1 = Cn) (As : List Value) : PreV E.s H Cn (ad k) (va_Pc (.ref (ad k) :: As) (gS L N ad G)) As :=
  ⟨gS.blind, hq ▸ va_recv C.2.2.2.2.2.2.2.1.1 hP hc (gw_get' hk hG), (C.pre hD hP hS _).2⟩
theorem gC.goV (C : gC L E cc own nL R) {Cn : String} {index : Nat} (hcal : CalV Cn y cy mL rt n) (hl : Cond.methodLink own index y ∈ AW) (hR : rm.frames + 1 ≤ R.frames ∧ 8 + (mL + 11) + rm.locals ≤ R.locals) : CallW E.R E.s E.args own Cn index y cy mL rt (.code y cy mL rt :: AW) rm rm.cells rm.slots n :=
  cwV n C.2.2.2.2.2.2.1 (hcal.good hl) rfl rfl rfl ⟨hcal.2.2.2.2.1, hcal.2.2.2.2.2.1, hcal.2.2.2.2.2.2.1, hcal.2.2.2.2.2.2.2⟩ (by rw [C.2.2.2.2.1]; exact hR)
theorem G_callV (C : gC L E cc own nL R) {Cn : String} {Q : Option Value → (Nat → va_E) → Prop} {index k ci : Nat} {fs As rest : List Value} {q : vw_C} (hM : GM L y cy mL rt rm N ad G (.ref (ad k) :: As) Q) (hcal : CalV Cn y cy mL rt n) (hl : Cond.methodLink own index y ∈ AW) (hk : k < N) (hG : G k = .inr (ci, fs)) (hc : vwCl[ci]? = some q) (hq : q.1 = Cn) (hn : As.length = n) (hst : st = As.reverse ++ .ref (ad k) :: rest) (hR : rm.frames + 1 ≤ R.frames ∧ 8 + (mL + 11) + rm.locals ≤ R.locals) (hcat : (rest.map fun v => v.category).sum ≤ 8) (hf : cs + rm.cells ≤ R.cells ∧ ss + rm.slots ≤ R.slots) (hdg : decode cc pc = .ok (.invokevirtual index, 3)) (kk : ∀ v G', Q v G' → GW L E N ad G' (cs + rm.cells) (ss + rm.slots) (pc + 3) lo (v.toList ++ rest)) : GW L E N ad G cs ss pc lo st :=
  fun hD H locs ls hl' hP hS => g_call (va_runV (As := As) (rest := rest) C.fix hM (C.goV hcal hl hR) (C.preV hD hP hS hk hG hc hq As) rfl hn hl'.1 hst (lv_room hcat) hdg (by rw [C.2.2.2.2.1]; exact hf)) hS (fun v G' H1 locs1 hQ hP1 hS1 => kk v G' hQ hD H1 locs1 ls hl' hP1 hS1)
theorem G_callVX (C : gC L E cc own nL R) {Cn : String} {Q : Option Value → (Nat → va_E) → Prop} {X X0 : String → (Nat → va_E) → Prop} {mc ms index k ci : Nat} {fs As rest : List Value} {q : vw_C} (hM : GX L y cy mL rt rm N ad G (.ref (ad k) :: As) Q X) (hcal : CalV Cn y cy mL rt n) (hl : Cond.methodLink own index y ∈ AW) (hk : k < N) (hG : G k = .inr (ci, fs)) (hc : vwCl[ci]? = some q) (hq : q.1 = Cn) (hn : As.length = n) (hst : st = As.reverse ++ .ref (ad k) :: rest) (hR : rm.frames + 1 ≤ R.frames ∧ 8 + (mL + 11) + rm.locals ≤ R.locals) (hcat : (rest.map fun v => v.category).sum ≤ 8) (hf : cs + rm.cells ≤ R.cells ∧ ss + rm.slots ≤ R.slots) (hdg : decode cc pc = .ok (.invokevirtual index, 3)) (hx : gRx L E mc ms N ad X0) (hcs : cs + rm.cells ≤ mc ∧ ss + rm.slots ≤ ms) (hX : ∀ e G', X e G' → X0 e G') (kk : ∀ v G', Q v G' → GW L E N ad G' (cs + rm.cells) (ss + rm.slots) (pc + 3) lo (v.toList ++ rest)) : GW L E N ad G cs ss pc lo st :=
  fun hD H locs ls hl' hP hS => g_callx (vx_runV (As := As) (rest := rest) C.fix hM (C.goV hcal hl hR) (C.preV hD hP hS hk hG hc hq As) rfl hn hl'.1 hst (lv_room hcat) hdg (by rw [C.2.2.2.2.1]; exact hf)) hS
    (fun e ce q9 G' H1 locs1 hXe hP1 hS1 hce hcv hcl => fun T hT Z => by
      obtain ⟨t2, a1, b1⟩ := vx_out (Qc := fun _ _ _ _ => False) (XC := gX L N ad X0) (mc := mc) (ms := ms) (free := gA L) (fun x hx' => (hx.1 x hx').elim) C.2.2.2.2.2.2.2.2 hce hcv hcl (fun t ht _ => ⟨G', hX _ _ hXe, by rw [ht]; exact hP1, hS1.F ht⟩) hS1.2.2 hcs.1 hcs.2 T hT Z
      exact ⟨t2, a1, hx.2 _ b1⟩)
    (fun v G' H1 locs1 hQ hP1 hS1 => kk v G' hQ hD H1 locs1 ls hl' hP1 hS1)
theorem gC.cwS (C : gC L E cc own nL R) {index : Nat} (hcal : CalS y cy mL rt n) (hl : Cond.methodLink own index y ∈ AW) (hR : rm.frames + 1 ≤ R.frames ∧ 8 + (mL + 11) + rm.locals ≤ R.locals) : CallB E.R E.s E.args own index y cy mL rt (.code y cy mL rt :: AW) rm rm.cells rm.slots n ∧ (Cond.static y).before E.args E.s = true :=
  va_cwS n C.2.2.2.2.2.2.1 (hcal.good hl) rfl rfl rfl ⟨hcal.2.2.2.1, hcal.2.2.2.2.1, hcal.2.2.2.2.2⟩ (by rw [C.2.2.2.2.1]; exact hR)
theorem G_callS (C : gC L E cc own nL R) {Q : Option Value → (Nat → va_E) → Prop} {index : Nat} {As rest : List Value} (hM : GM L y cy mL rt rm N ad G As Q) (hcal : CalS y cy mL rt n) (hl : Cond.methodLink own index y ∈ AW) (hn : As.length = n) (hst : st = As.reverse ++ rest) (hR : rm.frames + 1 ≤ R.frames ∧ 8 + (mL + 11) + rm.locals ≤ R.locals) (hcat : (rest.map fun v => v.category).sum ≤ 8) (hf : cs + rm.cells ≤ R.cells ∧ ss + rm.slots ≤ R.slots) (hdg : decode cc pc = .ok (.invokestatic index, 3)) (kk : ∀ v G', Q v G' → GW L E N ad G' (cs + rm.cells) (ss + rm.slots) (pc + 3) lo (v.toList ++ rest)) : GW L E N ad G cs ss pc lo st :=
  fun hD H locs ls hl' hP hS => g_call (va_runS (As := As) (rest := rest) C.fix hM (C.cwS hcal hl hR) (C.pre hD hP hS As) rfl hn hl'.1 hst (lv_room hcat) hdg (by rw [C.2.2.2.2.1]; exact hf)) hS (fun v G' H1 locs1 hQ hP1 hS1 => kk v G' hQ hD H1 locs1 ls hl' hP1 hS1)
theorem G_callSX (C : gC L E cc own nL R) {Q : Option Value → (Nat → va_E) → Prop} {X X0 : String → (Nat → va_E) → Prop} {mc ms index : Nat} {As rest : List Value} (hM : GX L y cy mL rt rm N ad G As Q X) (hcal : CalS y cy mL rt n) (hl : Cond.methodLink own index y ∈ AW) (hn : As.length = n) (hst : st = As.reverse ++ rest) (hR : rm.frames + 1 ≤ R.frames ∧ 8 + (mL + 11) + rm.locals ≤ R.locals) (hcat : (rest.map fun v => v.category).sum ≤ 8) (hf : cs + rm.cells ≤ R.cells ∧ ss + rm.slots ≤ R.slots) (hdg : decode cc pc = .ok (.invokestatic index, 3)) (hx : gRx L E mc ms N ad X0) (hcs : cs + rm.cells ≤ mc ∧ ss + rm.slots ≤ ms) (hX : ∀ e G', X e G' → X0 e G') (kk : ∀ v G', Q v G' → GW L E N ad G' (cs + rm.cells) (ss + rm.slots) (pc + 3) lo (v.toList ++ rest)) : GW L E N ad G cs ss pc lo st :=
  fun hD H locs ls hl' hP hS => g_callx (vx_runS (As := As) (rest := rest) C.fix hM (C.cwS hcal hl hR) (C.pre hD hP hS As) rfl hn hl'.1 hst (lv_room hcat) hdg (by rw [C.2.2.2.2.1]; exact hf)) hS
    (fun e ce q9 G' H1 locs1 hXe hP1 hS1 hce hcv hcl => fun T hT Z => by
      obtain ⟨t2, a1, b1⟩ := vx_out (Qc := fun _ _ _ _ => False) (XC := gX L N ad X0) (mc := mc) (ms := ms) (free := gA L) (fun x hx' => (hx.1 x hx').elim) C.2.2.2.2.2.2.2.2 hce hcv hcl (fun t ht _ => ⟨G', hX _ _ hXe, by rw [ht]; exact hP1, hS1.F ht⟩) hS1.2.2 hcs.1 hcs.2 T hT Z
      exact ⟨t2, a1, hx.2 _ b1⟩)
    (fun v G' H1 locs1 hQ hP1 hS1 => kk v G' hQ hD H1 locs1 ls hl' hP1 hS1)
theorem gC.goI (C : gC L E cc own nL R) {index : Nat} (hcal : CalI y cy mL n) (hl : Cond.methodLink own index y ∈ AW) (hR : rm.frames + 1 ≤ R.frames ∧ 8 + (mL + 11) + rm.locals ≤ R.locals) : CallB E.R E.s E.args own index y cy mL none (.code y cy mL none :: AW) rm rm.cells rm.slots n ∧ y.name = "<init>" ∧ (Cond.instanceMethod y).before E.args E.s = true :=
  cwI n C.2.2.2.2.2.2.1 (GI_cons hcal.2.2.2.1 AW_good) rfl rfl rfl (C.2.2.2.2.2.2.1 _ hcal.2.2.1) (C.2.2.2.2.2.2.1 _ hl) (C.2.2.2.2.2.2.1 _ hcal.2.1) hcal.1 ⟨hcal.2.2.2.2.1, hcal.2.2.2.2.2.1, hcal.2.2.2.2.2.2⟩ (by rw [C.2.2.2.2.1]; exact hR)
theorem G_callI (C : gC L E cc own nL R) {Q : Option Value → (Nat → va_E) → Prop} {index k : Nat} {As rest : List Value} (hM : GM L y cy mL none rm N ad G (.ref (ad k) :: As) Q) (hcal : CalI y cy mL n) (hl : Cond.methodLink own index y ∈ AW) (hn : As.length = n) (hst : st = As.reverse ++ .ref (ad k) :: rest) (hR : rm.frames + 1 ≤ R.frames ∧ 8 + (mL + 11) + rm.locals ≤ R.locals) (hcat : (rest.map fun v => v.category).sum ≤ 8) (hf : cs + rm.cells ≤ R.cells ∧ ss + rm.slots ≤ R.slots) (hdg : decode cc pc = .ok (.invokespecial index, 3)) (kk : ∀ v G', Q v G' → GW L E N ad G' (cs + rm.cells) (ss + rm.slots) (pc + 3) lo (v.toList ++ rest)) : GW L E N ad G cs ss pc lo st :=
  fun hD H locs ls hl' hP hS => g_call (va_runI (As := As) (rest := rest) C.fix hM (C.goI hcal hl hR) (C.pre hD hP hS _) rfl hn hl'.1 hst (lv_room hcat) hdg (by rw [C.2.2.2.2.1]; exact hf)) hS (fun v G' H1 locs1 hQ hP1 hS1 => kk v G' hQ hD H1 locs1 ls hl' hP1 hS1)
theorem G_callN (C : gC L E cc own nL R) {Q : Nat → (Nat → Nat) → (Nat → va_E) → Prop} {index k : Nat} {As rest : List Value} (hM : GN L y cy mL rm N ad G (.ref (ad k) :: As) Q) (hcal : CalI y cy mL n) (hl : Cond.methodLink own index y ∈ AW) (hn : As.length = n) (hst : st = As.reverse ++ .ref (ad k) :: rest) (hR : rm.frames + 1 ≤ R.frames ∧ 8 + (mL + 11) + rm.locals ≤ R.locals) (hcat : (rest.map fun v => v.category).sum ≤ 8) (hf : cs + rm.cells ≤ R.cells ∧ ss + rm.slots ≤ R.slots) (hdg : decode cc pc = .ok (.invokespecial index, 3)) (kk : ∀ N' ad' G', Q N' ad' G' → GW L E N' ad' G' (cs + rm.cells) (ss + rm.slots) (pc + 3) lo rest) : GW L E N ad G cs ss pc lo st :=
  fun hD H locs ls hl' hP hS => g_calln (va_runI (As := As) (rest := rest) C.fix hM (C.goI hcal hl hR) (C.pre hD hP hS _) rfl hn hl'.1 hst (lv_room hcat) hdg (by rw [C.2.2.2.2.1]; exact hf)) hS (fun N' ad' G' H1 locs1 hQ hD1 hP1 hS1 => kk N' ad' G' hQ hD1 H1 locs1 ls hl' hP1 hS1)
theorem gC.cnB (C : gC L E cc own nL R) {host : String} {index : Nat} (hg : Cond.code y cy mL rt ∈ AW) (hi : Cond.initialized y.cls ∈ AW) (hd : y.cls ≠ "java/lang/invoke/MethodHandle" ∧ y.cls ≠ "java/lang/invoke/VarHandle" ∧ (parseMethodDescriptor y.desc).map (fun d => d.parameters.length) = some n) (hl : Cond.methodLinkNest own index y host ∈ BW) (hR : rm.frames + 1 ≤ R.frames ∧ 8 + (mL + 11) + rm.locals ≤ R.locals) : va_CN E.R E.s E.args own index y host cy mL rt (.code y cy mL rt :: AW) rm rm.cells rm.slots n :=
  va_cnB n C.2.2.2.2.2.2.1 (GI_cons hg AW_good) rfl rfl rfl (C.2.2.2.2.2.2.2.1.2.2.2.2.1 _ hl) (C.2.2.2.2.2.2.1 _ hi) hd (by rw [C.2.2.2.2.1]; exact hR)
theorem G_callIN (C : gC L E cc own nL R) {Q : Option Value → (Nat → va_E) → Prop} {host : String} {index k : Nat} {As rest : List Value} (hM : GM L y cy mL none rm N ad G (.ref (ad k) :: As) Q) (hcal : CalI y cy mL n) (hl : Cond.methodLinkNest own index y host ∈ BW) (hn : As.length = n) (hst : st = As.reverse ++ .ref (ad k) :: rest) (hR : rm.frames + 1 ≤ R.frames ∧ 8 + (mL + 11) + rm.locals ≤ R.locals) (hcat : (rest.map fun v => v.category).sum ≤ 8) (hf : cs + rm.cells ≤ R.cells ∧ ss + rm.slots ≤ R.slots) (hdg : decode cc pc = .ok (.invokespecial index, 3)) (kk : ∀ v G', Q v G' → GW L E N ad G' (cs + rm.cells) (ss + rm.slots) (pc + 3) lo (v.toList ++ rest)) : GW L E N ad G cs ss pc lo st :=
  fun hD H locs ls hl' hP hS => g_call (va_runIN (As := As) (rest := rest) C.fix hM ⟨C.cnB hcal.2.2.2.1 hcal.2.2.1 ⟨hcal.2.2.2.2.1, hcal.2.2.2.2.2.1, hcal.2.2.2.2.2.2⟩ hl hR, hcal.1, C.2.2.2.2.2.2.1 _ hcal.2.1⟩ (C.pre hD hP hS _) rfl hn hl'.1 hst (lv_room hcat) hdg (by rw [C.2.2.2.2.1]; exact hf)) hS (fun v G' H1 locs1 hQ hP1 hS1 => kk v G' hQ hD H1 locs1 ls hl' hP1 hS1)
theorem G_callNN (C : gC L E cc own nL R) {Q : Nat → (Nat → Nat) → (Nat → va_E) → Prop} {host : String} {index k : Nat} {As rest : List Value} (hM : GN L y cy mL rm N ad G (.ref (ad k) :: As) Q) (hcal : CalI y cy mL n) (hl : Cond.methodLinkNest own index y host ∈ BW) (hn : As.length = n) (hst : st = As.reverse ++ .ref (ad k) :: rest) (hR : rm.frames + 1 ≤ R.frames ∧ 8 + (mL + 11) + rm.locals ≤ R.locals) (hcat : (rest.map fun v => v.category).sum ≤ 8) (hf : cs + rm.cells ≤ R.cells ∧ ss + rm.slots ≤ R.slots) (hdg : decode cc pc = .ok (.invokespecial index, 3)) (kk : ∀ N' ad' G', Q N' ad' G' → GW L E N' ad' G' (cs + rm.cells) (ss + rm.slots) (pc + 3) lo rest) : GW L E N ad G cs ss pc lo st :=
  fun hD H locs ls hl' hP hS => g_calln (va_runIN (As := As) (rest := rest) C.fix hM ⟨C.cnB hcal.2.2.2.1 hcal.2.2.1 ⟨hcal.2.2.2.2.1, hcal.2.2.2.2.2.1, hcal.2.2.2.2.2.2⟩ hl hR, hcal.1, C.2.2.2.2.2.2.1 _ hcal.2.1⟩ (C.pre hD hP hS _) rfl hn hl'.1 hst (lv_room hcat) hdg (by rw [C.2.2.2.2.1]; exact hf)) hS (fun N' ad' G' H1 locs1 hQ hD1 hP1 hS1 => kk N' ad' G' hQ hD1 H1 locs1 ls hl' hP1 hS1)
theorem G_callSN (C : gC L E cc own nL R) {Q : Option Value → (Nat → va_E) → Prop} {host : String} {index : Nat} {As rest : List Value} (hM : GM L y cy mL rt rm N ad G As Q) (hcal : CalS y cy mL rt n) (hl : Cond.methodLinkNest own index y host ∈ BW) (hn : As.length = n) (hst : st = As.reverse ++ rest) (hR : rm.frames + 1 ≤ R.frames ∧ 8 + (mL + 11) + rm.locals ≤ R.locals) (hcat : (rest.map fun v => v.category).sum ≤ 8) (hf : cs + rm.cells ≤ R.cells ∧ ss + rm.slots ≤ R.slots) (hdg : decode cc pc = .ok (.invokestatic index, 3)) (kk : ∀ v G', Q v G' → GW L E N ad G' (cs + rm.cells) (ss + rm.slots) (pc + 3) lo (v.toList ++ rest)) : GW L E N ad G cs ss pc lo st :=
  fun hD H locs ls hl' hP hS => g_call (va_runSN (As := As) (rest := rest) C.fix hM ⟨C.cnB hcal.2.2.1 hcal.2.1 hcal.2.2.2 hl hR, C.2.2.2.2.2.2.1 _ hcal.1, trivial⟩ (C.pre hD hP hS As) rfl hn hl'.1 hst (lv_room hcat) hdg (by rw [C.2.2.2.2.1]; exact hf)) hS (fun v G' H1 locs1 hQ hP1 hS1 => kk v G' hQ hD H1 locs1 ls hl' hP1 hS1)
end GCR
abbrev gNm : List String := ["java/lang/RuntimeException", "java/lang/Exception"]
/-- the words of 'throw new cls(..)' in the class own -/
def ThrB (own : String) (ik ic : Nat) (cls : String) : Prop :=
  Bundle.fit cls = true ∧ (∀ n ∈ gNm, Bundle.fit n = true) ∧ Cond.classLink own ik cls ∈ AW ∧ Cond.initialized cls ∈ AW ∧ (∀ w ∈ (vx_atS own ic cls gNm).filter goodWord, w ∈ AW) ∧ (∀ w ∈ (vx_atS own ic cls gNm).filter (fun w => !goodWord w), w ∈ BW) ∧ (∀ w ∈ Cond.classLink own ik cls :: Cond.initialized cls :: vx_atS own ic cls gNm, vx_ot w = true)
theorem bw_use {s : State} {args : Array Value} {w : Cond} (hw : w ∈ BW) (h : va_Nw w s) : w.before args s = true := by
  have hg : cnWord w = true := (List.mem_filter.mp hw).2
  exact va_Nw.use (by cases w <;> first | rfl | exact absurd hg Bool.false_ne_true) h
section GTH
variable {L : GL} {E : GE} {cc : ByteArray} {own : String} {nL N cs ss pc : Nat} {R : Room} {ad : Nat → Nat} {G : Nat → va_E} {lo : List (Nat × Value)} {st : List Value}
theorem G_throw (C : gC L E cc own nL R) {X : String → (Nat → va_E) → Prop} {mc ms : Nat} (hX : gRx L E mc ms N ad X) {cls text : String} {ik is ic : Nat} (hB : ThrB own ik ic cls) (hstr : (own, is, text) ∈ gStr)
    (d0 : decode cc pc = .ok (.new ik, 3)) (d3 : decode cc (pc + 3) = .ok (.dup, 1)) (d4 : decode cc (pc + 4) = .ok (.ldc is, 2)) (d6 : decode cc (pc + 6) = .ok (.invokespecial ic, 3)) (d9 : decode cc (pc + 9) = .ok (.athrow, 1))
    (hfr : 5 < R.frames) (hlo : (st.map fun v => v.category).sum + 82 ≤ R.locals) (hcs : cs + 1 ≤ mc ∧ ss + 6 ≤ ms) (hR : mc ≤ R.cells ∧ ms ≤ R.slots) (hx : X cls G) : GW L E N ad G cs ss pc lo st := by
  intro hD H locs ls hl hP hS
  obtain ⟨h1, h2, h3, h4, h5, h6, h7⟩ := hB
  obtain ⟨sa, hsa⟩ := C.2.2.2.2.2.2.2.1.2.2.2.1 _ hstr
  have hat : ∀ w ∈ vx_atS own ic cls gNm, w.before E.args E.s = true := vx_hat (fun w hw => C.2.2.2.2.2.2.1 _ (h5 w hw)) h6 (fun w hw => bw_use hw (C.2.2.2.2.2.2.2.1.2.2.2.2.1 w hw))
  have hRR := C.2.2.2.2.1
  refine W_mono hX.2 (vx_throwS (mc := mc) (ms := ms) (names := gNm) (A := gA L) (Qc := fun _ _ _ _ => False) C.1 C.2.1 C.2.2.2.2.2.2.2.1.2.2.2.2.2.2.2.2 C.2.2.2.2.2.1 h1 h2 (C.2.2.2.2.2.2.1 _ h3) (C.2.2.2.2.2.2.1 _ h4) hsa hat h7 C.2.2.2.2.2.2.2.1.2.1 C.2.2.2.2.2.2.2.1.2.2.1 hS (hl.1.trans C.2.2.1.symm) d0 d3 d4 d6 d9 (fun x hx' => (hX.1 x hx').elim) (by rw [hRR]; exact hfr) (by rw [hRR]; exact hlo) (by rw [hRR]; omega) (by rw [hRR]; omega) C.2.2.2.2.2.2.2.2 ?_ hS.2.2 hcs.1 hcs.2)
  intro t _ hz hk
  exact ⟨G, hx, hP.kept (fun k q hq => hk q.1 ((hP k q hq).lt)), Nat.le_trans hS.1 hz, fun q g1 g2 => (hk q (Nat.lt_of_lt_of_le g1 hS.1)).trans (hS.2.1 q g1 g2)⟩
theorem G_throwW (C : gC L E cc own nL R) {X : String → (Nat → va_E) → Prop} {mc ms : Nat} (hX : gRx L E mc ms N ad X) {cls text : String} {ik is ic : Nat} (hB : ThrB own ik ic cls) (hstr : (own, is, text) ∈ gStr)
    (d0 : decode cc pc = .ok (.new ik, 3)) (d3 : decode cc (pc + 3) = .ok (.dup, 1)) (d4 : decode cc (pc + 4) = .ok (.ldc_w is, 3)) (d6 : decode cc (pc + 7) = .ok (.invokespecial ic, 3)) (d9 : decode cc (pc + 10) = .ok (.athrow, 1))
    (hfr : 5 < R.frames) (hlo : (st.map fun v => v.category).sum + 82 ≤ R.locals) (hcs : cs + 1 ≤ mc ∧ ss + 6 ≤ ms) (hR : mc ≤ R.cells ∧ ms ≤ R.slots) (hx : X cls G) : GW L E N ad G cs ss pc lo st := by
  intro hD H locs ls hl hP hS
  obtain ⟨h1, h2, h3, h4, h5, h6, h7⟩ := hB
  obtain ⟨sa, hsa⟩ := C.2.2.2.2.2.2.2.1.2.2.2.1 _ hstr
  have hat : ∀ w ∈ vx_atS own ic cls gNm, w.before E.args E.s = true := vx_hat (fun w hw => C.2.2.2.2.2.2.1 _ (h5 w hw)) h6 (fun w hw => bw_use hw (C.2.2.2.2.2.2.2.1.2.2.2.2.1 w hw))
  have hRR := C.2.2.2.2.1
  refine W_mono hX.2 (vx_throwSW (mc := mc) (ms := ms) (names := gNm) (A := gA L) (Qc := fun _ _ _ _ => False) C.1 C.2.1 C.2.2.2.2.2.2.2.1.2.2.2.2.2.2.2.2 C.2.2.2.2.2.1 h1 h2 (C.2.2.2.2.2.2.1 _ h3) (C.2.2.2.2.2.2.1 _ h4) hsa hat h7 C.2.2.2.2.2.2.2.1.2.1 C.2.2.2.2.2.2.2.1.2.2.1 hS (hl.1.trans C.2.2.1.symm) d0 d3 d4 d6 d9 (fun x hx' => (hX.1 x hx').elim) (by rw [hRR]; exact hfr) (by rw [hRR]; exact hlo) (by rw [hRR]; omega) (by rw [hRR]; omega) C.2.2.2.2.2.2.2.2 ?_ hS.2.2 hcs.1 hcs.2)
  intro t _ hz hk
  exact ⟨G, hx, hP.kept (fun k q hq => hk q.1 ((hP k q hq).lt)), Nat.le_trans hS.1 hz, fun q g1 g2 => (hk q (Nat.lt_of_lt_of_le g1 hS.1)).trans (hS.2.1 q g1 g2)⟩
end GTH
theorem GM.of {L : GL} {y : MethodName} {cc : ByteArray} {mL : Nat} {rt : Option FieldType} {rm : Room} {N : Nat} {ad : Nat → Nat} {G : Nat → va_E} {av : List Value} {Q : Option Value → (Nat → va_E) → Prop} {own : String} {lo : List (Nat × Value)} (hy : plainName y.cls = true) (hown : y.cls = own) (hlo : lv_args 0 av = lo) (hsl : (lg_sl av).length ≤ mL)
    (body : ∀ E : GE, gC L E cc own mL rm → gR L E rt rm.cells rm.slots N ad Q → GW L E N ad G 0 0 0 lo []) : GM L y cc mL rt rm N ad G av Q := by
  refine Met.ofW (cc := cc) (maxL := mL) (ret := rt) hy rfl ?_
  intro p e s m args below meth c s₁ B hml hv
  obtain ⟨rfl, hP, hD, hK⟩ := hv
  have hts := atoms_spec (ws := .code y cc mL rt :: AW) B.pre
  have K := body (p, e, rm, s, m, av.toArray, below, meth, c, MQ below (gQ L N ad Q) av.toArray s rm.cells rm.slots (gA L), mL)
    ⟨B.exec, B.bytes, hml, rfl, rfl, hown ▸ findClass_of_methodNamed B.named, fun w hw => hts w (List.mem_cons_of_mem _ hw), hK, B.notSynchronized⟩ ⟨B.returns, fun t h => h⟩
    hD s.heap [] _ (hlo ▸ lv_entry av hsl) hP va_S.rf
  rw [lg_entry_eq]
  exact K
theorem GN.of {L : GL} {y : MethodName} {cc : ByteArray} {mL : Nat} {rm : Room} {N : Nat} {ad : Nat → Nat} {G : Nat → va_E} {av : List Value} {Q : Nat → (Nat → Nat) → (Nat → va_E) → Prop} {own : String} {lo : List (Nat × Value)} (hy : plainName y.cls = true) (hown : y.cls = own) (hin : y.name = "<init>") (hlo : lv_args 0 av = lo) (hsl : (lg_sl av).length ≤ mL)
    (body : ∀ E : GE, gC L E cc own mL rm → gRn L E rm.cells rm.slots Q → GW L E N ad G 0 0 0 lo []) : GN L y cc mL rm N ad G av Q := by
  refine Met.ofW (cc := cc) (maxL := mL) (ret := none) hy rfl ?_
  intro p e s m args below meth c s₁ B hml hv
  obtain ⟨rfl, hP, hD, hK⟩ := hv
  have hts := atoms_spec (ws := .code y cc mL none :: AW) B.pre
  have hnm : meth.name = y.name := (name_of_methodNamed B.named B.method).1
  have K := body (p, e, rm, s, m, av.toArray, below, meth, c, MQ below (gQn L Q) av.toArray s rm.cells rm.slots (gA L), mL)
    ⟨B.exec, B.bytes, hml, rfl, rfl, hown ▸ findClass_of_methodNamed B.named, fun w hw => hts w (List.mem_cons_of_mem _ hw), hK, B.notSynchronized⟩ ⟨B.returns, hnm.trans hin, fun t h => h⟩
    hD s.heap [] _ (hlo ▸ lv_entry av hsl) hP va_S.rf
  rw [lg_entry_eq]
  exact K
theorem GX.of {L : GL} {y : MethodName} {cc : ByteArray} {mL : Nat} {rt : Option FieldType} {rm : Room} {N : Nat} {ad : Nat → Nat} {G : Nat → va_E} {av : List Value} {Q : Option Value → (Nat → va_E) → Prop} {X : String → (Nat → va_E) → Prop} {own : String} {lo : List (Nat × Value)} (hy : plainName y.cls = true) (hown : y.cls = own) (hlo : lv_args 0 av = lo) (hsl : (lg_sl av).length ≤ mL)
    (body : ∀ E : GE, gC L E cc own mL rm → gR L E rt rm.cells rm.slots N ad Q → gRx L E rm.cells rm.slots N ad X → GW L E N ad G 0 0 0 lo []) : GX L y cc mL rt rm N ad G av Q X := by
  refine vx_ofW (cc := cc) (maxL := mL) (ret := rt) hy rfl ?_
  intro p e s m args below meth c s₁ B hml ht hv
  obtain ⟨rfl, hP, hD, hK⟩ := hv
  have hts := atoms_spec (ws := .code y cc mL rt :: AW) B.pre
  have K := body (p, e, rm, s, m, av.toArray, below, meth, c, vx_MQ below (gQ L N ad Q) (gX L N ad X) av.toArray s rm.cells rm.slots (gA L), mL)
    ⟨B.exec, B.bytes, hml, rfl, rfl, hown ▸ findClass_of_methodNamed B.named, fun w hw => hts w (List.mem_cons_of_mem _ hw), hK, B.notSynchronized⟩
    ⟨B.returns, fun t ⟨o, h1, h2, h3, h4⟩ => ⟨o, h1, h2, Or.inl ⟨h3, h4⟩⟩⟩
    ⟨ht, fun t ⟨o, h1, h2, h3⟩ => ⟨o, h1, h2, h3.elim (fun h => h.1.elim) Or.inr⟩⟩
    hD s.heap [] _ (hlo ▸ lv_entry av hsl) hP va_S.rf
  rw [lg_entry_eq]
  exact K
def Agr {α : Type} (S : List Nat) (G G' : Nat → α) : Prop := ∀ j, j ∉ S → G' j = G j
theorem Agr.rf {α : Type} {S : List Nat} {G : Nat → α} : Agr S G G := fun _ _ => rfl
theorem Agr.up {α : Type} {k : Nat} {G : Nat → α} {e : α} : Agr [k] G (va_up G k e) := fun j hj => by
  simp only [List.mem_singleton] at hj
  simp [va_up, hj]
theorem Agr.tr {α : Type} {S S1 S2 : List Nat} {G G1 G2 : Nat → α} (h1 : Agr S1 G G1) (h2 : Agr S2 G1 G2) (i1 : ∀ j ∈ S1, j ∈ S) (i2 : ∀ j ∈ S2, j ∈ S) : Agr S G G2 := fun j hj => (h2 j (fun h => hj (i2 j h))).trans (h1 j (fun h => hj (i1 j h)))
theorem Agr.wk {α : Type} {S S1 : List Nat} {G G1 : Nat → α} (h1 : Agr S1 G G1) (i1 : ∀ j ∈ S1, j ∈ S) : Agr S G G1 := fun j hj => h1 j (fun h => hj (i1 j h))
theorem up_same {α : Type} {k : Nat} {G : Nat → α} {e : α} : va_up G k e k = e := by simp [va_up]
theorem up_ne {α : Type} {k j : Nat} {G : Nat → α} {e : α} (h : j ≠ k) : va_up G k e j = G j := by simp [va_up, h]
theorem up_up {α : Type} {k : Nat} {G : Nat → α} {e e' : α} : va_up (va_up G k e) k e' = va_up G k e' := by funext j; by_cases h : j = k <;> simp [va_up, h]
