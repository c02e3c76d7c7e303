/-! ===== the judgement J: a method's frame over a world of cells; all that the machine needs besides is hidden in it ===== -/
def BIG : List Cond := lw_tbl.filter goodWord
theorem big_of {w : Cond} (h : w ∈ lw_tbl) (g : goodWord w = true) : w ∈ BIG := List.mem_filter.mpr ⟨h, g⟩
theorem big_good {w : Cond} (h : w ∈ BIG) : (w.onTables && w.keeps) = true ∨ ∃ ty, w = .arrayClass ty := good_of_word (List.mem_filter.mp h).2
theorem big_t (i : Nat) {w : Cond} (h : tables_1[i]? = some w) (g : goodWord w = true) : w ∈ BIG := big_of (List.mem_append_right _ (List.mem_of_getElem? h)) g
theorem big_s (i : Nat) {w : Cond} (h : lw_sels[i]? = some w) (g : goodWord w = true) : w ∈ BIG := big_of (List.mem_append_left _ (List.mem_of_getElem? h)) g
theorem goodIn_big {ws : List Cond} (h : ∀ w ∈ ws, w ∈ BIG) : GoodIn BIG ws := fun w hw => ⟨h w hw, big_good (h w hw)⟩
/-- the tables' words that are kept in ways of their own -/
def nwk : Cond → Bool
  | .castable _ _ => true
  | .declares _ => true
  | .methodLinkNest _ _ _ _ => true
  | _ => false
def NWL : List Cond := lw_tbl.filter nwk
theorem nw_of (i : Nat) {w : Cond} (h : tables_1[i]? = some w) (g : nwk w = true) : w ∈ NWL := List.mem_filter.mpr ⟨List.mem_append_right _ (List.mem_of_getElem? h), g⟩
theorem nw_warm {w : Cond} (hk : nwk w = true) {s U : State} (hW : s.WarmedH U.vm) (h : va_Nw w s) : va_Nw w U := by
  cases w <;> first | exact va_Nw.warmC hW h | exact va_Nw.warmD hW h | exact va_Nw.warmM hW h | (simp [nwk] at hk)
theorem nw_ot {w : Cond} (hk : nwk w = true) : w.onTables = true := by
  cases w <;> first | rfl | (simp [nwk] at hk)
def aos : List String := ["TwistyBarrels$Permutation", "TwistyBarrels$State"]
def exs : List String := ["java/lang/IndexOutOfBoundsException", "java/lang/IllegalArgumentException", "java/lang/IllegalStateException", "java/lang/UnsupportedOperationException", "java/util/NoSuchElementException"]
/-- where the law's cells begin; the classes' numbers and slots; the array classes' numbers -/
abbrev GX : Type := (Nat × Nat × (Nat → Int32)) × (Nat → Nat) × (Nat → Nat) × Nat × Nat
/-- where the law's cells begin, the law's own cells now, and what lies there from the start: the script, the constant texts, the two rows of digits -/
abbrev GP : Type := (Nat × va_W × GX) × va_G × (Nat → ClassId)
abbrev gB (g : GP) : Nat := g.1.2.2.1.1
abbrev gL (g : GP) : Nat := g.1.2.2.1.2.1
abbrev gXs (g : GP) : Nat → Int32 := g.1.2.2.1.2.2
abbrev gK (g : GP) : Nat → Nat := g.1.2.2.2.1
abbrev gV (g : GP) : Nat → Nat := g.1.2.2.2.2.1
abbrev gT1 (g : GP) : Nat := g.1.2.2.2.2.2.1
abbrev gT0 (g : GP) : Nat := g.1.2.2.2.2.2.2
/-- the same, with other cells of the law -/
abbrev gx (g : GP) (e : va_W) : GP := ((g.1.1, e, g.1.2.2), g.2)
/-- a method: its class, code, locals, what it returns, its table, whether it is a constructor -/
abbrev MI : Type := String × ByteArray × Nat × Option FieldType × List (Nat × Nat × Nat × Nat) × Bool
def gtys (g : GP) : List (ClassId × FieldType) := [(g.2.2 0, .int), (g.2.2 1, .boolean), (g.2.2 2, .char), (g.2.2 3, .long), (g.2.2 4, .object "TwistyBarrels$Permutation"), (g.2.2 5, .object "TwistyBarrels$State"), (g.2.2 6, .byte)]
def gA (g : GP) : Nat → Prop := fun q => g.1.1 ≤ q
/-- the texts that the class throws with: entry and text -/
def strs : List (Nat × String) := [(323, "there is no such place"), (312, "no change can be undone"), (325, "the number is out of range"), (331, "it is refused"), (327, "there is nothing on the shelf"), (272, "the input is full"), (160, "there is no such shelf"), (350, "the text is no sequence"), (294, "there is no such account")]
/-- the law's constant texts: entry, text; their bytes -/
def lst : List (Nat × String) := [(286, ""), (326, "s"), (331, "r"), (333, "2"), (335, "[r"), (337, "3,c"), (339, "1](c"), (341, "2)3")]
def lsB : List (List Int32) := [[], [115], [114], [50], [91, 114], [51, 44, 99], [49, 93, 40, 99], [50, 41, 51]]
def lsN : List Nat := [0, 1, 1, 1, 2, 3, 4, 3]
/-- the last and the first digit of a number below 100 -/
def dg1 (j : Nat) : Int32 := nI (48 + j % 10)
def dg0 (j : Nat) : Int32 := nI (48 + j / 10)
/-- what lies there from the start and is only read: the script, the constant texts, the rows of digits, a switch of the texts -/
def AmbX (g : GP) (U : State) : Prop :=
  (gB g < g.1.1 ∧ gB g < U.heap.size ∧ va_X (gB g) (gL g) (gXs g) U U.heap) ∧
  va_Z "java/lang/String" "COMPACT_STRINGS" "Z" (.int 1) (gA g) U U.heap ∧
  va_Zq "jdk/internal/util/Preconditions" "SIOOBE_FORMATTER" "Ljava/util/function/BiFunction;" (gA g) U U.heap ∧
  (va_Z "java/lang/Integer" "DigitOnes" "[B" (.ref (gT1 g)) (gA g) U U.heap ∧ va_T .byte (gT1 g) 100 (fun j => .int (dg1 j)) (gA g) U U.heap) ∧
  (va_Z "java/lang/Integer" "DigitTens" "[B" (.ref (gT0 g)) (gA g) U U.heap ∧ va_T .byte (gT0 g) 100 (fun j => .int (dg0 j)) (gA g) U U.heap) ∧
  vk_S 8 lsN lsB (gK g) (gV g) (gA g) U U.heap ∧
  (∀ i, i < 8 → vk_R "TwistyBarrelsLaw" (lst.getD i (0, "")).1 (lst.getD i (0, "")).2 (gK g i) U)
/-- what lies about the system: the classes, the two statics that a throw reads, the texts; the system's cells come behind -/
def Amb (g : GP) (U : State) : Prop := va_K g.2.1 vwCl (gtys g) U ∧ vx_Zq Bundle.tN "UNASSIGNED_STACK" Bundle.steD (gA g) U U.heap ∧ vx_Zq Bundle.tN "SUPPRESSED_SENTINEL" Bundle.listD (gA g) U U.heap ∧ (∀ q ∈ strs, ∃ a, vk_R RX7 q.1 q.2 a U) ∧ g.1.1 ≤ U.heap.size ∧ (∀ z ∈ NWL, va_Nw z U) ∧ (∀ a ∈ exs, ∀ b ∈ exs, a ≠ b → va_Nc a b U) ∧ (∀ C ∈ aos, va_AO C U) ∧ AmbX g U
/-- the heap holds the world w, its cells apart, in the system's part -/
def Wd (g : GP) (w : va_W) (H : Heap) : Prop := va_P g.2.1 vwCl w H ∧ va_D (gA g) w
def Cx (g : GP) (M : MI) (p : Program) (ln : Launch) (s : State) (m : MethodId) (args : Array Value) (meth : Method) (c : Code) : Prop :=
  p.tables.exec = Jvm.exec ∧ c.code = M.2.1 ∧ c.maxLocals = M.2.2.1 ∧ meth.sig.returnType = M.2.2.2.1 ∧ s.vm.findClass M.1 = some m.cls ∧ (∀ w ∈ BIG, w.before args s = true) ∧ meth.locks = false ∧ ln.stackTraces = false ∧ (M.2.2.2.2.2 = false → c.exceptionTable.toList = tableOf M.2.2.2.2.1) ∧ (M.2.2.2.2.2 = true → meth.name = "<init>") ∧ Amb g s
def lvx : Nat → List (Option Value) → List (Nat × Value)
  | _, [] => []
  | i, none :: t => lvx (i + 1) t
  | i, some v :: t => (i, v) :: lvx (i + 1) t
theorem lvx_mem : ∀ (l : List (Option Value)) (i0 j : Nat) (v : Value), (j, v) ∈ lvx i0 l ↔ ∃ t, j = i0 + t ∧ l[t]? = some (some v)
  | [], i0, j, v => by simp [lvx]
  | none :: l, i0, j, v => by
    rw [show lvx i0 (none :: l) = lvx (i0 + 1) l from rfl, lvx_mem l (i0 + 1) j v]
    constructor
    · rintro ⟨t, h1, h2⟩; exact ⟨t + 1, by omega, by simpa using h2⟩
    · rintro ⟨t, h1, h2⟩
      cases t with
      | zero => simp at h2
      | succ t => exact ⟨t, by omega, by simpa using h2⟩
  | some x :: l, i0, j, v => by
    rw [show lvx i0 (some x :: l) = (i0, x) :: lvx (i0 + 1) l from rfl, List.mem_cons, lvx_mem l (i0 + 1) j v]
    constructor
    · rintro (h | ⟨t, h1, h2⟩)
      · cases h; exact ⟨0, by omega, by simp⟩
      · exact ⟨t + 1, by omega, by simpa using h2⟩
    · rintro ⟨t, h1, h2⟩
      cases t with
      | zero => simp at h2; subst h2; exact Or.inl (by rw [h1]; rfl)
      | succ t => exact Or.inr ⟨t, by omega, by simpa using h2⟩
theorem lvx_get {ls : Array Slot} {nL : Nat} {l : List (Option Value)} (h : lv_has ls nL (lvx 0 l)) {i : Nat} {v : Value} (hi : l[i]? = some (some v)) : ls[i]? = some (.val v) := h.2.2 (i, v) ((lvx_mem l 0 i v).mpr ⟨i, by omega, hi⟩)
def cat1 (o : Option (Option Value)) : Bool := match o with
  | some (some v) => v.category == 1
  | _ => true
/-- behind a store of one slot -/
theorem lvx_set {ls : Array Slot} {nL : Nat} {l l' : List (Option Value)} {i : Nat} {v : Value} (h : lv_has ls nL ((i, v) :: (lvx 0 l).filter (fun q => !(q.1 == i) && !(q.1 + 1 == i && q.2.category == 2)))) (hc : i = 0 ∨ cat1 l[i - 1]? = true) (hl : l.set i (some v) = l') : lv_has ls nL (lvx 0 l') := by
  refine ⟨h.1, h.2.1, fun q hq => h.2.2 q ?_⟩
  obtain ⟨j, w⟩ := q
  rw [← hl] at hq
  obtain ⟨t, h1, h2⟩ := (lvx_mem _ 0 j w).mp hq
  have h1 : t = j := by omega
  subst h1
  by_cases e : t = i
  · subst e
    have hlt : t < l.length := by
      have := (List.getElem?_eq_some_iff.mp h2).1
      simpa using this
    rw [List.getElem?_set_self hlt] at h2
    cases h2
    exact List.mem_cons_self
  · rw [List.getElem?_set_ne (Ne.symm e)] at h2
    refine List.mem_cons_of_mem _ (List.mem_filter.mpr ⟨(lvx_mem l 0 t w).mpr ⟨t, by omega, h2⟩, ?_⟩)
    have e1 : (t == i) = false := by simpa using e
    simp only [e1, Bool.not_false, Bool.true_and]
    by_cases e2 : t + 1 = i
    · rcases hc with hc | hc
      · omega
      · rw [show i - 1 = t by omega, h2] at hc
        have : w.category = 1 := by simpa [cat1] using hc
        simp [this]
    · simp [e2]
/-- fewer locals known -/
theorem lvx_sub {ls : Array Slot} {nL : Nat} {l l' : List (Option Value)} (h : lv_has ls nL (lvx 0 l)) (hl : ∀ (t : Nat) (v : Value), l'[t]? = some (some v) → l[t]? = some (some v)) : lv_has ls nL (lvx 0 l') := by
  refine ⟨h.1, h.2.1, fun q hq => h.2.2 q ?_⟩
  obtain ⟨j, w⟩ := q
  obtain ⟨t, h1, h2⟩ := (lvx_mem _ 0 j w).mp hq
  exact (lvx_mem _ 0 j w).mpr ⟨t, h1, hl t w h2⟩
abbrev QT : Type := List Frame → Array Value → State → State → Prop
def J (g : GP) (M : MI) (R : Room) (Q : QT) (k n : Nat) (w : va_W) (pc : Nat) (l : List (Option Value)) (st : List Value) : Prop :=
  ∀ (p : Program) (ln : Launch) (e : Env) (s : State) (m : MethodId) (args : Array Value) (below : List Frame) (meth : Method) (c : Code), Cx g M p ln s m args meth c →
    ∀ (H : Heap) (locs : List Loc) (ls : Array Slot), Wd g w H → va_S (gA g) s.heap H locs → lv_has ls M.2.2.1 (lvx 0 l) → W p ln e R s m args below meth c H locs k n (Q below args s) (F0 m pc ls st)
/-- the frame with E thrown over it -/
def JX (g : GP) (M : MI) (R : Room) (Q : QT) (k n : Nat) (w : va_W) (pc : Nat) (l : List (Option Value)) (st : List Value) (E : String) : Prop :=
  ∀ (p : Program) (ln : Launch) (e : Env) (s : State) (m : MethodId) (args : Array Value) (below : List Frame) (meth : Method) (c : Code), Cx g M p ln s m args meth c →
    ∀ (H : Heap) (locs : List Loc) (ls : Array Slot) (q : Addr) (ce : Cell), Wd g w H → va_S (gA g) s.heap H locs → lv_has ls M.2.2.1 (lvx 0 l) → H[q]? = some ce → ce.vm = .none → s.vm.findClass E = some ce.cls → vx_W p ln e R s m args below meth c H locs k n (Q below args s) (F0 m pc ls st) q
abbrev PT : Type := (Option Value ⊕ String) → va_W → Prop
def QR (g : GP) (P : PT) : State → Outcome → State → Prop := fun st o t => ∃ v w', o = .returned v ∧ P (.inl v) w' ∧ Wd g w' t.heap ∧ va_F (gA g) st t
def XR (g : GP) (P : PT) : String → State → State → Prop := fun E st t => ∃ w', P (.inr E) w' ∧ Wd g w' t.heap ∧ va_F (gA g) st t
def MQx (g : GP) (R : Room) (P : PT) : QT := fun below args s => vx_MQ below (fun _ => QR g P) (XR g P) args s R.cells R.slots (gA g)
/-- a method's contract over the world w with the arguments av -/
def CT (g : GP) (y : MethodName) (M : MI) (R : Room) (w : va_W) (av : List Value) (P : PT) : Prop :=
  ∀ ln : Launch, ln.stackTraces = false → vx_Met ln y (Cond.code y M.2.1 M.2.2.1 M.2.2.2.1 :: BIG) R (va_Pc av (fun U => Amb g U ∧ Wd g w U.heap)) (fun _ => QR g P) (XR g P) R.cells R.slots (gA g)
/-- the same for a constructor (it throws nothing) -/
def CI (g : GP) (y : MethodName) (M : MI) (R : Room) (w : va_W) (av : List Value) (P : PT) : Prop :=
  ∀ ln : Launch, ln.stackTraces = false → Met ln y (Cond.code y M.2.1 M.2.2.1 M.2.2.2.1 :: BIG) R (va_Pc av (fun U => Amb g U ∧ Wd g w U.heap)) (fun _ => QR g P) R.cells R.slots (gA g)
def MQi (g : GP) (R : Room) (P : PT) : QT := fun below args s => MQ below (fun _ => QR g P) args s R.cells R.slots (gA g)
/-- a method with a table of its own -/
def CW (g : GP) (y : MethodName) (M : MI) (R : Room) (w : va_W) (av : List Value) (P : PT) : Prop :=
  ∀ ln : Launch, ln.stackTraces = false → vx_Met ln y (Cond.codeWith y M.2.1 M.2.2.1 M.2.2.2.1 M.2.2.2.2.1 :: BIG) R (va_Pc av (fun U => Amb g U ∧ Wd g w U.heap)) (fun _ => QR g P) (XR g P) R.cells R.slots (gA g)
theorem AmbX.at {g : GP} {s U : State} {H : Heap} {locs : List Loc} (h : AmbX g s) (hS : va_S (gA g) s.heap H locs) (hU : U.heap = H) (hW : s.WarmedH U.vm) : AmbX g U := by
  obtain ⟨⟨h1, h1a, h1b⟩, h2, h3, ⟨h4, h5⟩, ⟨h6, h7⟩, h8, h9⟩ := h
  have hv : s.vm.Alike U.vm := hW.alike
  have hk : ∀ a : Nat, a < s.heap.size → ¬ gA g a → H[a]? = s.heap[a]? := fun a ha hn => hS.2.1 a ha hn
  subst hU
  exact ⟨⟨h1, Nat.lt_of_lt_of_le h1a hS.1, (va_X.moved hv h1b).kept (hk _ h1a (Nat.not_le.mpr h1))⟩, (h2.moved hv).kept hk, (h3.moved hv).kept hk, ⟨(h4.moved hv).kept hk, (h5.moved hv).kept hk⟩, ⟨(h6.moved hv).kept hk, (h7.moved hv).kept hk⟩, (h8.moved hv).kept hk, fun i hi => (h9 i hi).warm hW⟩
theorem AmbX.blind {g : GP} {U : State} {gf : JFrame} {mk : MethodId} {a : Array Value} (h : AmbX g U) : AmbX g (U.calling gf mk a) := by
  obtain ⟨⟨h1, h1a, h1b⟩, h2, h3, ⟨h4, h5⟩, ⟨h6, h7⟩, h8, h9⟩ := h
  have hv : U.vm.Alike (U.calling gf mk a).vm := Vm.Alike.refl U.vm
  exact ⟨⟨h1, h1a, va_X.moved hv h1b⟩, h2.moved hv, h3.moved hv, ⟨h4.moved hv, h5.moved hv⟩, ⟨h6.moved hv, h7.moved hv⟩, h8.moved hv, fun i hi => vk_R.same (u := U) rfl (h9 i hi)⟩
theorem Amb.at {g : GP} {s U : State} {H : Heap} {locs : List Loc} (h : Amb g s) (hS : va_S (gA g) s.heap H locs) (hU : U.heap = H) (hW : s.WarmedH U.vm) : Amb g U := by
  obtain ⟨h1, h2, h3, h4, h5, h6, h7, h8, h9⟩ := h
  have hv : s.vm.Alike U.vm := hW.alike
  refine ⟨h1.moved hv, ?_, ?_, fun q hq => ?_, by rw [hU]; exact Nat.le_trans h5 hS.1, fun z hz => nw_warm (List.mem_filter.mp hz).2 hW (h6 z hz), fun a ha b hb hn => (h7 a ha b hb hn).moved hv, fun C hC => (h8 C hC).moved hv, h9.at hS hU hW⟩
  · rw [hU]; exact (h2.moved hv).kept (fun a ha hn => hS.2.1 a ha hn)
  · rw [hU]; exact (h3.moved hv).kept (fun a ha hn => hS.2.1 a ha hn)
  · obtain ⟨a, ha⟩ := h4 q hq
    exact ⟨a, ha.warm hW⟩
theorem Amb.blind {g : GP} {U : State} {gf : JFrame} {mk : MethodId} {a : Array Value} (h : Amb g U) : Amb g (U.calling gf mk a) := by
  obtain ⟨h1, h2, h3, h4, h5, h6, h7, h8, h9⟩ := h
  have hv : U.vm.Alike (U.calling gf mk a).vm := Vm.Alike.refl U.vm
  refine ⟨h1.moved hv, h2.moved hv, h3.moved hv, fun q hq => ?_, h5, fun z hz => va_Nw.same (nw_ot (List.mem_filter.mp hz).2) (u := U) rfl (h6 z hz), fun a ha b hb hn => (h7 a ha b hb hn).moved hv, fun C hC => (h8 C hC).moved hv, h9.blind⟩
  obtain ⟨z, hz⟩ := h4 q hq
  exact ⟨z, vk_R.same (u := U) rfl hz⟩
theorem pc_blind {g : GP} {w : va_W} {av : List Value} : FrameBlind (va_Pc av (fun U => Amb g U ∧ Wd g w U.heap)) := fun _ _ _ _ h => ⟨h.1, h.2.1.blind, h.2.2⟩
theorem pc_pre {g : GP} {w : va_W} {av : List Value} {s : State} {H : Heap} {locs : List Loc} (h : Amb g s) (hS : va_S (gA g) s.heap H locs) (hw : Wd g w H) : ∀ U : State, U.heap = H → s.WarmedH U.vm → va_Pc av (fun U => Amb g U ∧ Wd g w U.heap) av.toArray U := fun U hU hW => ⟨rfl, h.at hS hU hW, by rw [hU]; exact hw⟩
section JJ
variable {g : GP} {M : MI} {R : Room} {Q : QT} {k n pc : Nat} {w : va_W} {l : List (Option Value)} {st : List Value}
theorem J.sub {l' : List (Option Value)} (K : J g M R Q k n w pc l' st) (hl : ∀ (t : Nat) (v : Value), l'[t]? = some (some v) → l[t]? = some (some v)) : J g M R Q k n w pc l st :=
  fun p ln e s m args below meth c C H locs ls hw hS h => K p ln e s m args below meth c C H locs ls hw hS (lvx_sub h hl)
theorem J.widen {k' n' : Nat} (h1 : k ≤ k') (h2 : n ≤ n') (K : J g M R Q k' n' w pc l st) : J g M R Q k n w pc l st :=
  fun p ln e s m args below meth c C H locs ls hw hS h => W.widen h1 h2 (K p ln e s m args below meth c C H locs ls hw hS h)
theorem J.callG {st0 : List Value} {mc ms : Nat} {P : PT} (hrun : ∀ (p : Program) (ln : Launch) (e : Env) (s : State) (m : MethodId) (args : Array Value) (below : List Frame) (meth : Method) (c : Code), Cx g M p ln s m args meth c →
      ∀ (H : Heap) (locs : List Loc) (ls : Array Slot), Wd g w H → va_S (gA g) s.heap H locs → lv_has ls M.2.2.1 (lvx 0 l) → vx_Run p ln e R s m args below meth c H locs k n mc ms (F0 m pc ls st0) st (QR g P) (XR g P) (gA g))
    (kk : ∀ v w', P (.inl v) w' → J g M R Q (k + mc) (n + ms) w' (pc + 3) l (v.toList ++ st)) (kx : ∀ E w', P (.inr E) w' → JX g M R Q (k + mc) (n + ms) w' pc l st E) : J g M R Q k n w pc l st0 := by
  intro p ln e s m args below meth c C H locs ls hw hS hl T hT X
  rcases hrun p ln e s m args below meth c C H locs ls hw hS hl T hT X with ⟨v, st₀, t, T', L, h0, X', hL, e1, e2, ⟨v', w', hv, hp, hw', hF⟩, stp⟩ | ⟨q, st₀, t, T', L, E, ce, h0, X', hL, e1, e2, ⟨w', hp, hw', hF⟩, hce, hcv, hcl, stp⟩
  · cases hv
    obtain ⟨-, -, k3⟩ := vx_keep h0 e1 hS (fun q _ h => h) (fun q h => h) hL hF
    obtain ⟨t2, a1, b1⟩ := kk v w' hp p ln e s m args below meth c C T'.heap (locs ++ L) ls (by rw [e1]; exact hw') k3 hl T' rfl X'
    exact ⟨t2, stp t2 a1, b1⟩
  · obtain ⟨-, -, k3⟩ := vx_keep h0 e1 hS (fun q _ h => h) (fun q h => h) hL hF
    obtain ⟨t2, a1, b1⟩ := kx E w' hp p ln e s m args below meth c C T'.heap (locs ++ L) ls q ce (by rw [e1]; exact hw') k3 hl (by rw [e1]; exact hce) hcv hcl T' rfl X'
    exact ⟨t2, stp.trans a1, b1⟩
/-- not caught here -/
theorem JX.out {P : PT} {E : String} (hp : P (.inr E) w) (hi : M.2.2.2.2.2 = false) (ht : M.2.2.2.2.1 = []) (hk : k ≤ R.cells) (hn : n ≤ R.slots) : JX g M R (MQx g R P) k n w pc l st E := by
  intro p ln e s m args below meth c C H locs ls q ce hw hS hl hce hcv hcl
  have htab := C.2.2.2.2.2.2.2.2.1 hi
  rw [ht] at htab
  exact vx_out (fun x hx => by rw [htab] at hx; cases hx) C.2.2.2.2.2.2.1 hce hcv hcl (fun t ht _ => ⟨w, hp, by rw [ht]; exact hw, hS.F ht⟩) hS.2.2 hk hn
/-- from the walk of the body to the contract -/
theorem CT.of {y : MethodName} {av : List Value} {P : PT} {l0 : List (Option Value)} {own : String} {cc : ByteArray} {nL : Nat} {ret : Option FieldType} (hy : plainName y.cls = true) (hyc : y.cls = own) (hn : (lg_sl av).length ≤ nL) (hl : lv_args 0 av = lvx 0 l0)
    (K : J g (own, cc, nL, ret, [], false) R (MQx g R P) 0 0 w 0 l0 []) : CT g y (own, cc, nL, ret, [], false) R w av P := by
  intro ln hst
  refine vx_ofW (cc := cc) (maxL := nL) (ret := ret) hy rfl ?_
  intro p e s m args below meth c s₁ B hml htab hv
  obtain ⟨rfl, hamb, hw⟩ := hv
  have hts0 := atoms_spec (ws := Cond.code y cc nL ret :: BIG) B.pre
  have hown : s.vm.findClass own = some m.cls := by rw [← hyc]; exact findClass_of_methodNamed B.named
  have hl9 := lv_entry av (n := nL) hn
  rw [lg_entry_eq]
  generalize (lg_sl av ++ List.replicate (nL - (lg_sl av).length) Slot.unset).toArray = ls at hl9 ⊢
  rw [hl] at hl9
  have htab9 : c.exceptionTable.toList = tableOf [] := by
    have : c.exceptionTable.toList = [] := List.eq_nil_iff_forall_not_mem.mpr htab
    rw [this]; rfl
  exact K p ln e s m av.toArray below meth c ⟨B.exec, B.bytes, hml, B.returns, hown, fun w hw => hts0 w (List.mem_cons_of_mem _ hw), B.notSynchronized, hst, fun _ => htab9, fun h => (by cases h), hamb⟩ s.heap [] ls hw va_S.rf hl9
theorem CI.of {y : MethodName} {av : List Value} {P : PT} {l0 : List (Option Value)} {own : String} {cc : ByteArray} {nL : Nat} (hy : plainName y.cls = true) (hyc : y.cls = own) (hyn : y.name = "<init>") (hn : (lg_sl av).length ≤ nL) (hl : lv_args 0 av = lvx 0 l0)
    (K : J g (own, cc, nL, none, [], true) R (MQi g R P) 0 0 w 0 l0 []) : CI g y (own, cc, nL, none, [], true) R w av P := by
  intro ln hst
  refine Met.ofW (cc := cc) (maxL := nL) (ret := none) hy rfl ?_
  intro p e s m args below meth c s₁ B hml hv
  obtain ⟨rfl, hamb, hw⟩ := hv
  have hts0 := atoms_spec (ws := Cond.code y cc nL none :: BIG) B.pre
  have hown : s.vm.findClass own = some m.cls := by rw [← hyc]; exact findClass_of_methodNamed B.named
  have hin : meth.name = "<init>" := (name_of_methodNamed B.named B.method).1.trans hyn
  have hl9 := lv_entry av (n := nL) hn
  rw [lg_entry_eq]
  generalize (lg_sl av ++ List.replicate (nL - (lg_sl av).length) Slot.unset).toArray = ls at hl9 ⊢
  rw [hl] at hl9
  exact K p ln e s m av.toArray below meth c ⟨B.exec, B.bytes, hml, B.returns, hown, fun w hw => hts0 w (List.mem_cons_of_mem _ hw), B.notSynchronized, hst, fun h => (by cases h), fun _ => hin, hamb⟩ s.heap [] ls hw va_S.rf hl9
theorem CW.of {y : MethodName} {av : List Value} {P : PT} {l0 : List (Option Value)} {own : String} {cc : ByteArray} {nL : Nat} {ret : Option FieldType} {hh : List (Nat × Nat × Nat × Nat)} (hy : plainName y.cls = true) (hyc : y.cls = own) (hn : (lg_sl av).length ≤ nL) (hl : lv_args 0 av = lvx 0 l0)
    (K : J g (own, cc, nL, ret, hh, false) R (MQx g R P) 0 0 w 0 l0 []) : CW g y (own, cc, nL, ret, hh, false) R w av P := by
  intro ln hst
  refine vx_ofWH (cc := cc) (maxL := nL) (ret := ret) (hh := hh) hy rfl ?_
  intro p e s m args below meth c s₁ B hml hv
  obtain ⟨rfl, hamb, hw⟩ := hv
  have hts0 := atoms_spec (ws := Cond.codeWith y cc nL ret hh :: BIG) B.pre
  have hown : s.vm.findClass own = some m.cls := by rw [← hyc]; exact findClass_of_methodNamed B.named
  have hl9 := lv_entry av (n := nL) hn
  rw [lg_entry_eq]
  generalize (lg_sl av ++ List.replicate (nL - (lg_sl av).length) Slot.unset).toArray = ls at hl9 ⊢
  rw [hl] at hl9
  have htab9 : c.exceptionTable.toList = tableOf hh := vx_table (x := y) B (hts0 _ List.mem_cons_self)
  exact K p ln e s m av.toArray below meth c ⟨B.exec, B.bytes, hml, B.returns, hown, fun w hw => hts0 w (List.mem_cons_of_mem _ hw), B.notSynchronized, hst, fun _ => htab9, fun h => (by cases h), hamb⟩ s.heap [] ls hw va_S.rf hl9
/-! calls -/
theorem J.callV {C : String} {y : MethodName} {My : MI} {Ry : Room} {b idx na : Nat} {As : List Value} {P : PT} {d : String} (hC : CT g y My Ry w (.ref b :: As) P)
    (f1 : Cond.methodLink M.1 idx y ∈ BIG) (f2 : Cond.instanceMethod y ∈ BIG) (f3 : Cond.selects C y y ∈ BIG) (f4 : Cond.initialized C ∈ BIG) (f5 : Cond.code y My.2.1 My.2.2.1 My.2.2.2.1 ∈ BIG)
    (hd : y.cls = C ∧ y.cls ≠ "java/lang/invoke/MethodHandle" ∧ y.cls ≠ "java/lang/invoke/VarHandle" ∧ (parseMethodDescriptor y.desc).map (fun d => d.parameters.length) = some na) (hna : As.length = na)
    (hR : Ry.frames + 1 ≤ R.frames ∧ 8 + (My.2.2.1 + 11) + Ry.locals ≤ R.locals) (q0 : Nat) {ci : Nat} {q : vw_C} {fs : List Value} (hq : vwCl[ci]? = some q) (hqC : q.1 = C) (he : w[q0]? = some (b, .inr (ci, fs)))
    (hW : (st.map fun v => v.category).sum ≤ 8) (hdg : decode M.2.1 pc = .ok (.invokevirtual idx, 3)) (hk : k + Ry.cells ≤ R.cells ∧ n + Ry.slots ≤ R.slots)
    (kk : ∀ v w', P (.inl v) w' → J g M R Q (k + Ry.cells) (n + Ry.slots) w' (pc + 3) l (v.toList ++ st)) (kx : ∀ E w', P (.inr E) w' → JX g M R Q (k + Ry.cells) (n + Ry.slots) w' pc l st E) : J g M R Q k n w pc l (As.reverse ++ .ref b :: st) := by
  refine J.callG (P := P) (mc := Ry.cells) (ms := Ry.slots) ?_ kk kx
  intro p ln e s m args below meth c C9 H locs ls hw hS hl
  obtain ⟨hx, hb, hml, hr, hown, hts, hlk, hst, htab, hini, hamb⟩ := C9
  subst hqC
  exact vx_runV (As := As) (rest := st) (Ts := BIG) (own := M.1) ⟨hx, hb, hml, hown, hts⟩ (hC ln hst)
    (cwV (ws' := BIG) na hts (goodIn_big (fun z hz => by
      simp only [wsV, List.cons_append, List.nil_append, List.mem_cons] at hz
      rcases hz with rfl | rfl | rfl | rfl | rfl | hz
      · exact f1
      · exact f2
      · exact f3
      · exact f4
      · exact f5
      · exact hz)) rfl rfl rfl hd hR)
    ⟨pc_blind, va_recv hamb.1 hw.1 hq he, pc_pre hamb hS hw⟩ rfl hna hl.1 rfl (lv_room hW) hdg hk
theorem J.callS {y : MethodName} {My : MI} {Ry : Room} {idx na : Nat} {As : List Value} {P : PT} (hC : CT g y My Ry w As P)
    (f1 : Cond.methodLink M.1 idx y ∈ BIG) (f2 : Cond.static y ∈ BIG) (f4 : Cond.initialized M.1 ∈ BIG) (f5 : Cond.code y My.2.1 My.2.2.1 My.2.2.2.1 ∈ BIG)
    (hd : y.cls = M.1 ∧ y.cls ≠ "java/lang/invoke/MethodHandle" ∧ y.cls ≠ "java/lang/invoke/VarHandle" ∧ (parseMethodDescriptor y.desc).map (fun d => d.parameters.length) = some na) (hna : As.length = na)
    (hR : Ry.frames + 1 ≤ R.frames ∧ 8 + (My.2.2.1 + 11) + Ry.locals ≤ R.locals)
    (hW : (st.map fun v => v.category).sum ≤ 8) (hdg : decode M.2.1 pc = .ok (.invokestatic idx, 3)) (hk : k + Ry.cells ≤ R.cells ∧ n + Ry.slots ≤ R.slots)
    (kk : ∀ v w', P (.inl v) w' → J g M R Q (k + Ry.cells) (n + Ry.slots) w' (pc + 3) l (v.toList ++ st)) (kx : ∀ E w', P (.inr E) w' → JX g M R Q (k + Ry.cells) (n + Ry.slots) w' pc l st E) : J g M R Q k n w pc l (As.reverse ++ st) := by
  refine J.callG (P := P) (mc := Ry.cells) (ms := Ry.slots) ?_ kk kx
  intro p ln e s m args below meth c C9 H locs ls hw hS hl
  obtain ⟨hx, hb, hml, hr, hown, hts, hlk, hst, htab, hini, hamb⟩ := C9
  exact vx_runS (As := As) (rest := st) (Ts := BIG) (own := M.1) ⟨hx, hb, hml, hown, hts⟩ (hC ln hst)
    (cwS (ws' := BIG) na hts (goodIn_big (fun z hz => by
      simp only [wsS, List.cons_append, List.nil_append, List.mem_cons] at hz
      rcases hz with rfl | rfl | rfl | rfl | hz
      · exact f1
      · exact f2
      · exact f4
      · exact f5
      · exact hz)) rfl rfl rfl hd hR)
    ⟨pc_blind, pc_pre hamb hS hw⟩ rfl hna hl.1 rfl (lv_room hW) hdg hk
theorem J.callSN {y : MethodName} {My : MI} {Ry : Room} {idx na : Nat} {host : String} {As : List Value} {P : PT} (hC : CT g y My Ry w As P)
    (f1 : Cond.methodLinkNest M.1 idx y host ∈ NWL) (f2 : Cond.static y ∈ BIG) (f4 : Cond.initialized y.cls ∈ BIG) (f5 : Cond.code y My.2.1 My.2.2.1 My.2.2.2.1 ∈ BIG)
    (hd : y.cls ≠ "java/lang/invoke/MethodHandle" ∧ y.cls ≠ "java/lang/invoke/VarHandle" ∧ (parseMethodDescriptor y.desc).map (fun d => d.parameters.length) = some na) (hna : As.length = na)
    (hR : Ry.frames + 1 ≤ R.frames ∧ 8 + (My.2.2.1 + 11) + Ry.locals ≤ R.locals)
    (hW : (st.map fun v => v.category).sum ≤ 8) (hdg : decode M.2.1 pc = .ok (.invokestatic idx, 3)) (hk : k + Ry.cells ≤ R.cells ∧ n + Ry.slots ≤ R.slots)
    (kk : ∀ v w', P (.inl v) w' → J g M R Q (k + Ry.cells) (n + Ry.slots) w' (pc + 3) l (v.toList ++ st)) (kx : ∀ E w', P (.inr E) w' → JX g M R Q (k + Ry.cells) (n + Ry.slots) w' pc l st E) : J g M R Q k n w pc l (As.reverse ++ st) := by
  refine J.callG (P := P) (mc := Ry.cells) (ms := Ry.slots) ?_ kk kx
  intro p ln e s m args below meth c C9 H locs ls hw hS hl
  obtain ⟨hx, hb, hml, hr, hown, hts, hlk, hst, htab, hini, hamb⟩ := C9
  exact vx_runSN (As := As) (rest := st) (Ts := BIG) (own := M.1) ⟨hx, hb, hml, hown, hts⟩ (hC ln hst)
    ⟨va_cnB (ws' := BIG) na hts (goodIn_big (fun z hz => by
      rcases List.mem_cons.mp hz with rfl | hz
      · exact f5
      · exact hz)) rfl rfl rfl (hamb.2.2.2.2.2.1 _ f1) (hts _ f4) hd hR, hts _ f2, trivial⟩
    ⟨pc_blind, pc_pre hamb hS hw⟩ rfl hna hl.1 rfl (lv_room hW) hdg hk
/-- a static method with a table, called from the law -/
theorem J.callSW {y : MethodName} {My : MI} {Ry : Room} {idx na : Nat} {As : List Value} {P : PT} (hC : CW g y My Ry w As P)
    (f1 : Cond.methodLink M.1 idx y ∈ BIG) (f2 : Cond.static y ∈ BIG) (f4 : Cond.initialized y.cls ∈ BIG) (f5 : Cond.codeWith y My.2.1 My.2.2.1 My.2.2.2.1 My.2.2.2.2.1 ∈ BIG)
    (hd : y.cls ≠ "java/lang/invoke/MethodHandle" ∧ y.cls ≠ "java/lang/invoke/VarHandle" ∧ (parseMethodDescriptor y.desc).map (fun d => d.parameters.length) = some na) (hna : As.length = na)
    (hR : Ry.frames + 1 ≤ R.frames ∧ 8 + (My.2.2.1 + 11) + Ry.locals ≤ R.locals)
    (hW : (st.map fun v => v.category).sum ≤ 8) (hdg : decode M.2.1 pc = .ok (.invokestatic idx, 3)) (hk : k + Ry.cells ≤ R.cells ∧ n + Ry.slots ≤ R.slots)
    (kk : ∀ v w', P (.inl v) w' → J g M R Q (k + Ry.cells) (n + Ry.slots) w' (pc + 3) l (v.toList ++ st)) (kx : ∀ E w', P (.inr E) w' → JX g M R Q (k + Ry.cells) (n + Ry.slots) w' pc l st E) : J g M R Q k n w pc l (As.reverse ++ st) := by
  refine J.callG (P := P) (mc := Ry.cells) (ms := Ry.slots) ?_ kk kx
  intro p ln e s m args below meth c C9 H locs ls hw hS hl
  obtain ⟨hx, hb, hml, hr, hown, hts, hlk, hst, htab, hini, hamb⟩ := C9
  exact vx_runSX (As := As) (rest := st) (Ts := BIG) (own := M.1) (hh := My.2.2.2.2.1) (bytes := My.2.1) (maxL := My.2.2.1) (ret := My.2.2.2.1) ⟨hx, hb, hml, hown, hts⟩ (hC ln hst)
    (vx_cwSW (ws' := BIG) na hts (goodIn_big (fun z hz => by
      simp only [va_wsS, List.cons_append, List.nil_append, List.mem_cons] at hz
      rcases hz with rfl | rfl | rfl | rfl | hz
      · exact f1
      · exact f2
      · exact f4
      · exact f5
      · exact hz)) rfl rfl rfl hd hR)
    ⟨pc_blind, pc_pre hamb hS hw⟩ rfl hna hl.1 rfl (lv_room hW) hdg hk
theorem run_x {p : Program} {ln : Launch} {e : Env} {s : State} {m : MethodId} {args : Array Value} {below : List Frame} {meth : Method} {c : Code} {H : Heap} {locs : List Loc} {mc ms : Nat} {gf : JFrame} {Qa : State → Outcome → State → Prop} {XC : String → State → State → Prop} {free : Addr → Prop}
    (h : va_Run p ln e R s m args below meth c H locs k n mc ms gf st Qa free) : vx_Run p ln e R s m args below meth c H locs k n mc ms gf st Qa XC free := fun T hT X => Or.inl (h T hT X)
theorem J.callI {y : MethodName} {My : MI} {Ry : Room} {b idx na : Nat} {As : List Value} {P : PT} (hret : My.2.2.2.1 = none) (hC : CI g y My Ry w (.ref b :: As) P)
    (f1 : Cond.methodLink M.1 idx y ∈ BIG) (f2 : Cond.instanceMethod y ∈ BIG) (f4 : Cond.initialized y.cls ∈ BIG) (f5 : Cond.code y My.2.1 My.2.2.1 My.2.2.2.1 ∈ BIG) (hyn : y.name = "<init>")
    (hd : y.cls ≠ "java/lang/invoke/MethodHandle" ∧ y.cls ≠ "java/lang/invoke/VarHandle" ∧ (parseMethodDescriptor y.desc).map (fun d => d.parameters.length) = some na) (hna : As.length = na)
    (hR : Ry.frames + 1 ≤ R.frames ∧ 8 + (My.2.2.1 + 11) + Ry.locals ≤ R.locals)
    (hW : (st.map fun v => v.category).sum ≤ 8) (hdg : decode M.2.1 pc = .ok (.invokespecial idx, 3)) (hk : k + Ry.cells ≤ R.cells ∧ n + Ry.slots ≤ R.slots)
    (kk : ∀ v w', P (.inl v) w' → J g M R Q (k + Ry.cells) (n + Ry.slots) w' (pc + 3) l (v.toList ++ st)) : J g M R Q k n w pc l (As.reverse ++ .ref b :: st) := by
  refine J.callG (P := fun o w' => match o with | .inl v => P (.inl v) w' | .inr _ => False) (mc := Ry.cells) (ms := Ry.slots) ?_ kk (fun E w' h => h.elim)
  intro p ln e s m args below meth c C9 H locs ls hw hS hl
  obtain ⟨hx, hb, hml, hr, hown, hts, hlk, hst, htab, hini, hamb⟩ := C9
  refine run_x ?_
  have hC9 := hC ln hst
  rw [hret] at hC9 f5
  exact va_runI (As := As) (rest := st) (Ts := BIG) (own := M.1) ⟨hx, hb, hml, hown, hts⟩ hC9
    (cwI (ws' := BIG) na hts (goodIn_big (fun z hz => by
      rcases List.mem_cons.mp hz with rfl | hz
      · exact f5
      · exact hz)) rfl rfl rfl (hts _ f4) (hts _ f1) (hts _ f2) hyn hd hR)
    ⟨pc_blind, pc_pre hamb hS hw⟩ rfl hna hl.1 rfl (lv_room hW) hdg hk
theorem J.callIN {y : MethodName} {My : MI} {Ry : Room} {b idx na : Nat} {host : String} {As : List Value} {P : PT} (hret : My.2.2.2.1 = none) (hC : CI g y My Ry w (.ref b :: As) P)
    (f1 : Cond.methodLinkNest M.1 idx y host ∈ NWL) (f2 : Cond.instanceMethod y ∈ BIG) (f4 : Cond.initialized y.cls ∈ BIG) (f5 : Cond.code y My.2.1 My.2.2.1 My.2.2.2.1 ∈ BIG) (hyn : y.name = "<init>")
    (hd : y.cls ≠ "java/lang/invoke/MethodHandle" ∧ y.cls ≠ "java/lang/invoke/VarHandle" ∧ (parseMethodDescriptor y.desc).map (fun d => d.parameters.length) = some na) (hna : As.length = na)
    (hR : Ry.frames + 1 ≤ R.frames ∧ 8 + (My.2.2.1 + 11) + Ry.locals ≤ R.locals)
    (hW : (st.map fun v => v.category).sum ≤ 8) (hdg : decode M.2.1 pc = .ok (.invokespecial idx, 3)) (hk : k + Ry.cells ≤ R.cells ∧ n + Ry.slots ≤ R.slots)
    (kk : ∀ v w', P (.inl v) w' → J g M R Q (k + Ry.cells) (n + Ry.slots) w' (pc + 3) l (v.toList ++ st)) : J g M R Q k n w pc l (As.reverse ++ .ref b :: st) := by
  refine J.callG (P := fun o w' => match o with | .inl v => P (.inl v) w' | .inr _ => False) (mc := Ry.cells) (ms := Ry.slots) ?_ kk (fun E w' h => h.elim)
  intro p ln e s m args below meth c C9 H locs ls hw hS hl
  obtain ⟨hx, hb, hml, hr, hown, hts, hlk, hst, htab, hini, hamb⟩ := C9
  refine run_x ?_
  have hC9 := hC ln hst
  rw [hret] at hC9 f5
  exact va_runIN (As := As) (rest := st) (Ts := BIG) (own := M.1) (host := host) ⟨hx, hb, hml, hown, hts⟩ hC9
    ⟨va_cnB (ws' := BIG) na hts (goodIn_big (fun z hz => by
      rcases List.mem_cons.mp hz with rfl | hz
      · exact f5
      · exact hz)) rfl rfl rfl (hamb.2.2.2.2.2.1 _ f1) (hts _ f4) hd hR, hyn, hts _ f2⟩
    ⟨pc_blind, pc_pre hamb hS hw⟩ rfl hna hl.1 rfl (lv_room hW) hdg hk
end JJ
theorem Cx.at {g : GP} {M : MI} {p : Program} {ln : Launch} {s : State} {m : MethodId} {args : Array Value} {meth : Method} {c : Code} (C9 : Cx g M p ln s m args meth c) {L : List Cond} (h : L.all (fun w => decide (w ∈ lw_tbl) && (goodWord w || nwk w)) = true) : ∀ w ∈ L, w.before args s = true := by
  intro w hw
  have h1 := List.all_eq_true.mp h w hw
  simp only [Bool.and_eq_true, decide_eq_true_eq, Bool.or_eq_true] at h1
  rcases h1.2 with h2 | h2
  · exact C9.2.2.2.2.2.1 w (big_of h1.1 h2)
  · exact va_Nw.use (nw_ot h2) (C9.2.2.2.2.2.2.2.2.2.2.2.2.2.2.2.1 w (List.mem_filter.mpr ⟨h1.1, h2⟩))
