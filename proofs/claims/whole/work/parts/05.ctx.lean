/-! what every method may rest on beside the words: nest mates' links, texts, the table of limits -/
abbrev gG : Type := (Nat → Nat) × (Nat → Nat) × Nat
abbrev tyL (ca : Nat → ClassId) : List (ClassId × FieldType) := [(ca 0, .int), (ca 1, .char), (ca 2, .object "PacketGate$Rule"), (ca 3, .object "PacketGate$Flow")]
def tx_l : List Nat := [22, 3, 3, 4]
def tx_b : List (List Int32) := [[80, 68, 83, 105, 111, 98, 116, 117, 101, 42, 45, 44, 48, 49, 50, 51, 52, 53, 54, 55, 56, 57], [80, 68, 83], [105, 111, 98], [116, 117, 101, 42]]
def lim_f (j : Nat) : Int32 := [0, 10, 10, 60, 30, 5, 10, 30].getD j 0
abbrev nw_0 : Cond := .methodLinkNest "PacketGate$Line" 19 y_Pg_isWithin "PacketGate"
abbrev nw_1 : Cond := .methodLinkNest "PacketGate$Rule" 28 y_Pg_addressOf "PacketGate"
abbrev nw_2 : Cond := .methodLinkNest "PacketGate$Rule" 36 y_Pg_portOf "PacketGate"
abbrev nw_3 : Cond := .methodLinkNest "PacketGate$Flow" 54 y_Pg_addressOf "PacketGate"
abbrev nw_4 : Cond := .methodLinkNest "PacketGate$Flow" 58 y_Pg_portOf "PacketGate"
def gX (A : Nat → Prop) (G : gG) (U : State) : Prop :=
  (va_Nw nw_0 U ∧ va_Nw nw_1 U ∧ va_Nw nw_2 U ∧ va_Nw nw_3 U ∧ va_Nw nw_4 U) ∧ (va_AO "PacketGate$Rule" U ∧ va_AO "PacketGate$Flow" U) ∧
  (vk_R "PacketGate$Line" 23 "PDSiobtue*-,0123456789" (G.1 0) U ∧ vk_R "PacketGate$RuleReader" 34 "PDS" (G.1 1) U ∧ vk_R "PacketGate$RuleReader" 43 "iob" (G.1 2) U ∧ vk_R "PacketGate$RuleReader" 48 "tue*" (G.1 3) U ∧ vk_R "PacketGate$Rule" 44 "PDS" (G.1 1) U ∧ vk_R "PacketGate$Rule" 56 "iob" (G.1 2) U ∧ vk_R "PacketGate$Rule" 58 "tue*" (G.1 3) U) ∧
  vk_S 4 tx_l tx_b G.1 G.2.1 A U U.heap ∧ va_Z "PacketGate$Flow" "LIMITS" "[I" (.ref G.2.2) A U U.heap ∧ va_T .int G.2.2 8 (fun j => .int (lim_f j)) A U U.heap ∧ va_Z "java/lang/String" "COMPACT_STRINGS" "Z" (.int 1) A U U.heap ∧ va_Zq "jdk/internal/util/Preconditions" "SIOOBE_FORMATTER" "Ljava/util/function/BiFunction;" A U U.heap
theorem gX_call {A : Nat → Prop} {G : gG} (U : State) (g : JFrame) (mk : MethodId) (a : Array Value) (h : gX A G U) : gX A G (U.calling g mk a) := by
  obtain ⟨⟨n0, n1, n2, n3, n4⟩, ⟨o0, o1⟩, ⟨r0, r1, r2, r3, r4, r5, r6⟩, hS, hZ, hT, hC, hQ⟩ := h
  have al : U.vm.Alike (U.calling g mk a).vm := Vm.Alike.refl U.vm
  exact ⟨⟨va_Nw.same rfl rfl n0, va_Nw.same rfl rfl n1, va_Nw.same rfl rfl n2, va_Nw.same rfl rfl n3, va_Nw.same rfl rfl n4⟩, ⟨o0.moved al, o1.moved al⟩, ⟨vk_R.same rfl r0, vk_R.same rfl r1, vk_R.same rfl r2, vk_R.same rfl r3, vk_R.same rfl r4, vk_R.same rfl r5, vk_R.same rfl r6⟩, hS.moved al, hZ.moved al, hT.moved al, hC.moved al, hQ.moved al⟩
theorem gX_go {A : Nat → Prop} {G : gG} {s U : State} {H : Heap} {locs : List Loc} (h : gX A G s) (hS : va_S A s.heap H locs) (hU : U.heap = H) (hW : s.WarmedH U.vm) : gX A G U := by
  obtain ⟨⟨n0, n1, n2, n3, n4⟩, ⟨o0, o1⟩, ⟨r0, r1, r2, r3, r4, r5, r6⟩, kS, hZ, hT, hC, hQ⟩ := h
  have al := hW.alike
  subst hU
  exact ⟨⟨va_Nw.warmM hW n0, va_Nw.warmM hW n1, va_Nw.warmM hW n2, va_Nw.warmM hW n3, va_Nw.warmM hW n4⟩, ⟨o0.moved al, o1.moved al⟩, ⟨r0.warm hW, r1.warm hW, r2.warm hW, r3.warm hW, r4.warm hW, r5.warm hW, r6.warm hW⟩, (kS.moved al).kept hS.2.1, (hZ.moved al).kept hS.2.1, (hT.moved al).kept hS.2.1, (hC.moved al).kept hS.2.1, (hQ.moved al).kept hS.2.1⟩
abbrev gC (l : Launch) (D : va_G) (ca : Nat → ClassId) (A : Nat → Prop) (G : gG) (y : MethodName) (cw : Cond) (rm : Room) (N : Nat) (M : gm_M) (av : List Value) {S : Type} (val : S → Option Value) (post : S → Nat → gm_M → Prop) : Prop :=
  Met l y (cw :: LW) rm (gm_Pc D cls (tyL ca) A N M (gX A G) av) (gm_Q val D cls A post) rm.cells rm.slots A
theorem gm_body {l : Launch} {D : va_G} {ca : Nat → ClassId} {A : Nat → Prop} {G : gG} {y : MethodName} {cc : ByteArray} {nL : Nat} {ret : Option FieldType} {rm : Room} {N : Nat} {M : gm_M} {av : List Value} {S : Type} {val : S → Option Value} {post : S → Nat → gm_M → Prop} (hy : plainName y.cls = true) (hlen : (lg_sl av).length ≤ nL)
    (body : ∀ (p : Program) (e : Env) (s : State) (m : MethodId) (below : List Frame) (meth : Method) (c : Code) (ls : Array Slot), p.tables.exec = Jvm.exec → c.code = cc → meth.sig.returnType = ret → (∀ w ∈ Cond.code y cc nL ret :: LW, w.before av.toArray s = true) → s.vm.findClass y.cls = some m.cls → meth.locks = false → c.maxLocals = nL → meth.name = y.name → gm_P D cls A N M s.heap → va_K D cls (tyL ca) s → (∀ q : Nat, N ≤ q → A q) → gX A G s → va_S A s.heap s.heap [] → lv_has ls nL (lv_args 0 av) →
      W p l e rm s m av.toArray below meth c s.heap [] 0 0 (MQ below (gm_Q val D cls A post) av.toArray s rm.cells rm.slots A) (F0 m 0 ls [])) : gC l D ca A G y (.code y cc nL ret) rm N M av val post := by
  refine Met.ofW (cc := cc) (maxL := nL) (ret := ret) hy rfl ?_
  intro p e s m args below meth c s₁ B hml hv
  obtain ⟨rfl, hP, hK, hN, hX⟩ := hv
  have hl := lv_entry av (n := nL) hlen
  rw [lg_entry_eq]
  generalize (lg_sl av ++ List.replicate (nL - (lg_sl av).length) Slot.unset).toArray = ls at hl ⊢
  exact body p e s m below meth c ls B.exec B.bytes B.returns (atoms_spec (ws := Cond.code y cc nL ret :: LW) B.pre) (findClass_of_methodNamed B.named) B.notSynchronized hml (name_of_methodNamed B.named B.method).1 hP hK hN hX va_S.rf hl
section GC
variable {p : Program} {l : Launch} {e : Env} {R : Room} {s : State} {m : MethodId} {args : Array Value} {below : List Frame} {meth : Method} {c : Code} {H : Heap} {locs : List Loc} {cells slots : Nat} {Q : State → Prop}
variable {cc : ByteArray} {pc : Nat} {ls : Array Slot} {rest st0 : List Value} {D : va_G} {ca : Nat → ClassId} {A : Nat → Prop} {G : gG} {N : Nat} {M : gm_M} {cw0 : Cond} {own : String} {nL : Nat} {y : MethodName} {bytes : ByteArray} {maxL : Nat} {ret : Option FieldType} {rm : Room} {index n : Nat} {S : Type} {val : S → Option Value} {post : S → Nat → gm_M → Prop}
theorem gc_pre {X : List Value} (hK : va_K D cls (tyL ca) s) (hP : gm_P D cls A N M H) (hN : ∀ q : Nat, N ≤ q → A q) (hX : gX A G s) (hS : va_S A s.heap H locs) : PreS s H (gm_Pc D cls (tyL ca) A N M (gX A G) X) X := gm_pre gX_call (fun U hU hW => gX_go hX hS hU hW) hK hP hN
/-- an instance method of a class whose object x is -/
theorem gc_V (As : List Value) (rest : List Value) {x ci : Nat} {q : vw_C} {fs : List Value} (hx : p.tables.exec = Jvm.exec) (hb : c.code = cc) (hml : c.maxLocals = nL) (hown : s.vm.findClass own = some m.cls) (hts : ∀ w ∈ cw0 :: LW, w.before args s = true) (hK : va_K D cls (tyL ca) s) (hN : ∀ q : Nat, N ≤ q → A q) (hX : gX A G s) (hP : gm_P D cls A N M H) (hS : va_S A s.heap H locs)
    (hM : gC l D ca A G y (.code y bytes maxL ret) rm N M (.ref x :: As) val post) (hc : cls[ci]? = some q) (he : M x = some (.inr (ci, fs)))
    (k1 : (Cond.methodLink own index y) ∈ LW) (k2 : (Cond.instanceMethod y) ∈ LW) (k3 : (Cond.selects q.1 y y) ∈ LW) (k4 : (Cond.initialized q.1) ∈ LW) (k5 : (Cond.code y bytes maxL ret) ∈ LW)
    (hd : y.cls = q.1 ∧ y.cls ≠ "java/lang/invoke/MethodHandle" ∧ y.cls ≠ "java/lang/invoke/VarHandle" ∧ (parseMethodDescriptor y.desc).map (fun d => d.parameters.length) = some n) (hR : rm.frames + 1 ≤ R.frames ∧ 8 + (maxL + 11) + rm.locals ≤ R.locals) (hn : As.length = n) (hsize : ls.size = nL) (hst : st0 = As.reverse ++ .ref x :: rest) (hW : (rest.map fun v => v.category).sum ≤ 8) (hdg : decode cc pc = .ok (.invokevirtual index, 3)) (hf : cells + rm.cells ≤ R.cells ∧ slots + rm.slots ≤ R.slots)
    (kk : ∀ (r : S) (N1 : Nat) (M1 : gm_M) (H1 : Heap) (locs1 : List Loc), post r N1 M1 → gm_P D cls A N1 M1 H1 → va_S A s.heap H1 locs1 → W p l e R s m args below meth c H1 locs1 (cells + rm.cells) (slots + rm.slots) Q (F0 m (pc + 3) ls ((val r).toList ++ rest))) : W p l e R s m args below meth c H locs cells slots Q (F0 m pc ls st0) := by
  have hG : GoodIn (cw0 :: LW) (wsV own index q.1 y (.code y bytes maxL ret :: LW)) := LW_good (fun w hw => by
    simp only [wsV, List.cons_append, List.nil_append, List.mem_cons] at hw
    rcases hw with rfl | rfl | rfl | rfl | rfl | hw
    · exact k1
    · exact k2
    · exact k3
    · exact k4
    · exact k5
    · exact hw)
  have hp := gc_pre (X := .ref x :: As) hK hP hN hX hS
  exact gm_call (va_runV (As := As) (rest := rest) ⟨hx, hb, hml, hown, hts⟩ hM (cwV n hts hG rfl rfl rfl hd hR) ⟨hp.1, gm_recv hK hP hc he, hp.2⟩ rfl hn hsize hst (lv_room hW) hdg hf) hS kk
/-- a method of a text -/
theorem gc_T (As : List Value) (rest : List Value) {x : Nat} (hx : p.tables.exec = Jvm.exec) (hb : c.code = cc) (hml : c.maxLocals = nL) (hown : s.vm.findClass own = some m.cls) (hts : ∀ w ∈ cw0 :: LW, w.before args s = true) (hK : va_K D cls (tyL ca) s) (hN : ∀ q : Nat, N ≤ q → A q) (hX : gX A G s) (hP : gm_P D cls A N M H) (hS : va_S A s.heap H locs)
    (hM : gC l D ca A G y (.code y bytes maxL ret) rm N M (.ref x :: As) val post) (hrec : ∃ cell : Cell, H[x]? = some cell ∧ cell.vm.isStatics = false ∧ s.vm.findClass "java/lang/String" = some cell.cls)
    (k1 : (Cond.methodLink own index y) ∈ LW) (k2 : (Cond.instanceMethod y) ∈ LW) (k3 : (Cond.selects "java/lang/String" y y) ∈ LW) (k4 : (Cond.initialized "java/lang/String") ∈ LW) (k5 : (Cond.code y bytes maxL ret) ∈ LW)
    (hd : y.cls = "java/lang/String" ∧ y.cls ≠ "java/lang/invoke/MethodHandle" ∧ y.cls ≠ "java/lang/invoke/VarHandle" ∧ (parseMethodDescriptor y.desc).map (fun d => d.parameters.length) = some n) (hR : rm.frames + 1 ≤ R.frames ∧ 8 + (maxL + 11) + rm.locals ≤ R.locals) (hn : As.length = n) (hsize : ls.size = nL) (hst : st0 = As.reverse ++ .ref x :: rest) (hW : (rest.map fun v => v.category).sum ≤ 8) (hdg : decode cc pc = .ok (.invokevirtual index, 3)) (hf : cells + rm.cells ≤ R.cells ∧ slots + rm.slots ≤ R.slots)
    (kk : ∀ (r : S) (N1 : Nat) (M1 : gm_M) (H1 : Heap) (locs1 : List Loc), post r N1 M1 → gm_P D cls A N1 M1 H1 → va_S A s.heap H1 locs1 → W p l e R s m args below meth c H1 locs1 (cells + rm.cells) (slots + rm.slots) Q (F0 m (pc + 3) ls ((val r).toList ++ rest))) : W p l e R s m args below meth c H locs cells slots Q (F0 m pc ls st0) := by
  have hG : GoodIn (cw0 :: LW) (wsV own index "java/lang/String" y (.code y bytes maxL ret :: LW)) := LW_good (fun w hw => by
    simp only [wsV, List.cons_append, List.nil_append, List.mem_cons] at hw
    rcases hw with rfl | rfl | rfl | rfl | rfl | hw
    · exact k1
    · exact k2
    · exact k3
    · exact k4
    · exact k5
    · exact hw)
  have hp := gc_pre (X := .ref x :: As) hK hP hN hX hS
  exact gm_call (va_runV (As := As) (rest := rest) ⟨hx, hb, hml, hown, hts⟩ hM (cwV n hts hG rfl rfl rfl hd hR) ⟨hp.1, hrec, hp.2⟩ rfl hn hsize hst (lv_room hW) hdg hf) hS kk
/-- a static method -/
theorem gc_S (As : List Value) (rest : List Value) (hx : p.tables.exec = Jvm.exec) (hb : c.code = cc) (hml : c.maxLocals = nL) (hown : s.vm.findClass own = some m.cls) (hts : ∀ w ∈ cw0 :: LW, w.before args s = true) (hK : va_K D cls (tyL ca) s) (hN : ∀ q : Nat, N ≤ q → A q) (hX : gX A G s) (hP : gm_P D cls A N M H) (hS : va_S A s.heap H locs)
    (hM : gC l D ca A G y (.code y bytes maxL ret) rm N M As val post)
    (k1 : (Cond.methodLink own index y) ∈ LW) (k2 : (Cond.static y) ∈ LW) (k4 : (Cond.initialized y.cls) ∈ LW) (k5 : (Cond.code y bytes maxL ret) ∈ LW)
    (hd : y.cls ≠ "java/lang/invoke/MethodHandle" ∧ y.cls ≠ "java/lang/invoke/VarHandle" ∧ (parseMethodDescriptor y.desc).map (fun d => d.parameters.length) = some n) (hR : rm.frames + 1 ≤ R.frames ∧ 8 + (maxL + 11) + rm.locals ≤ R.locals) (hn : As.length = n) (hsize : ls.size = nL) (hst : st0 = As.reverse ++ rest) (hW : (rest.map fun v => v.category).sum ≤ 8) (hdg : decode cc pc = .ok (.invokestatic index, 3)) (hf : cells + rm.cells ≤ R.cells ∧ slots + rm.slots ≤ R.slots)
    (kk : ∀ (r : S) (N1 : Nat) (M1 : gm_M) (H1 : Heap) (locs1 : List Loc), post r N1 M1 → gm_P D cls A N1 M1 H1 → va_S A s.heap H1 locs1 → W p l e R s m args below meth c H1 locs1 (cells + rm.cells) (slots + rm.slots) Q (F0 m (pc + 3) ls ((val r).toList ++ rest))) : W p l e R s m args below meth c H locs cells slots Q (F0 m pc ls st0) := by
  have hG : GoodIn (cw0 :: LW) (va_wsS own index y (.code y bytes maxL ret :: LW)) := LW_good (fun w hw => by
    simp only [va_wsS, List.cons_append, List.nil_append, List.mem_cons] at hw
    rcases hw with rfl | rfl | rfl | rfl | hw
    · exact k1
    · exact k2
    · exact k4
    · exact k5
    · exact hw)
  have hp := gc_pre (X := As) hK hP hN hX hS
  exact gm_call (va_runS (As := As) (rest := rest) ⟨hx, hb, hml, hown, hts⟩ hM (va_cwS n hts hG rfl rfl rfl hd hR) hp rfl hn hsize hst (lv_room hW) hdg hf) hS kk
/-- a private static method of a nest mate -/
theorem gc_SN (As : List Value) (rest : List Value) {host : String} (hx : p.tables.exec = Jvm.exec) (hb : c.code = cc) (hml : c.maxLocals = nL) (hown : s.vm.findClass own = some m.cls) (hts : ∀ w ∈ cw0 :: LW, w.before args s = true) (hK : va_K D cls (tyL ca) s) (hN : ∀ q : Nat, N ≤ q → A q) (hX : gX A G s) (hP : gm_P D cls A N M H) (hS : va_S A s.heap H locs)
    (hM : gC l D ca A G y (.code y bytes maxL ret) rm N M As val post)
    (k1 : va_Nw (.methodLinkNest own index y host) s) (k2 : (Cond.static y) ∈ LW) (k4 : (Cond.initialized y.cls) ∈ LW) (k5 : (Cond.code y bytes maxL ret) ∈ LW)
    (hd : y.cls ≠ "java/lang/invoke/MethodHandle" ∧ y.cls ≠ "java/lang/invoke/VarHandle" ∧ (parseMethodDescriptor y.desc).map (fun d => d.parameters.length) = some n) (hR : rm.frames + 1 ≤ R.frames ∧ 8 + (maxL + 11) + rm.locals ≤ R.locals) (hn : As.length = n) (hsize : ls.size = nL) (hst : st0 = As.reverse ++ rest) (hW : (rest.map fun v => v.category).sum ≤ 8) (hdg : decode cc pc = .ok (.invokestatic index, 3)) (hf : cells + rm.cells ≤ R.cells ∧ slots + rm.slots ≤ R.slots)
    (kk : ∀ (r : S) (N1 : Nat) (M1 : gm_M) (H1 : Heap) (locs1 : List Loc), post r N1 M1 → gm_P D cls A N1 M1 H1 → va_S A s.heap H1 locs1 → W p l e R s m args below meth c H1 locs1 (cells + rm.cells) (slots + rm.slots) Q (F0 m (pc + 3) ls ((val r).toList ++ rest))) : W p l e R s m args below meth c H locs cells slots Q (F0 m pc ls st0) := by
  have hG : GoodIn (cw0 :: LW) (Cond.code y bytes maxL ret :: LW) := LW_good (fun w hw => by
    rcases List.mem_cons.mp hw with rfl | hw
    · exact k5
    · exact hw)
  have hp := gc_pre (X := As) hK hP hN hX hS
  exact gm_call (va_runSN (As := As) (rest := rest) ⟨hx, hb, hml, hown, hts⟩ hM ⟨va_cnB n hts hG rfl rfl rfl k1 (hts _ (List.mem_cons_of_mem _ k4)) hd hR, hts _ (List.mem_cons_of_mem _ k2), trivial⟩ hp rfl hn hsize hst (lv_room hW) hdg hf) hS kk
/-- a constructor -/
theorem gc_I (As : List Value) (rest : List Value) {x : Nat} (hx : p.tables.exec = Jvm.exec) (hb : c.code = cc) (hml : c.maxLocals = nL) (hown : s.vm.findClass own = some m.cls) (hts : ∀ w ∈ cw0 :: LW, w.before args s = true) (hK : va_K D cls (tyL ca) s) (hN : ∀ q : Nat, N ≤ q → A q) (hX : gX A G s) (hP : gm_P D cls A N M H) (hS : va_S A s.heap H locs)
    (hM : gC l D ca A G y (.code y bytes maxL none) rm N M (.ref x :: As) val post)
    (k1 : (Cond.methodLink own index y) ∈ LW) (k2 : (Cond.instanceMethod y) ∈ LW) (k4 : (Cond.initialized y.cls) ∈ LW) (k5 : (Cond.code y bytes maxL none) ∈ LW) (hi : y.name = "<init>")
    (hd : y.cls ≠ "java/lang/invoke/MethodHandle" ∧ y.cls ≠ "java/lang/invoke/VarHandle" ∧ (parseMethodDescriptor y.desc).map (fun d => d.parameters.length) = some n) (hR : rm.frames + 1 ≤ R.frames ∧ 8 + (maxL + 11) + rm.locals ≤ R.locals) (hn : As.length = n) (hsize : ls.size = nL) (hst : st0 = As.reverse ++ .ref x :: rest) (hW : (rest.map fun v => v.category).sum ≤ 8) (hdg : decode cc pc = .ok (.invokespecial index, 3)) (hf : cells + rm.cells ≤ R.cells ∧ slots + rm.slots ≤ R.slots)
    (kk : ∀ (r : S) (N1 : Nat) (M1 : gm_M) (H1 : Heap) (locs1 : List Loc), post r N1 M1 → gm_P D cls A N1 M1 H1 → va_S A s.heap H1 locs1 → W p l e R s m args below meth c H1 locs1 (cells + rm.cells) (slots + rm.slots) Q (F0 m (pc + 3) ls ((val r).toList ++ rest))) : W p l e R s m args below meth c H locs cells slots Q (F0 m pc ls st0) := by
  have hG : GoodIn (cw0 :: LW) (Cond.code y bytes maxL none :: LW) := LW_good (fun w hw => by
    rcases List.mem_cons.mp hw with rfl | hw
    · exact k5
    · exact hw)
  have hp := gc_pre (X := .ref x :: As) hK hP hN hX hS
  exact gm_call (va_runI (As := As) (rest := rest) ⟨hx, hb, hml, hown, hts⟩ hM (cwI n hts hG rfl rfl rfl (hts _ (List.mem_cons_of_mem _ k4)) (hts _ (List.mem_cons_of_mem _ k1)) (hts _ (List.mem_cons_of_mem _ k2)) hi hd hR) hp rfl hn hsize hst (lv_room hW) hdg hf) hS kk
theorem gc_iret {v : Int32} {N1 : Nat} {M1 : gm_M} {post : Int32 → Nat → gm_M → Prop} (hx : p.tables.exec = Jvm.exec) (hb : c.code = cc) (hr : meth.sig.returnType = some .int) (hlocks : meth.locks = false) (hP : gm_P D cls A N1 M1 H) (hS : va_S A s.heap H locs) (hdg : decode cc pc = .ok (.ireturn, 1)) (hq : post v N1 M1) : W p l e R s m args below meth c H locs cells slots (MQ below (gm_Q gm_i D cls A post) args s cells slots A) (F0 m pc ls [.int v]) :=
  W.iret hx hb hr (fun t ht hW => ⟨⟨v, N1, M1, rfl, hq, by rw [ht]; exact hP⟩, hS.F ht⟩) hS.2.2 hdg hlocks
theorem gc_zret {v : Int32} {ty : FieldType} {N1 : Nat} {M1 : gm_M} {post : Int32 → Nat → gm_M → Prop} (hx : p.tables.exec = Jvm.exec) (hb : c.code = cc) (hr : meth.sig.returnType = some ty) (hlocks : meth.locks = false) (hP : gm_P D cls A N1 M1 H) (hS : va_S A s.heap H locs) (hdg : decode cc pc = .ok (.ireturn, 1)) (hn : narrow ty (.int v) = .int v) (hq : post v N1 M1) : W p l e R s m args below meth c H locs cells slots (MQ below (gm_Q gm_i D cls A post) args s cells slots A) (F0 m pc ls [.int v]) :=
  W.zret hx hb hr hn (fun t ht hW => ⟨⟨v, N1, M1, rfl, hq, by rw [ht]; exact hP⟩, hS.F ht⟩) hS.2.2 hdg hlocks
theorem gc_vret {N1 : Nat} {M1 : gm_M} {post : Unit → Nat → gm_M → Prop} (hx : p.tables.exec = Jvm.exec) (hb : c.code = cc) (hr : meth.sig.returnType = none) (hlocks : meth.locks = false) (hP : gm_P D cls A N1 M1 H) (hS : va_S A s.heap H locs) (hdg : decode cc pc = .ok (.return_, 1)) (hq : post () N1 M1) : W p l e R s m args below meth c H locs cells slots (MQ below (gm_Q gm_v D cls A post) args s cells slots A) (F0 m pc ls []) :=
  W.vret hx hb hr (fun t ht hW => ⟨⟨(), N1, M1, rfl, hq, by rw [ht]; exact hP⟩, hS.F ht⟩) hS.2.2 hdg hlocks
theorem gc_aret {v : Nat} {C : String} {N1 : Nat} {M1 : gm_M} {post : Nat → Nat → gm_M → Prop} (hx : p.tables.exec = Jvm.exec) (hb : c.code = cc) (hr : meth.sig.returnType = some (.object C)) (hlocks : meth.locks = false) (hP : gm_P D cls A N1 M1 H) (hS : va_S A s.heap H locs) (hdg : decode cc pc = .ok (.areturn, 1)) (hq : post v N1 M1) : W p l e R s m args below meth c H locs cells slots (MQ below (gm_Q gm_r D cls A post) args s cells slots A) (F0 m pc ls [.ref v]) :=
  W.aret hx hb hr (Or.inl ⟨C, rfl⟩) (Or.inr ⟨v, rfl⟩) (fun t ht hW => ⟨⟨v, N1, M1, rfl, hq, by rw [ht]; exact hP⟩, hS.F ht⟩) hS.2.2 hdg hlocks
end GC
