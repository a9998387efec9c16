/-- links to private members of a nest mate -/
def nwl : List Cond := [(Cond.methodLinkNest RX3 15 y_Net_init "BoundedMachines"), (Cond.fieldLinkNest RX3 147 "BoundedMachines$Net" "wordBits" "I" "BoundedMachines"), (Cond.fieldLinkNest RX0 41 "BoundedMachines$Net" "wordCount" "I" "BoundedMachines"), (Cond.fieldLinkNest RX1 89 "BoundedMachines$Net" "wordCount" "I" "BoundedMachines"), (Cond.fieldLinkNest RX3 150 "BoundedMachines$Net" "nodeCount" "I" "BoundedMachines"), (Cond.fieldLinkNest RX3 153 "BoundedMachines$Net" "stateCount" "I" "BoundedMachines"), (Cond.fieldLinkNest RX3 156 "BoundedMachines$Net" "statesOfSideOne" "I" "BoundedMachines"), (Cond.fieldLinkNest RX3 101 "BoundedMachines$Net" "pairCount" "I" "BoundedMachines"), (Cond.fieldLinkNest RX0 25 "BoundedMachines$Net" "firstRow" "I" "BoundedMachines"), (Cond.fieldLinkNest RX1 62 "BoundedMachines$Net" "firstRow" "I" "BoundedMachines"), (Cond.methodLinkNest RX3 26 y_Hunt_init "BoundedMachines"), (Cond.fieldLinkNest RX3 128 "BoundedMachines$Hunt" "rowCount" "I" "BoundedMachines"), (Cond.fieldLinkNest RX3 125 "BoundedMachines$Hunt" "clearLevels" "I" "BoundedMachines"), (Cond.fieldLinkNest RX3 110 "BoundedMachines$Hunt" "programLength" "I" "BoundedMachines"), (Cond.methodLinkNest RX3 35 y_Hand_init "BoundedMachines"), (Cond.fieldLinkNest RX3 163 "BoundedMachines$HandRun" "cycles" "I" "BoundedMachines"), (Cond.fieldLinkNest RX3 166 "BoundedMachines$HandRun" "firstPair" "I" "BoundedMachines"), (Cond.methodLinkNest RX3 136 y_Hand_restart "BoundedMachines"), (Cond.methodLinkNest RX0 37 y_Net_layAsAtFirst "BoundedMachines"), (Cond.methodLinkNest RX3 139 y_Hand_step "BoundedMachines"), (Cond.methodLinkNest RX0 44 y_Net_settle "BoundedMachines"), (Cond.methodLinkNest RX0 48 y_Net_firstDifferingPair "BoundedMachines"), (Cond.methodLinkNest RX0 52 y_Net_rowAfter "BoundedMachines"), (Cond.methodLinkNest RX3 121 y_Hunt_programWord "BoundedMachines"), (Cond.methodLinkNest RX3 159 y_Net_gateCount "BoundedMachines"), (Cond.methodLinkNest RX3 47 y_Net_hasAllStates "BoundedMachines"), (Cond.methodLinkNest RX3 51 y_Net_hasAllNodes "BoundedMachines"), (Cond.methodLinkNest RX3 59 y_Net_addState "BoundedMachines"), (Cond.methodLinkNest RX3 169 y_Hunt_forget "BoundedMachines"), (Cond.methodLinkNest RX3 66 y_Net_takesGate "BoundedMachines"), (Cond.methodLinkNest RX3 74 y_Net_addGate "BoundedMachines"), (Cond.methodLinkNest RX3 78 y_Net_isState "BoundedMachines"), (Cond.methodLinkNest RX3 82 y_Net_isNode "BoundedMachines"), (Cond.methodLinkNest RX3 87 y_Net_changeNext "BoundedMachines"), (Cond.methodLinkNest RX3 92 y_Net_hasAllPairs "BoundedMachines"), (Cond.methodLinkNest RX3 97 y_Net_addPair "BoundedMachines"), (Cond.methodLinkNest RX3 107 y_Hunt_goOn "BoundedMachines"), (Cond.methodLinkNest RX1 73 y_Net_settle "BoundedMachines"), (Cond.methodLinkNest RX1 77 y_Net_leastDifferingWord "BoundedMachines"), (Cond.methodLinkNest RX1 92 y_Net_rowAfter "BoundedMachines"), (Cond.methodLinkNest RX3 113 y_Hunt_hasOpenLevel "BoundedMachines"), (Cond.methodLinkNest RX3 133 y_Hunt_rowsOfLevel "BoundedMachines"), (Cond.methodLinkNest RX3 144 y_Hand_truthOf "BoundedMachines")]
theorem nl_BM_15 : (Cond.methodLinkNest RX3 15 y_Net_init "BoundedMachines") ∈ nwl := List.mem_of_getElem? (i := 0) rfl
theorem nl_BM_147 : (Cond.fieldLinkNest RX3 147 "BoundedMachines$Net" "wordBits" "I" "BoundedMachines") ∈ nwl := List.mem_of_getElem? (i := 1) rfl
theorem nl_Hand_41 : (Cond.fieldLinkNest RX0 41 "BoundedMachines$Net" "wordCount" "I" "BoundedMachines") ∈ nwl := List.mem_of_getElem? (i := 2) rfl
theorem nl_Hunt_89 : (Cond.fieldLinkNest RX1 89 "BoundedMachines$Net" "wordCount" "I" "BoundedMachines") ∈ nwl := List.mem_of_getElem? (i := 3) rfl
theorem nl_BM_150 : (Cond.fieldLinkNest RX3 150 "BoundedMachines$Net" "nodeCount" "I" "BoundedMachines") ∈ nwl := List.mem_of_getElem? (i := 4) rfl
theorem nl_BM_153 : (Cond.fieldLinkNest RX3 153 "BoundedMachines$Net" "stateCount" "I" "BoundedMachines") ∈ nwl := List.mem_of_getElem? (i := 5) rfl
theorem nl_BM_156 : (Cond.fieldLinkNest RX3 156 "BoundedMachines$Net" "statesOfSideOne" "I" "BoundedMachines") ∈ nwl := List.mem_of_getElem? (i := 6) rfl
theorem nl_BM_101 : (Cond.fieldLinkNest RX3 101 "BoundedMachines$Net" "pairCount" "I" "BoundedMachines") ∈ nwl := List.mem_of_getElem? (i := 7) rfl
theorem nl_Hand_25 : (Cond.fieldLinkNest RX0 25 "BoundedMachines$Net" "firstRow" "I" "BoundedMachines") ∈ nwl := List.mem_of_getElem? (i := 8) rfl
theorem nl_Hunt_62 : (Cond.fieldLinkNest RX1 62 "BoundedMachines$Net" "firstRow" "I" "BoundedMachines") ∈ nwl := List.mem_of_getElem? (i := 9) rfl
theorem nl_BM_26 : (Cond.methodLinkNest RX3 26 y_Hunt_init "BoundedMachines") ∈ nwl := List.mem_of_getElem? (i := 10) rfl
theorem nl_BM_128 : (Cond.fieldLinkNest RX3 128 "BoundedMachines$Hunt" "rowCount" "I" "BoundedMachines") ∈ nwl := List.mem_of_getElem? (i := 11) rfl
theorem nl_BM_125 : (Cond.fieldLinkNest RX3 125 "BoundedMachines$Hunt" "clearLevels" "I" "BoundedMachines") ∈ nwl := List.mem_of_getElem? (i := 12) rfl
theorem nl_BM_110 : (Cond.fieldLinkNest RX3 110 "BoundedMachines$Hunt" "programLength" "I" "BoundedMachines") ∈ nwl := List.mem_of_getElem? (i := 13) rfl
theorem nl_BM_35 : (Cond.methodLinkNest RX3 35 y_Hand_init "BoundedMachines") ∈ nwl := List.mem_of_getElem? (i := 14) rfl
theorem nl_BM_163 : (Cond.fieldLinkNest RX3 163 "BoundedMachines$HandRun" "cycles" "I" "BoundedMachines") ∈ nwl := List.mem_of_getElem? (i := 15) rfl
theorem nl_BM_166 : (Cond.fieldLinkNest RX3 166 "BoundedMachines$HandRun" "firstPair" "I" "BoundedMachines") ∈ nwl := List.mem_of_getElem? (i := 16) rfl
theorem nl_BM_136 : (Cond.methodLinkNest RX3 136 y_Hand_restart "BoundedMachines") ∈ nwl := List.mem_of_getElem? (i := 17) rfl
theorem nl_Hand_37 : (Cond.methodLinkNest RX0 37 y_Net_layAsAtFirst "BoundedMachines") ∈ nwl := List.mem_of_getElem? (i := 18) rfl
theorem nl_BM_139 : (Cond.methodLinkNest RX3 139 y_Hand_step "BoundedMachines") ∈ nwl := List.mem_of_getElem? (i := 19) rfl
theorem nl_Hand_44 : (Cond.methodLinkNest RX0 44 y_Net_settle "BoundedMachines") ∈ nwl := List.mem_of_getElem? (i := 20) rfl
theorem nl_Hand_48 : (Cond.methodLinkNest RX0 48 y_Net_firstDifferingPair "BoundedMachines") ∈ nwl := List.mem_of_getElem? (i := 21) rfl
theorem nl_Hand_52 : (Cond.methodLinkNest RX0 52 y_Net_rowAfter "BoundedMachines") ∈ nwl := List.mem_of_getElem? (i := 22) rfl
theorem nl_BM_121 : (Cond.methodLinkNest RX3 121 y_Hunt_programWord "BoundedMachines") ∈ nwl := List.mem_of_getElem? (i := 23) rfl
theorem nl_BM_159 : (Cond.methodLinkNest RX3 159 y_Net_gateCount "BoundedMachines") ∈ nwl := List.mem_of_getElem? (i := 24) rfl
theorem nl_BM_47 : (Cond.methodLinkNest RX3 47 y_Net_hasAllStates "BoundedMachines") ∈ nwl := List.mem_of_getElem? (i := 25) rfl
theorem nl_BM_51 : (Cond.methodLinkNest RX3 51 y_Net_hasAllNodes "BoundedMachines") ∈ nwl := List.mem_of_getElem? (i := 26) rfl
theorem nl_BM_59 : (Cond.methodLinkNest RX3 59 y_Net_addState "BoundedMachines") ∈ nwl := List.mem_of_getElem? (i := 27) rfl
theorem nl_BM_169 : (Cond.methodLinkNest RX3 169 y_Hunt_forget "BoundedMachines") ∈ nwl := List.mem_of_getElem? (i := 28) rfl
theorem nl_BM_66 : (Cond.methodLinkNest RX3 66 y_Net_takesGate "BoundedMachines") ∈ nwl := List.mem_of_getElem? (i := 29) rfl
theorem nl_BM_74 : (Cond.methodLinkNest RX3 74 y_Net_addGate "BoundedMachines") ∈ nwl := List.mem_of_getElem? (i := 30) rfl
theorem nl_BM_78 : (Cond.methodLinkNest RX3 78 y_Net_isState "BoundedMachines") ∈ nwl := List.mem_of_getElem? (i := 31) rfl
theorem nl_BM_82 : (Cond.methodLinkNest RX3 82 y_Net_isNode "BoundedMachines") ∈ nwl := List.mem_of_getElem? (i := 32) rfl
theorem nl_BM_87 : (Cond.methodLinkNest RX3 87 y_Net_changeNext "BoundedMachines") ∈ nwl := List.mem_of_getElem? (i := 33) rfl
theorem nl_BM_92 : (Cond.methodLinkNest RX3 92 y_Net_hasAllPairs "BoundedMachines") ∈ nwl := List.mem_of_getElem? (i := 34) rfl
theorem nl_BM_97 : (Cond.methodLinkNest RX3 97 y_Net_addPair "BoundedMachines") ∈ nwl := List.mem_of_getElem? (i := 35) rfl
theorem nl_BM_107 : (Cond.methodLinkNest RX3 107 y_Hunt_goOn "BoundedMachines") ∈ nwl := List.mem_of_getElem? (i := 36) rfl
theorem nl_Hunt_73 : (Cond.methodLinkNest RX1 73 y_Net_settle "BoundedMachines") ∈ nwl := List.mem_of_getElem? (i := 37) rfl
theorem nl_Hunt_77 : (Cond.methodLinkNest RX1 77 y_Net_leastDifferingWord "BoundedMachines") ∈ nwl := List.mem_of_getElem? (i := 38) rfl
theorem nl_Hunt_92 : (Cond.methodLinkNest RX1 92 y_Net_rowAfter "BoundedMachines") ∈ nwl := List.mem_of_getElem? (i := 39) rfl
theorem nl_BM_113 : (Cond.methodLinkNest RX3 113 y_Hunt_hasOpenLevel "BoundedMachines") ∈ nwl := List.mem_of_getElem? (i := 40) rfl
theorem nl_BM_133 : (Cond.methodLinkNest RX3 133 y_Hunt_rowsOfLevel "BoundedMachines") ∈ nwl := List.mem_of_getElem? (i := 41) rfl
theorem nl_BM_144 : (Cond.methodLinkNest RX3 144 y_Hand_truthOf "BoundedMachines") ∈ nwl := List.mem_of_getElem? (i := 42) rfl
def bx_isN : Cond → Bool
  | .fieldLinkNest .. => true
  | .methodLinkNest .. => true
  | _ => false
theorem nwl_all : nwl.all bx_isN = true := by decide +kernel
def bx_nw (U : State) : Prop := ∀ w ∈ nwl, va_Nw w U
theorem bx_nw.warm {s U : State} (hW : s.WarmedH U.vm) (h : bx_nw s) : bx_nw U := by
  intro w hw
  have h1 := h w hw
  have h2 : bx_isN w = true := List.all_eq_true.mp nwl_all w hw
  cases w with
  | fieldLinkNest => exact va_Nw.warmF hW h1
  | methodLinkNest => exact va_Nw.warmM hW h1
  | _ => cases h2
theorem bx_nw.same {s U : State} (hv : s.vm = U.vm) (h : bx_nw s) : bx_nw U := by
  intro w hw
  have h1 := h w hw
  have h2 : bx_isN w = true := List.all_eq_true.mp nwl_all w hw
  cases w with
  | fieldLinkNest => exact va_Nw.same rfl hv h1
  | methodLinkNest => exact va_Nw.same rfl hv h1
  | _ => cases h2
/-- the static table of the word bits' lanes -/
def bx_Z (A : Nat → Prop) (U : State) : Prop := ∃ t : Nat, va_Z "BoundedMachines$Net" "LANES_OF_WORD_BITS" "[I" (.ref t) A U U.heap ∧ va_T .int t 4 (fun j => .int (bm_LW j)) A U U.heap
def bx_E (dC : Nat → ClassId) (dI : Nat → Nat → Nat) (cI cZ cJ : ClassId) (A : Nat → Prop) (U : State) : Prop := va_K (dC, dI) vwCl [(cI, .int), (cZ, .boolean), (cJ, .long)] U ∧ bx_nw U ∧ bx_Z A U
section BE
variable {dC : Nat → ClassId} {dI : Nat → Nat → Nat} {cI cZ cJ : ClassId} {A A' : Nat → Prop} {s U : State} {H : Heap} {locs : List Loc} {ws : va_W} {args : Array Value} {R : Room}
theorem bx_E_at (hE : bx_E dC dI cI cZ cJ A s) (hS : va_S A s.heap H locs) (hF : ∀ q, A' q → A q) (hU : U.heap = H) (hW : s.WarmedH U.vm) : bx_E dC dI cI cZ cJ A' U := by
  obtain ⟨h1, h2, t, h3, h4⟩ := hE
  subst hU
  exact ⟨va_K.moved hW.alike h1, h2.warm hW, t, ((h3.moved hW.alike).kept (fun a ha hn => hS.2.1 a ha hn)).narrow hF, ((h4.moved hW.alike).kept (fun a ha hn => hS.2.1 a ha hn)).narrow hF⟩
theorem bx_E_call {g : JFrame} {mk : MethodId} {a : Array Value} (h : bx_E dC dI cI cZ cJ A U) : bx_E dC dI cI cZ cJ A (U.calling g mk a) := by
  obtain ⟨h1, h2, t, h3, h4⟩ := h
  exact ⟨va_K.moved (u := U) (U := U.calling g mk a) (Vm.Alike.refl U.vm) h1, bx_nw.same (s := U) (U := U.calling g mk a) rfl h2, t, va_Z.moved (u := U) (U := U.calling g mk a) (Vm.Alike.refl U.vm) h3, va_T.moved (u := U) (U := U.calling g mk a) (Vm.Alike.refl U.vm) h4⟩
/-- a reading method's start; a writing method's start; what comes back of a world -/
def bx_pR (dC : Nat → ClassId) (dI : Nat → Nat → Nat) (cI cZ cJ : ClassId) (av : List Value) (ws : va_W) : Array Value → State → Prop := va_Pc av (fun U => bx_E dC dI cI cZ cJ (fun _ => False) U ∧ va_P (dC, dI) vwCl ws U.heap)
def bx_pW (dC : Nat → ClassId) (dI : Nat → Nat → Nat) (cI cZ cJ : ClassId) (av : List Value) (ws : va_W) (sz : Nat) : Array Value → State → Prop := va_Pc av (fun U => U.heap.size = sz ∧ bx_E dC dI cI cZ cJ (va_A ws sz) U ∧ va_P (dC, dI) vwCl ws U.heap ∧ va_D (fun _ => True) ws)
def bx_B {S : Type} (dC : Nat → ClassId) (dI : Nat → Nat → Nat) (A : Nat → Prop) (wf : S → va_W) : S → State → Prop := fun u t => va_P (dC, dI) vwCl (wf u) t.heap ∧ va_D A (wf u)
theorem bx_prS {As : List Value} (hE : bx_E dC dI cI cZ cJ A s) (hS : va_S A s.heap H locs) (hP : va_P (dC, dI) vwCl ws H) : PreS s H (bx_pR dC dI cI cZ cJ As ws) As :=
  ⟨fun _ _ _ _ h => ⟨h.1, bx_E_call h.2.1, h.2.2⟩, fun _ hU hW => ⟨rfl, bx_E_at hE hS (fun _ h => h.elim) hU hW, by rw [hU]; exact hP⟩⟩
theorem bx_prV {As : List Value} {b ci q0 : Nat} {q : vw_C} {fs : List Value} (hE : bx_E dC dI cI cZ cJ A s) (hS : va_S A s.heap H locs) (hP : va_P (dC, dI) vwCl ws H) (hc : vwCl[ci]? = some q) (he : ws[q0]? = some (b, .inr (ci, fs))) : PreV s H q.1 b (bx_pR dC dI cI cZ cJ (.ref b :: As) ws) As :=
  ⟨fun _ _ _ _ h => ⟨h.1, bx_E_call h.2.1, h.2.2⟩, va_recv hE.1 hP hc he, fun _ hU hW => ⟨rfl, bx_E_at hE hS (fun _ h => h.elim) hU hW, by rw [hU]; exact hP⟩⟩
theorem bx_pwS {As : List Value} (hE : bx_E dC dI cI cZ cJ A s) (hS : va_S A s.heap H locs) (hP : va_P (dC, dI) vwCl ws H) (hD : va_D A ws) (hF : ∀ q, va_A ws H.size q → A q) : PreS s H (bx_pW dC dI cI cZ cJ As ws H.size) As :=
  ⟨fun _ _ _ _ h => ⟨h.1, h.2.1, bx_E_call h.2.2.1, h.2.2.2⟩, fun _ hU hW => ⟨rfl, by rw [hU], bx_E_at hE hS hF hU hW, by rw [hU]; exact hP, hD.weaken (fun _ _ _ _ => trivial)⟩⟩
theorem bx_pwV {As : List Value} {b ci q0 : Nat} {q : vw_C} {fs : List Value} (hE : bx_E dC dI cI cZ cJ A s) (hS : va_S A s.heap H locs) (hP : va_P (dC, dI) vwCl ws H) (hD : va_D A ws) (hF : ∀ q, va_A ws H.size q → A q) (hc : vwCl[ci]? = some q) (he : ws[q0]? = some (b, .inr (ci, fs))) : PreV s H q.1 b (bx_pW dC dI cI cZ cJ (.ref b :: As) ws H.size) As :=
  ⟨fun _ _ _ _ h => ⟨h.1, h.2.1, bx_E_call h.2.2.1, h.2.2.2⟩, va_recv hE.1 hP hc he, fun _ hU hW => ⟨rfl, by rw [hU], bx_E_at hE hS hF hU hW, by rw [hU]; exact hP, hD.weaken (fun _ _ _ _ => trivial)⟩⟩
variable {own C host : String} {index maxL n : Nat} {y : MethodName} {bytes : ByteArray} {ret : Option FieldType} {rm : Room}
theorem bx_cV (hts : ∀ w ∈ gw, w.before args s = true) (hc : Cond.code y bytes maxL ret ∈ gw) (hl : Cond.methodLink own index y ∈ gw) (hi : Cond.instanceMethod y ∈ gw) (hs : Cond.selects C y y ∈ gw) (hini : Cond.initialized y.cls ∈ gw) (hd : y.cls ≠ "java/lang/invoke/MethodHandle" ∧ y.cls ≠ "java/lang/invoke/VarHandle" ∧ (parseMethodDescriptor y.desc).map (fun d => d.parameters.length) = some n) (hR : rm.frames + 1 ≤ R.frames ∧ 8 + (maxL + 11) + rm.locals ≤ R.locals) :
    CallW R s args own C index y bytes maxL ret (bw y bytes maxL ret) rm rm.cells rm.slots n := ⟨callB_of n hts (bx_good hc) rfl rfl rfl (hts _ hini) (hts _ hl) hd hR, hts _ hi, hts _ hs⟩
theorem bx_cS (hts : ∀ w ∈ gw, w.before args s = true) (hc : Cond.code y bytes maxL ret ∈ gw) (hl : Cond.methodLink own index y ∈ gw) (hi : Cond.static y ∈ gw) (hini : Cond.initialized y.cls ∈ gw) (hd : y.cls ≠ "java/lang/invoke/MethodHandle" ∧ y.cls ≠ "java/lang/invoke/VarHandle" ∧ (parseMethodDescriptor y.desc).map (fun d => d.parameters.length) = some n) (hR : rm.frames + 1 ≤ R.frames ∧ 8 + (maxL + 11) + rm.locals ≤ R.locals) :
    CallB R s args own index y bytes maxL ret (bw y bytes maxL ret) rm rm.cells rm.slots n ∧ (Cond.static y).before args s = true := ⟨callB_of n hts (bx_good hc) rfl rfl rfl (hts _ hini) (hts _ hl) hd hR, hts _ hi⟩
theorem bx_cI (hts : ∀ w ∈ gw, w.before args s = true) (hc : Cond.code y bytes maxL none ∈ gw) (hl : Cond.methodLink own index y ∈ gw) (hi : Cond.instanceMethod y ∈ gw) (hini : Cond.initialized y.cls ∈ gw) (hd : (y.cls ≠ "java/lang/invoke/MethodHandle" ∧ y.cls ≠ "java/lang/invoke/VarHandle" ∧ (parseMethodDescriptor y.desc).map (fun d => d.parameters.length) = some n) ∧ y.name = "<init>") (hR : rm.frames + 1 ≤ R.frames ∧ 8 + (maxL + 11) + rm.locals ≤ R.locals) :
    CallB R s args own index y bytes maxL none (bw y bytes maxL none) rm rm.cells rm.slots n ∧ y.name = "<init>" ∧ (Cond.instanceMethod y).before args s = true := ⟨callB_of n hts (bx_good hc) rfl rfl rfl (hts _ hini) (hts _ hl) hd.1 hR, hd.2, hts _ hi⟩
theorem bx_nV (hts : ∀ w ∈ gw, w.before args s = true) (hN : bx_nw s) (hc : Cond.code y bytes maxL ret ∈ gw) (hl : Cond.methodLinkNest own index y host ∈ nwl) (hi : Cond.instanceMethod y ∈ gw) (hs : Cond.selects C y y ∈ gw) (hini : Cond.initialized y.cls ∈ gw) (hd : y.cls ≠ "java/lang/invoke/MethodHandle" ∧ y.cls ≠ "java/lang/invoke/VarHandle" ∧ (parseMethodDescriptor y.desc).map (fun d => d.parameters.length) = some n) (hR : rm.frames + 1 ≤ R.frames ∧ 8 + (maxL + 11) + rm.locals ≤ R.locals) :
    va_CN R s args own index y host bytes maxL ret (bw y bytes maxL ret) rm rm.cells rm.slots n ∧ (Cond.instanceMethod y).before args s = true ∧ (Cond.selects C y y).before args s = true := ⟨va_cnB n hts (bx_good hc) rfl rfl rfl (hN _ hl) (hts _ hini) hd hR, hts _ hi, hts _ hs⟩
theorem bx_nS (hts : ∀ w ∈ gw, w.before args s = true) (hN : bx_nw s) (hc : Cond.code y bytes maxL ret ∈ gw) (hl : Cond.methodLinkNest own index y host ∈ nwl) (hi : Cond.static y ∈ gw) (hini : Cond.initialized y.cls ∈ gw) (hd : y.cls ≠ "java/lang/invoke/MethodHandle" ∧ y.cls ≠ "java/lang/invoke/VarHandle" ∧ (parseMethodDescriptor y.desc).map (fun d => d.parameters.length) = some n) (hR : rm.frames + 1 ≤ R.frames ∧ 8 + (maxL + 11) + rm.locals ≤ R.locals) :
    va_CN R s args own index y host bytes maxL ret (bw y bytes maxL ret) rm rm.cells rm.slots n ∧ (Cond.static y).before args s = true ∧ True := ⟨va_cnB n hts (bx_good hc) rfl rfl rfl (hN _ hl) (hts _ hini) hd hR, hts _ hi, trivial⟩
theorem bx_nI (hts : ∀ w ∈ gw, w.before args s = true) (hN : bx_nw s) (hc : Cond.code y bytes maxL none ∈ gw) (hl : Cond.methodLinkNest own index y host ∈ nwl) (hi : Cond.instanceMethod y ∈ gw) (hini : Cond.initialized y.cls ∈ gw) (hd : (y.cls ≠ "java/lang/invoke/MethodHandle" ∧ y.cls ≠ "java/lang/invoke/VarHandle" ∧ (parseMethodDescriptor y.desc).map (fun d => d.parameters.length) = some n) ∧ y.name = "<init>") (hR : rm.frames + 1 ≤ R.frames ∧ 8 + (maxL + 11) + rm.locals ≤ R.locals) :
    va_CN R s args own index y host bytes maxL none (bw y bytes maxL none) rm rm.cells rm.slots n ∧ y.name = "<init>" ∧ (Cond.instanceMethod y).before args s = true := ⟨va_cnB n hts (bx_good hc) rfl rfl rfl (hN _ hl) (hts _ hini) hd.1 hR, hd.2, hts _ hi⟩
end BE
section BN
variable {p : Program} {l : Launch} {e : Env} {R : Room} {s : State} {m : MethodId} {args : Array Value} {below : List Frame} {meth : Method} {c : Code} {H : Heap} {locs : List Loc} {cells slots : Nat} {Q : State → Prop}
variable {cc : ByteArray} {pc : Nat} {ls : Array Slot} {rest : List Value} {A A0 : Nat → Prop} {ws : va_W} {H0 : Heap} {dC : Nat → ClassId} {dI : Nat → Nat → Nat} {cI cZ cJ : ClassId}
/-- a new array of ints -/
theorem bx_newa (hexec : p.tables.exec = Jvm.exec) (hb : c.code = cc) {atype : ArrayType} (hat : newarray.typeOf atype = .int) (harr : (Cond.arrayClass .int).before args s = true) (hE : bx_E dC dI cI cZ cJ A0 s) (hP : va_P (dC, dI) vwCl ws H) (hD : va_D A ws) (hS : va_S A H0 H locs) (hA : ∀ q, H0.size ≤ q → A q)
    {n : Int32} {N' : Nat} (hi : n = nI N') (hN : N' ≤ 134217728) (hcells : cells + 1 ≤ R.cells) (hslots : slots + N' ≤ R.slots) (hdg : decode cc pc = .ok (.newarray atype, 2))
    (kk : ∀ (q : Nat) (H1 : Heap), va_P (dC, dI) vwCl (ws ++ [(q, .inl (cI, N', .inl (fun _ => nI 0)))]) H1 → va_D A (ws ++ [(q, .inl (cI, N', .inl (fun _ => nI 0)))]) → va_S A H0 H1 locs →
      W p l e R s m args below meth c H1 locs (cells + 1) (slots + N') Q (F0 m (pc + 2) ls (.ref q :: rest))) : W p l e R s m args below meth c H locs cells slots Q (F0 m pc ls (.int n :: rest)) := by
  subst hi
  refine va_newa (a0 := (N', .inl (fun _ => nI 0))) (ty := .int) hexec hb (by rw [hat]; exact harr) hat hE.1 hP hD hS hA (fun _ => rfl) (nI_pos (by omega)) (nI_clamp (by omega)) (by show N' * 4 ≤ 536870912; omega) hcells hslots hdg (fun q cA H1 hK1 hP1 hD1 hS1 => ?_)
  have h1 : s.vm.findClass ("[" ++ FieldType.int.toString) = some cA := (hK1.2 3 (cA, .int) rfl).2
  have h2 : s.vm.findClass ("[" ++ FieldType.int.toString) = some cI := (hE.1.2 0 (cI, .int) rfl).2
  obtain rfl : cI = cA := Option.some.inj (h2.symm.trans h1)
  exact kk q H1 hP1 hD1 hS1
end BN
