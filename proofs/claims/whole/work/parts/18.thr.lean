-- ===== throw new X("..") out of the class, nothing written before =====
abbrev bx_up : List String := ["java/lang/RuntimeException", "java/lang/Exception"]
/-- words that are no good ones, by themselves -/
def xwl : List Cond := [.castable "java/lang/IllegalArgumentException" "java/lang/IllegalArgumentException", .castable "java/lang/UnsupportedOperationException" "java/lang/UnsupportedOperationException", .castable "java/lang/IndexOutOfBoundsException" "java/lang/IndexOutOfBoundsException", .declares ⟨"java/lang/RuntimeException", "<init>", "(Ljava/lang/String;)V"⟩, .declares ⟨"java/lang/Exception", "<init>", "(Ljava/lang/String;)V"⟩, .declares ⟨"java/lang/Throwable", "<init>", "(Ljava/lang/String;)V"⟩]
theorem xg_44 : ∀ w ∈ (vx_atS RX3 44 "java/lang/IllegalArgumentException" bx_up).filter goodWord, w ∈ gw := by decide +kernel
theorem xg_58 : ∀ w ∈ (vx_atS RX3 58 "java/lang/UnsupportedOperationException" bx_up).filter goodWord, w ∈ gw := by decide +kernel
theorem xg_120 : ∀ w ∈ (vx_atS RX3 120 "java/lang/IndexOutOfBoundsException" bx_up).filter goodWord, w ∈ gw := by decide +kernel
theorem xb_44 : ∀ w ∈ (vx_atS RX3 44 "java/lang/IllegalArgumentException" bx_up).filter (fun w => !goodWord w), w ∈ xwl := by decide +kernel
theorem xb_58 : ∀ w ∈ (vx_atS RX3 58 "java/lang/UnsupportedOperationException" bx_up).filter (fun w => !goodWord w), w ∈ xwl := by decide +kernel
theorem xb_120 : ∀ w ∈ (vx_atS RX3 120 "java/lang/IndexOutOfBoundsException" bx_up).filter (fun w => !goodWord w), w ∈ xwl := by decide +kernel
theorem xwl_ot : ∀ w ∈ xwl, vx_ot w = true := by decide +kernel
def bx_isX : Cond → Bool
  | .castable .. => true
  | .declares .. => true
  | _ => false
theorem xwl_all : xwl.all bx_isX = true := by decide +kernel
def bx_xw (U : State) : Prop := ∀ w ∈ xwl, va_Nw w U
theorem bx_xw.warm {s U : State} (hW : s.WarmedH U.vm) (h : bx_xw s) : bx_xw U := by
  intro w hw
  have h1 := h w hw
  have h2 : bx_isX w = true := List.all_eq_true.mp xwl_all w hw
  cases w with
  | castable => exact va_Nw.warmC hW h1
  | declares => exact va_tabs rfl (rfl : (s.setVm U.vm).vm = U.vm) (by rw [Cond.declares_setVm hW.alike]; exact h1)
  | _ => cases h2
theorem bx_xw.same {s U : State} (hv : s.vm = U.vm) (h : bx_xw s) : bx_xw U := by
  intro w hw
  have h1 := h w hw
  have h2 : bx_isX w = true := List.all_eq_true.mp xwl_all w hw
  cases w with
  | castable => exact va_Nw.same rfl hv h1
  | declares => exact va_Nw.same rfl hv h1
  | _ => cases h2
def bx_strs : List (Nat × String) := [(42, "a side is 0 or 1"), (56, "no room for another state"), (70, "no such gate, or no such nodes"), (72, "no room for another node"), (85, "no such state, or no such node"), (90, "no such nodes"), (95, "no room for another pair"), (105, "a depth is 1 to 20000"), (118, "no such word"), (131, "no such level"), (142, "no such node")]
/-- what a throw rests on: two statics of Throwable, the texts -/
def bx_x (A : Nat → Prop) (U : State) : Prop := vx_Zq Bundle.tN "UNASSIGNED_STACK" Bundle.steD A U U.heap ∧ vx_Zq Bundle.tN "SUPPRESSED_SENTINEL" Bundle.listD A U U.heap ∧ (∀ q ∈ bx_strs, ∃ a : Nat, vk_R RX3 q.1 q.2 a U) ∧ bx_xw U ∧ va_Nc "java/lang/UnsupportedOperationException" "java/lang/IllegalArgumentException" U
theorem bx_x_at {A A' : Nat → Prop} {s U : State} {H : Heap} {locs : List Loc} (h : bx_x A s) (hS : va_S A s.heap H locs) (hF : ∀ q, A' q → A q) (hU : U.heap = H) (hW : s.WarmedH U.vm) : bx_x A' U := by
  obtain ⟨h1, h2, h3, h4, h5⟩ := h
  subst hU
  exact ⟨((h1.moved hW.alike).kept (fun a ha hn => hS.2.1 a ha hn)).narrow hF, ((h2.moved hW.alike).kept (fun a ha hn => hS.2.1 a ha hn)).narrow hF, fun q hq => (h3 q hq).imp (fun a ha => ha.warm hW), h4.warm hW, h5.moved hW.alike⟩
theorem bx_x_call {A : Nat → Prop} {U : State} {g : JFrame} {mk : MethodId} {a : Array Value} (h : bx_x A U) : bx_x A (U.calling g mk a) := by
  obtain ⟨h1, h2, h3, h4, h5⟩ := h
  exact ⟨vx_Zq.moved (u := U) (U := U.calling g mk a) (Vm.Alike.refl U.vm) h1, vx_Zq.moved (u := U) (U := U.calling g mk a) (Vm.Alike.refl U.vm) h2, fun q hq => (h3 q hq).imp (fun b hb => vk_R.same (u := U) (U := U.calling g mk a) rfl hb), bx_xw.same (s := U) (U := U.calling g mk a) rfl h4, va_Nc.moved (u := U) (U := U.calling g mk a) (Vm.Alike.refl U.vm) h5⟩
def bx_pX (dC : Nat → ClassId) (dI : Nat → Nat → Nat) (cI cZ cJ : ClassId) (av : List Value) (ws : va_W) : Array Value → State → Prop := va_Pc av (fun U => bx_E dC dI cI cZ cJ (fun _ => False) U ∧ bx_x (fun _ => False) U ∧ va_P (dC, dI) vwCl ws U.heap)
theorem bx_pxV {dC : Nat → ClassId} {dI : Nat → Nat → Nat} {cI cZ cJ : ClassId} {A : Nat → Prop} {s : State} {H : Heap} {locs : List Loc} {ws : va_W} {As : List Value} {b ci q0 : Nat} {q : vw_C} {fs : List Value} (hE : bx_E dC dI cI cZ cJ A s) (hX : bx_x A s) (hS : va_S A s.heap H locs) (hP : va_P (dC, dI) vwCl ws H) (hc : vwCl[ci]? = some q) (he : ws[q0]? = some (b, .inr (ci, fs))) : PreV s H q.1 b (bx_pX dC dI cI cZ cJ (.ref b :: As) ws) As :=
  ⟨fun _ _ _ _ h => ⟨h.1, bx_E_call h.2.1, bx_x_call h.2.2.1, h.2.2.2⟩, va_recv hE.1 hP hc he, fun _ hU hW => ⟨rfl, bx_E_at hE hS (fun _ h => h.elim) hU hW, bx_x_at hX hS (fun _ h => h.elim) hU hW, by rw [hU]; exact hP⟩⟩
/-- a call that throws E: what comes of it -/
abbrev bx_qX : Array Value → State → Outcome → State → Prop := va_Qi (fun (_ : Int32) (_ : Unit) => False) (fun _ _ => True) (fun _ => False)
abbrev bx_tX (cls : String) : String → State → State → Prop := vx_X (fun (_ : Unit) => True) (fun E _ _ => E = cls) (fun _ => False)
section BTH
variable {p : Program} {l : Launch} {e : Env} {R : Room} {s : State} {m : MethodId} {args : Array Value} {below : List Frame} {meth : Method} {c : Code}
variable {cc : ByteArray} {pc : Nat} {ls : Array Slot}
theorem bx_thr (hexec : p.tables.exec = Jvm.exec) (hb : c.code = cc) (hl : l.stackTraces = false) {cls text : String} {ik is ic : Nat} (hown : s.vm.findClass RX3 = some m.cls) (hts : ∀ w ∈ gw, w.before args s = true) (hX : bx_x (fun _ => False) s)
    (hfit : Bundle.fit cls = true) (hk : Cond.classLink RX3 ik cls ∈ gw) (hini : Cond.initialized cls ∈ gw) (hat : ∀ w ∈ (vx_atS RX3 ic cls bx_up).filter goodWord, w ∈ gw) (hat2 : ∀ w ∈ (vx_atS RX3 ic cls bx_up).filter (fun w => !goodWord w), w ∈ xwl) (hst : (is, text) ∈ bx_strs)
    (hsize : ls.size = c.maxLocals) (d0 : decode cc pc = .ok (.new ik, 3)) (d3 : decode cc (pc + 3) = .ok (.dup, 1)) (d4 : decode cc (pc + 4) = .ok (.ldc is, 2)) (d6 : decode cc (pc + 6) = .ok (.invokespecial ic, 3)) (d9 : decode cc (pc + 9) = .ok (.athrow, 1))
    (hout : ∀ x ∈ c.exceptionTable.toList, False) (hR : 5 < R.frames ∧ 82 ≤ R.locals ∧ 1 ≤ R.cells ∧ 6 ≤ R.slots) (hlocks : meth.locks = false) :
    W p l e R s m args below meth c s.heap [] 0 0 (vx_MQ below bx_qX (bx_tX cls) args s 1 6 (fun _ => False)) (F0 m pc ls []) := by
  obtain ⟨h1, h2, h3, h4, -⟩ := hX
  obtain ⟨sa, hsa⟩ := h3 _ hst
  refine vx_throwS (names := bx_up) (sa := sa) (text := text) (A := fun _ => False) hexec hb hl hown hfit (by decide +kernel) (hts _ hk) (hts _ hini) hsa (vx_hat (fun w hw => hts w (hat w hw)) hat2 (fun w hw => va_Nw.use (A := args) (List.all_eq_true.mp (show xwl.all Cond.onTables = true by decide +kernel) w hw) (h4 w hw))) (fun w hw => ?_) h1 h2 va_S.rf hsize d0 d3 d4 d6 d9 (fun x hx => (hout x hx).elim) hR.1 hR.2.1 (by omega) (by omega) hlocks (fun t _ hz hk9 => ⟨(), trivial, rfl, hz, fun q hq _ => hk9 q hq⟩) (fun z hz => by cases hz) (by omega) (by omega)
  have hg : ∀ w ∈ gw, vx_ot w = true := fun w h => by
    have h5 := (List.mem_filter.mp h).2
    unfold vx_ot
    rw [h5, Bool.or_true]
  rcases List.mem_cons.mp hw with h | h
  · rw [h]; exact hg _ hk
  · rcases List.mem_cons.mp h with h | h
    · rw [h]; exact hg _ hini
    · by_cases g : goodWord w = true
      · exact hg w (hat w (List.mem_filter.mpr ⟨h, g⟩))
      · exact xwl_ot w (hat2 w (List.mem_filter.mpr ⟨h, by simp [g]⟩))
end BTH
