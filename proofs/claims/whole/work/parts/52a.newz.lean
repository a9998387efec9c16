section BNZ
variable {p : Program} {l : Launch} {e : Env} {R : Room} {s : State} {m : MethodId} {args : Array Value} {below : List Frame} {meth : Method} {c : Code} {H : Heap} {locs : List Loc} {cells slots : Nat} {Q : State → Prop}
variable {cc : ByteArray} {pc : Nat} {ls : Array Slot} {rest : List Value} {A A0 : Nat → Prop} {ws : va_W} {H0 : Heap} {dC : Nat → ClassId} {dI : Nat → Nat → Nat} {cI cZ cJ : ClassId}
/-- a new array of truths -/
theorem bx_newz (hexec : p.tables.exec = Jvm.exec) (hb : c.code = cc) {atype : ArrayType} (hat : newarray.typeOf atype = .boolean) (harr : (Cond.arrayClass .boolean).before args s = true) (hE : bx_E dC dI cI cZ cJ A0 s) (hP : va_P (dC, dI) vwCl ws H) (hD : va_D A ws) (hS : va_S A H0 H locs) (hA : ∀ q, H0.size ≤ q → A q)
    {n : Int32} {N' : Nat} (hi : n = nI N') (hN : N' ≤ 134217728) (hcells : cells + 1 ≤ R.cells) (hslots : slots + N' ≤ R.slots) (hdg : decode cc pc = .ok (.newarray atype, 2))
    (kk : ∀ (q : Nat) (H1 : Heap), va_P (dC, dI) vwCl (ws ++ [(q, .inl (cZ, N', .inl (fun _ => bz false)))]) H1 → va_D A (ws ++ [(q, .inl (cZ, N', .inl (fun _ => bz false)))]) → va_S A H0 H1 locs →
      W p l e R s m args below meth c H1 locs (cells + 1) (slots + N') Q (F0 m (pc + 2) ls (.ref q :: rest))) : W p l e R s m args below meth c H locs cells slots Q (F0 m pc ls (.int n :: rest)) := by
  subst hi
  refine va_newa (a0 := (N', .inl (fun _ => bz false))) (ty := .boolean) hexec hb (by rw [hat]; exact harr) hat hE.1 hP hD hS hA (fun _ => rfl) (nI_pos (by omega)) (nI_clamp (by omega)) (by show N' * 1 ≤ 536870912; omega) hcells hslots hdg (fun q cA H1 hK1 hP1 hD1 hS1 => ?_)
  have h1 : s.vm.findClass ("[" ++ FieldType.boolean.toString) = some cA := (hK1.2 3 (cA, .boolean) rfl).2
  have h2 : s.vm.findClass ("[" ++ FieldType.boolean.toString) = some cZ := (hE.1.2 1 (cZ, .boolean) rfl).2
  obtain rfl : cZ = cA := Option.some.inj (h2.symm.trans h1)
  exact kk q H1 hP1 hD1 hS1
/-- a new array of longs -/
theorem bx_newj (hexec : p.tables.exec = Jvm.exec) (hb : c.code = cc) {atype : ArrayType} (hat : newarray.typeOf atype = .long) (harr : (Cond.arrayClass .long).before args s = true) (hE : bx_E dC dI cI cZ cJ A0 s) (hP : va_P (dC, dI) vwCl ws H) (hD : va_D A ws) (hS : va_S A H0 H locs) (hA : ∀ q, H0.size ≤ q → A q)
    {n : Int32} {N' : Nat} (hi : n = nI N') (hN : N' ≤ 134217) (hcells : cells + 1 ≤ R.cells) (hslots : slots + N' ≤ R.slots) (hdg : decode cc pc = .ok (.newarray atype, 2))
    (kk : ∀ (q : Nat) (H1 : Heap), va_P (dC, dI) vwCl (ws ++ [(q, .inl (cJ, N', .inr (.inl (fun _ => 0))))]) H1 → va_D A (ws ++ [(q, .inl (cJ, N', .inr (.inl (fun _ => 0))))]) → va_S A H0 H1 locs →
      W p l e R s m args below meth c H1 locs (cells + 1) (slots + N') Q (F0 m (pc + 2) ls (.ref q :: rest))) : W p l e R s m args below meth c H locs cells slots Q (F0 m pc ls (.int n :: rest)) := by
  subst hi
  refine va_newa (a0 := (N', .inr (.inl (fun _ => 0)))) (ty := .long) hexec hb (by rw [hat]; exact harr) hat hE.1 hP hD hS hA (fun _ => rfl) (nI_pos (by omega)) (nI_clamp (by omega)) (by show N' * 8 ≤ 536870912; omega) hcells hslots hdg (fun q cA H1 hK1 hP1 hD1 hS1 => ?_)
  have h1 : s.vm.findClass ("[" ++ FieldType.long.toString) = some cA := (hK1.2 3 (cA, .long) rfl).2
  have h2 : s.vm.findClass ("[" ++ FieldType.long.toString) = some cJ := (hE.1.2 2 (cJ, .long) rfl).2
  obtain rfl : cJ = cA := Option.some.inj (h2.symm.trans h1)
  exact kk q H1 hP1 hD1 hS1
end BNZ
